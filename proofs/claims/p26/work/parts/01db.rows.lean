theorem dX2_addWindow_51 : decode cX2_addWindow 51 = .ok (.if_icmp .ge 37, 3) := by decide +kernel
theorem dX2_addWindow_54 : decode cX2_addWindow 54 = .ok (.aload_n 0, 1) := by decide +kernel
theorem dX2_addWindow_55 : decode cX2_addWindow 55 = .ok (.getfield 9, 3) := by decide +kernel
theorem dX2_addWindow_58 : decode cX2_addWindow 58 = .ok (.iload 4, 2) := by decide +kernel
theorem dX2_addWindow_60 : decode cX2_addWindow 60 = .ok (.iconst 1, 1) := by decide +kernel
theorem dX2_addWindow_61 : decode cX2_addWindow 61 = .ok (.bastore, 1) := by decide +kernel
theorem dX2_addWindow_62 : decode cX2_addWindow 62 = .ok (.aload_n 0, 1) := by decide +kernel
theorem dX2_addWindow_63 : decode cX2_addWindow 63 = .ok (.getfield 15, 3) := by decide +kernel
theorem dX2_addWindow_66 : decode cX2_addWindow 66 = .ok (.aload_n 0, 1) := by decide +kernel
theorem dX2_addWindow_67 : decode cX2_addWindow 67 = .ok (.getfield 38, 3) := by decide +kernel
theorem dX2_addWindow_70 : decode cX2_addWindow 70 = .ok (.iload 4, 2) := by decide +kernel
theorem dX2_addWindow_72 : decode cX2_addWindow 72 = .ok (.iastore, 1) := by decide +kernel
theorem dX2_addWindow_73 : decode cX2_addWindow 73 = .ok (.aload_n 0, 1) := by decide +kernel
theorem dX2_addWindow_74 : decode cX2_addWindow 74 = .ok (.dup, 1) := by decide +kernel
theorem dX2_addWindow_75 : decode cX2_addWindow 75 = .ok (.getfield 38, 3) := by decide +kernel
theorem dX2_addWindow_78 : decode cX2_addWindow 78 = .ok (.iconst 1, 1) := by decide +kernel
theorem dX2_addWindow_79 : decode cX2_addWindow 79 = .ok (.iadd, 1) := by decide +kernel
theorem dX2_addWindow_80 : decode cX2_addWindow 80 = .ok (.putfield 38, 3) := by decide +kernel
theorem dX2_addWindow_83 : decode cX2_addWindow 83 = .ok (.aload_n 0, 1) := by decide +kernel
theorem dX2_addWindow_84 : decode cX2_addWindow 84 = .ok (.iconst 1, 1) := by decide +kernel
theorem dX2_addWindow_85 : decode cX2_addWindow 85 = .ok (.putfield 34, 3) := by decide +kernel
theorem dX2_addWindow_88 : decode cX2_addWindow 88 = .ok (.return_, 1) := by decide +kernel
theorem dX3_init_0 : decode cX3_init 0 = .ok (.aload_n 0, 1) := by decide +kernel
theorem dX3_init_1 : decode cX3_init 1 = .ok (.invokespecial 3, 3) := by decide +kernel
theorem dX3_init_4 : decode cX3_init 4 = .ok (.aload_n 0, 1) := by decide +kernel
theorem dX3_init_5 : decode cX3_init 5 = .ok (.iload_n 1, 1) := by decide +kernel
theorem dX3_init_6 : decode cX3_init 6 = .ok (.putfield 9, 3) := by decide +kernel
theorem dX3_init_9 : decode cX3_init 9 = .ok (.aload_n 0, 1) := by decide +kernel
theorem dX3_init_10 : decode cX3_init 10 = .ok (.bipush 8, 2) := by decide +kernel
theorem dX3_init_12 : decode cX3_init 12 = .ok (.newarray .int, 2) := by decide +kernel
theorem dX3_init_14 : decode cX3_init 14 = .ok (.putfield 15, 3) := by decide +kernel
theorem dX3_init_17 : decode cX3_init 17 = .ok (.aload_n 0, 1) := by decide +kernel
theorem dX3_init_18 : decode cX3_init 18 = .ok (.bipush 8, 2) := by decide +kernel
theorem dX3_init_20 : decode cX3_init 20 = .ok (.newarray .int, 2) := by decide +kernel
theorem dX3_init_22 : decode cX3_init 22 = .ok (.putfield 19, 3) := by decide +kernel
theorem dX3_init_25 : decode cX3_init 25 = .ok (.aload_n 0, 1) := by decide +kernel
theorem dX3_init_26 : decode cX3_init 26 = .ok (.bipush 8, 2) := by decide +kernel
theorem dX3_init_28 : decode cX3_init 28 = .ok (.newarray .int, 2) := by decide +kernel
theorem dX3_init_30 : decode cX3_init 30 = .ok (.putfield 22, 3) := by decide +kernel
theorem dX3_init_33 : decode cX3_init 33 = .ok (.iconst 0, 1) := by decide +kernel
theorem dX3_init_34 : decode cX3_init 34 = .ok (.istore_n 2, 1) := by decide +kernel
theorem dX3_init_35 : decode cX3_init 35 = .ok (.iload_n 2, 1) := by decide +kernel
theorem dX3_init_36 : decode cX3_init 36 = .ok (.bipush 8, 2) := by decide +kernel
theorem dX3_init_38 : decode cX3_init 38 = .ok (.if_icmp .ge 16, 3) := by decide +kernel
theorem dX3_init_41 : decode cX3_init 41 = .ok (.aload_n 0, 1) := by decide +kernel
theorem dX3_init_42 : decode cX3_init 42 = .ok (.getfield 15, 3) := by decide +kernel
theorem dX3_init_45 : decode cX3_init 45 = .ok (.iload_n 2, 1) := by decide +kernel
theorem dX3_init_46 : decode cX3_init 46 = .ok (.iconst (-1), 1) := by decide +kernel
theorem dX3_init_47 : decode cX3_init 47 = .ok (.iastore, 1) := by decide +kernel
theorem dX3_init_48 : decode cX3_init 48 = .ok (.iinc 2 1, 3) := by decide +kernel
theorem dX3_init_51 : decode cX3_init 51 = .ok (.goto (-16), 3) := by decide +kernel
theorem dX3_init_54 : decode cX3_init 54 = .ok (.aload_n 0, 1) := by decide +kernel
theorem dX3_init_55 : decode cX3_init 55 = .ok (.iconst (-1), 1) := by decide +kernel
theorem dX3_init_56 : decode cX3_init 56 = .ok (.putfield 25, 3) := by decide +kernel
theorem dX3_init_59 : decode cX3_init 59 = .ok (.aload_n 0, 1) := by decide +kernel
theorem dX3_init_60 : decode cX3_init 60 = .ok (.iconst (-1), 1) := by decide +kernel
theorem dX3_init_61 : decode cX3_init 61 = .ok (.putfield 28, 3) := by decide +kernel
theorem dX3_init_64 : decode cX3_init 64 = .ok (.aload_n 0, 1) := by decide +kernel
theorem dX3_init_65 : decode cX3_init 65 = .ok (.iconst (-1), 1) := by decide +kernel
theorem dX3_init_66 : decode cX3_init 66 = .ok (.putfield 31, 3) := by decide +kernel
theorem dX3_init_69 : decode cX3_init 69 = .ok (.return_, 1) := by decide +kernel
theorem dX3_copy_0 : decode cX3_copy 0 = .ok (.iconst 0, 1) := by decide +kernel
theorem dX3_copy_1 : decode cX3_copy 1 = .ok (.istore_n 2, 1) := by decide +kernel
theorem dX3_copy_2 : decode cX3_copy 2 = .ok (.iload_n 2, 1) := by decide +kernel
theorem dX3_copy_3 : decode cX3_copy 3 = .ok (.bipush 8, 2) := by decide +kernel
theorem dX3_copy_5 : decode cX3_copy 5 = .ok (.if_icmp .ge 45, 3) := by decide +kernel
theorem dX3_copy_8 : decode cX3_copy 8 = .ok (.aload_n 0, 1) := by decide +kernel
theorem dX3_copy_9 : decode cX3_copy 9 = .ok (.getfield 15, 3) := by decide +kernel
theorem dX3_copy_12 : decode cX3_copy 12 = .ok (.iload_n 2, 1) := by decide +kernel
theorem dX3_copy_13 : decode cX3_copy 13 = .ok (.aload_n 1, 1) := by decide +kernel
theorem dX3_copy_14 : decode cX3_copy 14 = .ok (.getfield 15, 3) := by decide +kernel
theorem dX3_copy_17 : decode cX3_copy 17 = .ok (.iload_n 2, 1) := by decide +kernel
theorem dX3_copy_18 : decode cX3_copy 18 = .ok (.iaload, 1) := by decide +kernel
theorem dX3_copy_19 : decode cX3_copy 19 = .ok (.iastore, 1) := by decide +kernel
theorem dX3_copy_20 : decode cX3_copy 20 = .ok (.aload_n 0, 1) := by decide +kernel
theorem dX3_copy_21 : decode cX3_copy 21 = .ok (.getfield 19, 3) := by decide +kernel
theorem dX3_copy_24 : decode cX3_copy 24 = .ok (.iload_n 2, 1) := by decide +kernel
theorem dX3_copy_25 : decode cX3_copy 25 = .ok (.aload_n 1, 1) := by decide +kernel
theorem dX3_copy_26 : decode cX3_copy 26 = .ok (.getfield 19, 3) := by decide +kernel
theorem dX3_copy_29 : decode cX3_copy 29 = .ok (.iload_n 2, 1) := by decide +kernel
theorem dX3_copy_30 : decode cX3_copy 30 = .ok (.iaload, 1) := by decide +kernel
theorem dX3_copy_31 : decode cX3_copy 31 = .ok (.iastore, 1) := by decide +kernel
theorem dX3_copy_32 : decode cX3_copy 32 = .ok (.aload_n 0, 1) := by decide +kernel
theorem dX3_copy_33 : decode cX3_copy 33 = .ok (.getfield 22, 3) := by decide +kernel
theorem dX3_copy_36 : decode cX3_copy 36 = .ok (.iload_n 2, 1) := by decide +kernel
theorem dX3_copy_37 : decode cX3_copy 37 = .ok (.aload_n 1, 1) := by decide +kernel
theorem dX3_copy_38 : decode cX3_copy 38 = .ok (.getfield 22, 3) := by decide +kernel
theorem dX3_copy_41 : decode cX3_copy 41 = .ok (.iload_n 2, 1) := by decide +kernel
theorem dX3_copy_42 : decode cX3_copy 42 = .ok (.iaload, 1) := by decide +kernel
theorem dX3_copy_43 : decode cX3_copy 43 = .ok (.iastore, 1) := by decide +kernel
theorem dX3_copy_44 : decode cX3_copy 44 = .ok (.iinc 2 1, 3) := by decide +kernel
theorem dX3_copy_47 : decode cX3_copy 47 = .ok (.goto (-45), 3) := by decide +kernel
theorem dX3_copy_50 : decode cX3_copy 50 = .ok (.return_, 1) := by decide +kernel
theorem dX3_settle_0 : decode cX3_settle 0 = .ok (.aload_n 0, 1) := by decide +kernel
theorem dX3_settle_1 : decode cX3_settle 1 = .ok (.iload_n 1, 1) := by decide +kernel
theorem dX3_settle_2 : decode cX3_settle 2 = .ok (.putfield 25, 3) := by decide +kernel
theorem dX3_settle_5 : decode cX3_settle 5 = .ok (.aload_n 0, 1) := by decide +kernel
theorem dX3_settle_6 : decode cX3_settle 6 = .ok (.iload_n 2, 1) := by decide +kernel
theorem dX3_settle_7 : decode cX3_settle 7 = .ok (.putfield 28, 3) := by decide +kernel
theorem dX3_settle_10 : decode cX3_settle 10 = .ok (.aload_n 0, 1) := by decide +kernel
theorem dX3_settle_11 : decode cX3_settle 11 = .ok (.iload_n 3, 1) := by decide +kernel
theorem dX3_settle_12 : decode cX3_settle 12 = .ok (.putfield 31, 3) := by decide +kernel
theorem dX3_settle_15 : decode cX3_settle 15 = .ok (.return_, 1) := by decide +kernel
theorem dX3_writeOf_0 : decode cX3_writeOf 0 = .ok (.iload_n 1, 1) := by decide +kernel
theorem dX3_writeOf_1 : decode cX3_writeOf 1 = .ok (.ifCond .lt 18, 3) := by decide +kernel
theorem dX3_writeOf_4 : decode cX3_writeOf 4 = .ok (.iload_n 1, 1) := by decide +kernel
theorem dX3_writeOf_5 : decode cX3_writeOf 5 = .ok (.bipush 8, 2) := by decide +kernel
theorem dX3_writeOf_7 : decode cX3_writeOf 7 = .ok (.if_icmp .ge 12, 3) := by decide +kernel
theorem dX3_writeOf_10 : decode cX3_writeOf 10 = .ok (.aload_n 0, 1) := by decide +kernel
theorem dX3_writeOf_11 : decode cX3_writeOf 11 = .ok (.getfield 15, 3) := by decide +kernel
theorem dX3_writeOf_14 : decode cX3_writeOf 14 = .ok (.iload_n 1, 1) := by decide +kernel
theorem dX3_writeOf_15 : decode cX3_writeOf 15 = .ok (.iaload, 1) := by decide +kernel
theorem dX3_writeOf_16 : decode cX3_writeOf 16 = .ok (.goto 4, 3) := by decide +kernel
theorem dX3_writeOf_19 : decode cX3_writeOf 19 = .ok (.iconst (-1), 1) := by decide +kernel
theorem dX3_writeOf_20 : decode cX3_writeOf 20 = .ok (.ireturn, 1) := by decide +kernel
theorem dX3_moveOf_0 : decode cX3_moveOf 0 = .ok (.iload_n 1, 1) := by decide +kernel
theorem dX3_moveOf_1 : decode cX3_moveOf 1 = .ok (.ifCond .lt 18, 3) := by decide +kernel
theorem dX3_moveOf_4 : decode cX3_moveOf 4 = .ok (.iload_n 1, 1) := by decide +kernel
theorem dX3_moveOf_5 : decode cX3_moveOf 5 = .ok (.bipush 8, 2) := by decide +kernel
theorem dX3_moveOf_7 : decode cX3_moveOf 7 = .ok (.if_icmp .ge 12, 3) := by decide +kernel
theorem dX3_moveOf_10 : decode cX3_moveOf 10 = .ok (.aload_n 0, 1) := by decide +kernel
theorem dX3_moveOf_11 : decode cX3_moveOf 11 = .ok (.getfield 19, 3) := by decide +kernel
theorem dX3_moveOf_14 : decode cX3_moveOf 14 = .ok (.iload_n 1, 1) := by decide +kernel
theorem dX3_moveOf_15 : decode cX3_moveOf 15 = .ok (.iaload, 1) := by decide +kernel
theorem dX3_moveOf_16 : decode cX3_moveOf 16 = .ok (.goto 4, 3) := by decide +kernel
theorem dX3_moveOf_19 : decode cX3_moveOf 19 = .ok (.iconst 0, 1) := by decide +kernel
theorem dX3_moveOf_20 : decode cX3_moveOf 20 = .ok (.ireturn, 1) := by decide +kernel
theorem dX3_nextOf_0 : decode cX3_nextOf 0 = .ok (.iload_n 1, 1) := by decide +kernel
theorem dX3_nextOf_1 : decode cX3_nextOf 1 = .ok (.ifCond .lt 18, 3) := by decide +kernel
theorem dX3_nextOf_4 : decode cX3_nextOf 4 = .ok (.iload_n 1, 1) := by decide +kernel
theorem dX3_nextOf_5 : decode cX3_nextOf 5 = .ok (.bipush 8, 2) := by decide +kernel
theorem dX3_nextOf_7 : decode cX3_nextOf 7 = .ok (.if_icmp .ge 12, 3) := by decide +kernel
theorem dX3_nextOf_10 : decode cX3_nextOf 10 = .ok (.aload_n 0, 1) := by decide +kernel
theorem dX3_nextOf_11 : decode cX3_nextOf 11 = .ok (.getfield 22, 3) := by decide +kernel
theorem dX3_nextOf_14 : decode cX3_nextOf 14 = .ok (.iload_n 1, 1) := by decide +kernel
theorem dX3_nextOf_15 : decode cX3_nextOf 15 = .ok (.iaload, 1) := by decide +kernel
theorem dX3_nextOf_16 : decode cX3_nextOf 16 = .ok (.goto 4, 3) := by decide +kernel
theorem dX3_nextOf_19 : decode cX3_nextOf 19 = .ok (.iconst 0, 1) := by decide +kernel
theorem dX3_nextOf_20 : decode cX3_nextOf 20 = .ok (.ireturn, 1) := by decide +kernel
theorem dX3_isEmpty_0 : decode cX3_isEmpty 0 = .ok (.iload_n 1, 1) := by decide +kernel
theorem dX3_isEmpty_1 : decode cX3_isEmpty 1 = .ok (.ifCond .lt 19, 3) := by decide +kernel
theorem dX3_isEmpty_4 : decode cX3_isEmpty 4 = .ok (.iload_n 1, 1) := by decide +kernel
theorem dX3_isEmpty_5 : decode cX3_isEmpty 5 = .ok (.bipush 8, 2) := by decide +kernel
theorem dX3_isEmpty_7 : decode cX3_isEmpty 7 = .ok (.if_icmp .ge 13, 3) := by decide +kernel
theorem dX3_isEmpty_10 : decode cX3_isEmpty 10 = .ok (.aload_n 0, 1) := by decide +kernel
theorem dX3_isEmpty_11 : decode cX3_isEmpty 11 = .ok (.getfield 15, 3) := by decide +kernel
theorem dX3_isEmpty_14 : decode cX3_isEmpty 14 = .ok (.iload_n 1, 1) := by decide +kernel
theorem dX3_isEmpty_15 : decode cX3_isEmpty 15 = .ok (.iaload, 1) := by decide +kernel
theorem dX3_isEmpty_16 : decode cX3_isEmpty 16 = .ok (.iconst (-1), 1) := by decide +kernel
theorem dX3_isEmpty_17 : decode cX3_isEmpty 17 = .ok (.if_icmp .ne 7, 3) := by decide +kernel
theorem dX3_isEmpty_20 : decode cX3_isEmpty 20 = .ok (.iconst 1, 1) := by decide +kernel
theorem dX3_isEmpty_21 : decode cX3_isEmpty 21 = .ok (.goto 4, 3) := by decide +kernel
theorem dX3_isEmpty_24 : decode cX3_isEmpty 24 = .ok (.iconst 0, 1) := by decide +kernel
theorem dX3_isEmpty_25 : decode cX3_isEmpty 25 = .ok (.ireturn, 1) := by decide +kernel
theorem dX3_isEnd_0 : decode cX3_isEnd 0 = .ok (.aload_n 0, 1) := by decide +kernel
theorem dX3_isEnd_1 : decode cX3_isEnd 1 = .ok (.iload_n 1, 1) := by decide +kernel
theorem dX3_isEnd_2 : decode cX3_isEnd 2 = .ok (.invokevirtual 34, 3) := by decide +kernel
theorem dX3_isEnd_5 : decode cX3_isEnd 5 = .ok (.ifCond .ne 15, 3) := by decide +kernel
theorem dX3_isEnd_8 : decode cX3_isEnd 8 = .ok (.aload_n 0, 1) := by decide +kernel
theorem dX3_isEnd_9 : decode cX3_isEnd 9 = .ok (.iload_n 1, 1) := by decide +kernel
theorem dX3_isEnd_10 : decode cX3_isEnd 10 = .ok (.invokevirtual 38, 3) := by decide +kernel
theorem dX3_isEnd_13 : decode cX3_isEnd 13 = .ok (.aload_n 0, 1) := by decide +kernel
theorem dX3_isEnd_14 : decode cX3_isEnd 14 = .ok (.getfield 9, 3) := by decide +kernel
theorem dX3_isEnd_17 : decode cX3_isEnd 17 = .ok (.if_icmp .lt 7, 3) := by decide +kernel
theorem dX3_isEnd_20 : decode cX3_isEnd 20 = .ok (.iconst 1, 1) := by decide +kernel
theorem dX3_isEnd_21 : decode cX3_isEnd 21 = .ok (.goto 4, 3) := by decide +kernel
theorem dX3_isEnd_24 : decode cX3_isEnd 24 = .ok (.iconst 0, 1) := by decide +kernel
theorem dX3_isEnd_25 : decode cX3_isEnd 25 = .ok (.ireturn, 1) := by decide +kernel
theorem dX3_fill_0 : decode cX3_fill 0 = .ok (.iload_n 1, 1) := by decide +kernel
theorem dX3_fill_1 : decode cX3_fill 1 = .ok (.ifCond .lt 31, 3) := by decide +kernel
theorem dX3_fill_4 : decode cX3_fill 4 = .ok (.iload_n 1, 1) := by decide +kernel
theorem dX3_fill_5 : decode cX3_fill 5 = .ok (.bipush 8, 2) := by decide +kernel
theorem dX3_fill_7 : decode cX3_fill 7 = .ok (.if_icmp .ge 25, 3) := by decide +kernel
theorem dX3_fill_10 : decode cX3_fill 10 = .ok (.aload_n 0, 1) := by decide +kernel
theorem dX3_fill_11 : decode cX3_fill 11 = .ok (.getfield 15, 3) := by decide +kernel
theorem dX3_fill_14 : decode cX3_fill 14 = .ok (.iload_n 1, 1) := by decide +kernel
theorem dX3_fill_15 : decode cX3_fill 15 = .ok (.iload_n 2, 1) := by decide +kernel
theorem dX3_fill_16 : decode cX3_fill 16 = .ok (.iastore, 1) := by decide +kernel
theorem dX3_fill_17 : decode cX3_fill 17 = .ok (.aload_n 0, 1) := by decide +kernel
theorem dX3_fill_18 : decode cX3_fill 18 = .ok (.getfield 19, 3) := by decide +kernel
theorem dX3_fill_21 : decode cX3_fill 21 = .ok (.iload_n 1, 1) := by decide +kernel
theorem dX3_fill_22 : decode cX3_fill 22 = .ok (.iload_n 3, 1) := by decide +kernel
theorem dX3_fill_23 : decode cX3_fill 23 = .ok (.iastore, 1) := by decide +kernel
theorem dX3_fill_24 : decode cX3_fill 24 = .ok (.aload_n 0, 1) := by decide +kernel
theorem dX3_fill_25 : decode cX3_fill 25 = .ok (.getfield 22, 3) := by decide +kernel
theorem dX3_fill_28 : decode cX3_fill 28 = .ok (.iload_n 1, 1) := by decide +kernel
theorem dX3_fill_29 : decode cX3_fill 29 = .ok (.iload 4, 2) := by decide +kernel
theorem dX3_fill_31 : decode cX3_fill 31 = .ok (.iastore, 1) := by decide +kernel
theorem dX3_fill_32 : decode cX3_fill 32 = .ok (.return_, 1) := by decide +kernel
theorem dX3_countCells_0 : decode cX3_countCells 0 = .ok (.iconst 2, 1) := by decide +kernel
theorem dX3_countCells_1 : decode cX3_countCells 1 = .ok (.aload_n 0, 1) := by decide +kernel
theorem dX3_countCells_2 : decode cX3_countCells 2 = .ok (.getfield 9, 3) := by decide +kernel
theorem dX3_countCells_5 : decode cX3_countCells 5 = .ok (.imul, 1) := by decide +kernel
theorem dX3_countCells_6 : decode cX3_countCells 6 = .ok (.ireturn, 1) := by decide +kernel
theorem dX3_countEmpty_0 : decode cX3_countEmpty 0 = .ok (.iconst 0, 1) := by decide +kernel
theorem dX3_countEmpty_1 : decode cX3_countEmpty 1 = .ok (.istore_n 1, 1) := by decide +kernel
theorem dX3_countEmpty_2 : decode cX3_countEmpty 2 = .ok (.iconst 0, 1) := by decide +kernel
theorem dX3_countEmpty_3 : decode cX3_countEmpty 3 = .ok (.istore_n 2, 1) := by decide +kernel
theorem dX3_countEmpty_4 : decode cX3_countEmpty 4 = .ok (.iload_n 2, 1) := by decide +kernel
theorem dX3_countEmpty_5 : decode cX3_countEmpty 5 = .ok (.aload_n 0, 1) := by decide +kernel
theorem dX3_countEmpty_6 : decode cX3_countEmpty 6 = .ok (.invokevirtual 42, 3) := by decide +kernel
theorem dX3_countEmpty_9 : decode cX3_countEmpty 9 = .ok (.if_icmp .ge 20, 3) := by decide +kernel
theorem dX3_countEmpty_12 : decode cX3_countEmpty 12 = .ok (.aload_n 0, 1) := by decide +kernel
theorem dX3_countEmpty_13 : decode cX3_countEmpty 13 = .ok (.iload_n 2, 1) := by decide +kernel
theorem dX3_countEmpty_14 : decode cX3_countEmpty 14 = .ok (.invokevirtual 34, 3) := by decide +kernel
theorem dX3_countEmpty_17 : decode cX3_countEmpty 17 = .ok (.ifCond .eq 6, 3) := by decide +kernel
theorem dX3_countEmpty_20 : decode cX3_countEmpty 20 = .ok (.iinc 1 1, 3) := by decide +kernel
theorem dX3_countEmpty_23 : decode cX3_countEmpty 23 = .ok (.iinc 2 1, 3) := by decide +kernel
theorem dX3_countEmpty_26 : decode cX3_countEmpty 26 = .ok (.goto (-22), 3) := by decide +kernel
theorem dX3_countEmpty_29 : decode cX3_countEmpty 29 = .ok (.iload_n 1, 1) := by decide +kernel
theorem dX3_countEmpty_30 : decode cX3_countEmpty 30 = .ok (.ireturn, 1) := by decide +kernel
theorem dX3_countFillings_0 : decode cX3_countFillings 0 = .ok (.iconst 0, 1) := by decide +kernel
theorem dX3_countFillings_1 : decode cX3_countFillings 1 = .ok (.istore_n 1, 1) := by decide +kernel
theorem dX3_countFillings_2 : decode cX3_countFillings 2 = .ok (.iconst 0, 1) := by decide +kernel
theorem dX3_countFillings_3 : decode cX3_countFillings 3 = .ok (.istore_n 2, 1) := by decide +kernel
theorem dX3_countFillings_4 : decode cX3_countFillings 4 = .ok (.iload_n 2, 1) := by decide +kernel
theorem dX3_countFillings_5 : decode cX3_countFillings 5 = .ok (.aload_n 0, 1) := by decide +kernel
theorem dX3_countFillings_6 : decode cX3_countFillings 6 = .ok (.invokevirtual 42, 3) := by decide +kernel
theorem dX3_countFillings_9 : decode cX3_countFillings 9 = .ok (.if_icmp .ge 27, 3) := by decide +kernel
theorem dX3_countFillings_12 : decode cX3_countFillings 12 = .ok (.aload_n 0, 1) := by decide +kernel
theorem dX3_countFillings_13 : decode cX3_countFillings 13 = .ok (.iload_n 2, 1) := by decide +kernel
theorem dX3_countFillings_14 : decode cX3_countFillings 14 = .ok (.invokevirtual 46, 3) := by decide +kernel
theorem dX3_countFillings_17 : decode cX3_countFillings 17 = .ok (.ifCond .ne 13, 3) := by decide +kernel
theorem dX3_countFillings_20 : decode cX3_countFillings 20 = .ok (.iload_n 1, 1) := by decide +kernel
theorem dX3_countFillings_21 : decode cX3_countFillings 21 = .ok (.aload_n 0, 1) := by decide +kernel
theorem dX3_countFillings_22 : decode cX3_countFillings 22 = .ok (.iload_n 2, 1) := by decide +kernel
theorem dX3_countFillings_23 : decode cX3_countFillings 23 = .ok (.invokevirtual 38, 3) := by decide +kernel
theorem dX3_countFillings_26 : decode cX3_countFillings 26 = .ok (.invokestatic 49, 3) := by decide +kernel
theorem dX3_countFillings_29 : decode cX3_countFillings 29 = .ok (.istore_n 1, 1) := by decide +kernel
theorem dX3_countFillings_30 : decode cX3_countFillings 30 = .ok (.iinc 2 1, 3) := by decide +kernel
theorem dX3_countFillings_33 : decode cX3_countFillings 33 = .ok (.goto (-29), 3) := by decide +kernel
theorem dX3_countFillings_36 : decode cX3_countFillings 36 = .ok (.iload_n 1, 1) := by decide +kernel
theorem dX3_countFillings_37 : decode cX3_countFillings 37 = .ok (.iconst 1, 1) := by decide +kernel
theorem dX3_countFillings_38 : decode cX3_countFillings 38 = .ok (.iadd, 1) := by decide +kernel
theorem dX3_countFillings_39 : decode cX3_countFillings 39 = .ok (.aload_n 0, 1) := by decide +kernel
theorem dX3_countFillings_40 : decode cX3_countFillings 40 = .ok (.getfield 9, 3) := by decide +kernel
theorem dX3_countFillings_43 : decode cX3_countFillings 43 = .ok (.iconst 1, 1) := by decide +kernel
theorem dX3_countFillings_44 : decode cX3_countFillings 44 = .ok (.isub, 1) := by decide +kernel
theorem dX3_countFillings_45 : decode cX3_countFillings 45 = .ok (.invokestatic 55, 3) := by decide +kernel
theorem dX3_countFillings_48 : decode cX3_countFillings 48 = .ok (.istore_n 2, 1) := by decide +kernel
theorem dX3_countFillings_49 : decode cX3_countFillings 49 = .ok (.iconst 1, 1) := by decide +kernel
theorem dX3_countFillings_50 : decode cX3_countFillings 50 = .ok (.iconst 4, 1) := by decide +kernel
theorem dX3_countFillings_51 : decode cX3_countFillings 51 = .ok (.iload_n 2, 1) := by decide +kernel
theorem dX3_countFillings_52 : decode cX3_countFillings 52 = .ok (.iconst 1, 1) := by decide +kernel
theorem dX3_countFillings_53 : decode cX3_countFillings 53 = .ok (.iadd, 1) := by decide +kernel
theorem dX3_countFillings_54 : decode cX3_countFillings 54 = .ok (.imul, 1) := by decide +kernel
theorem dX3_countFillings_55 : decode cX3_countFillings 55 = .ok (.iadd, 1) := by decide +kernel
theorem dX3_countFillings_56 : decode cX3_countFillings 56 = .ok (.ireturn, 1) := by decide +kernel
theorem dX3_fillByWay_0 : decode cX3_fillByWay 0 = .ok (.iload_n 2, 1) := by decide +kernel
theorem dX3_fillByWay_1 : decode cX3_fillByWay 1 = .ok (.ifCond .gt 15, 3) := by decide +kernel
theorem dX3_fillByWay_4 : decode cX3_fillByWay 4 = .ok (.aload_n 0, 1) := by decide +kernel
theorem dX3_fillByWay_5 : decode cX3_fillByWay 5 = .ok (.iload_n 1, 1) := by decide +kernel
theorem dX3_fillByWay_6 : decode cX3_fillByWay 6 = .ok (.iconst 1, 1) := by decide +kernel
theorem dX3_fillByWay_7 : decode cX3_fillByWay 7 = .ok (.iconst 1, 1) := by decide +kernel
theorem dX3_fillByWay_8 : decode cX3_fillByWay 8 = .ok (.aload_n 0, 1) := by decide +kernel
theorem dX3_fillByWay_9 : decode cX3_fillByWay 9 = .ok (.getfield 9, 3) := by decide +kernel
theorem dX3_fillByWay_12 : decode cX3_fillByWay 12 = .ok (.invokevirtual 58, 3) := by decide +kernel
theorem dX3_fillByWay_15 : decode cX3_fillByWay 15 = .ok (.return_, 1) := by decide +kernel
theorem dX3_fillByWay_16 : decode cX3_fillByWay 16 = .ok (.iload_n 2, 1) := by decide +kernel
theorem dX3_fillByWay_17 : decode cX3_fillByWay 17 = .ok (.iconst 1, 1) := by decide +kernel
theorem dX3_fillByWay_18 : decode cX3_fillByWay 18 = .ok (.isub, 1) := by decide +kernel
theorem dX3_fillByWay_19 : decode cX3_fillByWay 19 = .ok (.iconst 4, 1) := by decide +kernel
theorem dX3_fillByWay_20 : decode cX3_fillByWay 20 = .ok (.irem, 1) := by decide +kernel
theorem dX3_fillByWay_21 : decode cX3_fillByWay 21 = .ok (.istore_n 3, 1) := by decide +kernel
theorem dX3_fillByWay_22 : decode cX3_fillByWay 22 = .ok (.aload_n 0, 1) := by decide +kernel
theorem dX3_fillByWay_23 : decode cX3_fillByWay 23 = .ok (.iload_n 1, 1) := by decide +kernel
theorem dX3_fillByWay_24 : decode cX3_fillByWay 24 = .ok (.iload_n 3, 1) := by decide +kernel
theorem dX3_fillByWay_25 : decode cX3_fillByWay 25 = .ok (.iconst 2, 1) := by decide +kernel
theorem dX3_fillByWay_26 : decode cX3_fillByWay 26 = .ok (.irem, 1) := by decide +kernel
theorem dX3_fillByWay_27 : decode cX3_fillByWay 27 = .ok (.ifCond .ne 7, 3) := by decide +kernel
theorem dX3_fillByWay_30 : decode cX3_fillByWay 30 = .ok (.iconst 1, 1) := by decide +kernel
theorem dX3_fillByWay_31 : decode cX3_fillByWay 31 = .ok (.goto 4, 3) := by decide +kernel
theorem dX3_fillByWay_34 : decode cX3_fillByWay 34 = .ok (.iconst 0, 1) := by decide +kernel
theorem dX3_fillByWay_35 : decode cX3_fillByWay 35 = .ok (.iload_n 3, 1) := by decide +kernel
theorem dX3_fillByWay_36 : decode cX3_fillByWay 36 = .ok (.iconst 2, 1) := by decide +kernel
theorem dX3_fillByWay_37 : decode cX3_fillByWay 37 = .ok (.if_icmp .ge 7, 3) := by decide +kernel
theorem dX3_fillByWay_40 : decode cX3_fillByWay 40 = .ok (.iconst 1, 1) := by decide +kernel
theorem dX3_fillByWay_41 : decode cX3_fillByWay 41 = .ok (.goto 4, 3) := by decide +kernel
theorem dX3_fillByWay_44 : decode cX3_fillByWay 44 = .ok (.iconst (-1), 1) := by decide +kernel
theorem dX3_fillByWay_45 : decode cX3_fillByWay 45 = .ok (.iload_n 2, 1) := by decide +kernel
theorem dX3_fillByWay_46 : decode cX3_fillByWay 46 = .ok (.iconst 1, 1) := by decide +kernel
theorem dX3_fillByWay_47 : decode cX3_fillByWay 47 = .ok (.isub, 1) := by decide +kernel
theorem dX3_fillByWay_48 : decode cX3_fillByWay 48 = .ok (.iconst 4, 1) := by decide +kernel
theorem dX3_fillByWay_49 : decode cX3_fillByWay 49 = .ok (.idiv, 1) := by decide +kernel
theorem dX3_fillByWay_50 : decode cX3_fillByWay 50 = .ok (.invokevirtual 58, 3) := by decide +kernel
theorem dX3_fillByWay_53 : decode cX3_fillByWay 53 = .ok (.return_, 1) := by decide +kernel
theorem dX4_init_0 : decode cX4_init 0 = .ok (.aload_n 0, 1) := by decide +kernel
theorem dX4_init_1 : decode cX4_init 1 = .ok (.invokespecial 3, 3) := by decide +kernel
theorem dX4_init_4 : decode cX4_init 4 = .ok (.aload_n 0, 1) := by decide +kernel
theorem dX4_init_5 : decode cX4_init 5 = .ok (.bipush 24, 2) := by decide +kernel
theorem dX4_init_7 : decode cX4_init 7 = .ok (.newarray .int, 2) := by decide +kernel
theorem dX4_init_9 : decode cX4_init 9 = .ok (.putfield 9, 3) := by decide +kernel
theorem dX4_init_12 : decode cX4_init 12 = .ok (.aload_n 0, 1) := by decide +kernel
theorem dX4_init_13 : decode cX4_init 13 = .ok (.bipush 24, 2) := by decide +kernel
theorem dX4_init_15 : decode cX4_init 15 = .ok (.newarray .int, 2) := by decide +kernel
theorem dX4_init_17 : decode cX4_init 17 = .ok (.putfield 15, 3) := by decide +kernel
theorem dX4_init_20 : decode cX4_init 20 = .ok (.aload_n 0, 1) := by decide +kernel
theorem dX4_init_21 : decode cX4_init 21 = .ok (.bipush 24, 2) := by decide +kernel
theorem dX4_init_23 : decode cX4_init 23 = .ok (.newarray .int, 2) := by decide +kernel
theorem dX4_init_25 : decode cX4_init 25 = .ok (.putfield 18, 3) := by decide +kernel
theorem dX4_init_28 : decode cX4_init 28 = .ok (.aload_n 0, 1) := by decide +kernel
theorem dX4_init_29 : decode cX4_init 29 = .ok (.bipush 24, 2) := by decide +kernel
theorem dX4_init_31 : decode cX4_init 31 = .ok (.newarray .int, 2) := by decide +kernel
theorem dX4_init_33 : decode cX4_init 33 = .ok (.putfield 21, 3) := by decide +kernel
theorem dX4_init_36 : decode cX4_init 36 = .ok (.return_, 1) := by decide +kernel
theorem dX4_add_0 : decode cX4_add 0 = .ok (.aload_n 0, 1) := by decide +kernel
theorem dX4_add_1 : decode cX4_add 1 = .ok (.getfield 24, 3) := by decide +kernel
theorem dX4_add_4 : decode cX4_add 4 = .ok (.ifCond .lt 12, 3) := by decide +kernel
theorem dX4_add_7 : decode cX4_add 7 = .ok (.aload_n 0, 1) := by decide +kernel
theorem dX4_add_8 : decode cX4_add 8 = .ok (.getfield 24, 3) := by decide +kernel
theorem dX4_add_11 : decode cX4_add 11 = .ok (.bipush 24, 2) := by decide +kernel
theorem dX4_add_13 : decode cX4_add 13 = .ok (.if_icmp .lt 5, 3) := by decide +kernel
theorem dX4_add_16 : decode cX4_add 16 = .ok (.iconst 0, 1) := by decide +kernel
theorem dX4_add_17 : decode cX4_add 17 = .ok (.ireturn, 1) := by decide +kernel
theorem dX4_add_18 : decode cX4_add 18 = .ok (.iload_n 2, 1) := by decide +kernel
theorem dX4_add_19 : decode cX4_add 19 = .ok (.invokestatic 28, 3) := by decide +kernel
theorem dX4_add_22 : decode cX4_add 22 = .ok (.istore 5, 2) := by decide +kernel
theorem dX4_add_24 : decode cX4_add 24 = .ok (.aload_n 0, 1) := by decide +kernel
theorem dX4_add_25 : decode cX4_add 25 = .ok (.getfield 9, 3) := by decide +kernel
theorem dX4_add_28 : decode cX4_add 28 = .ok (.aload_n 0, 1) := by decide +kernel
theorem dX4_add_29 : decode cX4_add 29 = .ok (.getfield 24, 3) := by decide +kernel
theorem dX4_add_32 : decode cX4_add 32 = .ok (.iload_n 1, 1) := by decide +kernel
theorem dX4_add_33 : decode cX4_add 33 = .ok (.iconst 2, 1) := by decide +kernel
theorem dX4_add_34 : decode cX4_add 34 = .ok (.idiv, 1) := by decide +kernel
theorem dX4_add_35 : decode cX4_add 35 = .ok (.iastore, 1) := by decide +kernel
theorem dX4_add_36 : decode cX4_add 36 = .ok (.aload_n 0, 1) := by decide +kernel
theorem dX4_add_37 : decode cX4_add 37 = .ok (.getfield 15, 3) := by decide +kernel
theorem dX4_add_40 : decode cX4_add 40 = .ok (.aload_n 0, 1) := by decide +kernel
theorem dX4_add_41 : decode cX4_add 41 = .ok (.getfield 24, 3) := by decide +kernel
theorem dX4_add_44 : decode cX4_add 44 = .ok (.iload_n 2, 1) := by decide +kernel
theorem dX4_add_45 : decode cX4_add 45 = .ok (.iastore, 1) := by decide +kernel
theorem dX4_add_46 : decode cX4_add 46 = .ok (.aload_n 0, 1) := by decide +kernel
theorem dX4_add_47 : decode cX4_add 47 = .ok (.getfield 18, 3) := by decide +kernel
theorem dX4_add_50 : decode cX4_add 50 = .ok (.aload_n 0, 1) := by decide +kernel
theorem dX4_add_51 : decode cX4_add 51 = .ok (.getfield 24, 3) := by decide +kernel
theorem dX4_add_54 : decode cX4_add 54 = .ok (.iload_n 3, 1) := by decide +kernel
theorem dX4_add_55 : decode cX4_add 55 = .ok (.iload 5, 2) := by decide +kernel
theorem dX4_add_57 : decode cX4_add 57 = .ok (.ior, 1) := by decide +kernel
theorem dX4_add_58 : decode cX4_add 58 = .ok (.iastore, 1) := by decide +kernel
theorem dX4_add_59 : decode cX4_add 59 = .ok (.aload_n 0, 1) := by decide +kernel
theorem dX4_add_60 : decode cX4_add 60 = .ok (.getfield 21, 3) := by decide +kernel
theorem dX4_add_63 : decode cX4_add 63 = .ok (.aload_n 0, 1) := by decide +kernel
theorem dX4_add_64 : decode cX4_add 64 = .ok (.getfield 24, 3) := by decide +kernel
theorem dX4_add_67 : decode cX4_add 67 = .ok (.iload_n 1, 1) := by decide +kernel
theorem dX4_add_68 : decode cX4_add 68 = .ok (.iconst 2, 1) := by decide +kernel
theorem dX4_add_69 : decode cX4_add 69 = .ok (.irem, 1) := by decide +kernel
theorem dX4_add_70 : decode cX4_add 70 = .ok (.iconst 1, 1) := by decide +kernel
theorem dX4_add_71 : decode cX4_add 71 = .ok (.if_icmp .ne 11, 3) := by decide +kernel
theorem dX4_add_74 : decode cX4_add 74 = .ok (.iload 4, 2) := by decide +kernel
theorem dX4_add_76 : decode cX4_add 76 = .ok (.iload 5, 2) := by decide +kernel
theorem dX4_add_78 : decode cX4_add 78 = .ok (.ior, 1) := by decide +kernel
theorem dX4_add_79 : decode cX4_add 79 = .ok (.goto 10, 3) := by decide +kernel
theorem dX4_add_82 : decode cX4_add 82 = .ok (.iload 4, 2) := by decide +kernel
theorem dX4_add_84 : decode cX4_add 84 = .ok (.iload 5, 2) := by decide +kernel
theorem dX4_add_86 : decode cX4_add 86 = .ok (.iconst (-1), 1) := by decide +kernel
theorem dX4_add_87 : decode cX4_add 87 = .ok (.ixor, 1) := by decide +kernel
theorem dX4_add_88 : decode cX4_add 88 = .ok (.iand, 1) := by decide +kernel
theorem dX4_add_89 : decode cX4_add 89 = .ok (.iastore, 1) := by decide +kernel
theorem dX4_add_90 : decode cX4_add 90 = .ok (.aload_n 0, 1) := by decide +kernel
theorem dX4_add_91 : decode cX4_add 91 = .ok (.dup, 1) := by decide +kernel
theorem dX4_add_92 : decode cX4_add 92 = .ok (.getfield 24, 3) := by decide +kernel
theorem dX4_add_95 : decode cX4_add 95 = .ok (.iconst 1, 1) := by decide +kernel
theorem dX4_add_96 : decode cX4_add 96 = .ok (.iadd, 1) := by decide +kernel
theorem dX4_add_97 : decode cX4_add 97 = .ok (.putfield 24, 3) := by decide +kernel
theorem dX4_add_100 : decode cX4_add 100 = .ok (.iconst 1, 1) := by decide +kernel
theorem dX4_add_101 : decode cX4_add 101 = .ok (.ireturn, 1) := by decide +kernel
theorem dX4_bitOf_0 : decode cX4_bitOf 0 = .ok (.iconst 1, 1) := by decide +kernel
theorem dX4_bitOf_1 : decode cX4_bitOf 1 = .ok (.iload_n 0, 1) := by decide +kernel
theorem dX4_bitOf_2 : decode cX4_bitOf 2 = .ok (.bipush 6, 2) := by decide +kernel
theorem dX4_bitOf_4 : decode cX4_bitOf 4 = .ok (.iadd, 1) := by decide +kernel
theorem dX4_bitOf_5 : decode cX4_bitOf 5 = .ok (.ishl, 1) := by decide +kernel
theorem dX4_bitOf_6 : decode cX4_bitOf 6 = .ok (.ireturn, 1) := by decide +kernel
theorem dX6_init_0 : decode cX6_init 0 = .ok (.aload_n 0, 1) := by decide +kernel
theorem dX6_init_1 : decode cX6_init 1 = .ok (.invokespecial 3, 3) := by decide +kernel
theorem dX6_init_4 : decode cX6_init 4 = .ok (.aload_n 0, 1) := by decide +kernel
theorem dX6_init_5 : decode cX6_init 5 = .ok (.sipush 1003, 3) := by decide +kernel
theorem dX6_init_8 : decode cX6_init 8 = .ok (.newarray .int, 2) := by decide +kernel
theorem dX6_init_10 : decode cX6_init 10 = .ok (.putfield 9, 3) := by decide +kernel
theorem dX6_init_13 : decode cX6_init 13 = .ok (.return_, 1) := by decide +kernel
theorem dX6_begin_0 : decode cX6_begin 0 = .ok (.aload_n 0, 1) := by decide +kernel
theorem dX6_begin_1 : decode cX6_begin 1 = .ok (.getfield 15, 3) := by decide +kernel
theorem dX6_begin_4 : decode cX6_begin 4 = .ok (.istore_n 1, 1) := by decide +kernel
theorem dX6_begin_5 : decode cX6_begin 5 = .ok (.iload_n 1, 1) := by decide +kernel
theorem dX6_begin_6 : decode cX6_begin 6 = .ok (.aload_n 0, 1) := by decide +kernel
theorem dX6_begin_7 : decode cX6_begin 7 = .ok (.getfield 19, 3) := by decide +kernel
theorem dX6_begin_10 : decode cX6_begin 10 = .ok (.if_icmp .gt 15, 3) := by decide +kernel
theorem dX6_begin_13 : decode cX6_begin 13 = .ok (.aload_n 0, 1) := by decide +kernel
theorem dX6_begin_14 : decode cX6_begin 14 = .ok (.iload_n 1, 1) := by decide +kernel
theorem dX6_begin_15 : decode cX6_begin 15 = .ok (.iconst 0, 1) := by decide +kernel
theorem dX6_begin_16 : decode cX6_begin 16 = .ok (.invokevirtual 22, 3) := by decide +kernel
theorem dX6_begin_19 : decode cX6_begin 19 = .ok (.iinc 1 1, 3) := by decide +kernel
theorem dX6_begin_22 : decode cX6_begin 22 = .ok (.goto (-17), 3) := by decide +kernel
theorem dX6_begin_25 : decode cX6_begin 25 = .ok (.aload_n 0, 1) := by decide +kernel
theorem dX6_begin_26 : decode cX6_begin 26 = .ok (.iconst 0, 1) := by decide +kernel
theorem dX6_begin_27 : decode cX6_begin 27 = .ok (.putfield 26, 3) := by decide +kernel
theorem dX6_begin_30 : decode cX6_begin 30 = .ok (.aload_n 0, 1) := by decide +kernel
theorem dX6_begin_31 : decode cX6_begin 31 = .ok (.iconst 0, 1) := by decide +kernel
theorem dX6_begin_32 : decode cX6_begin 32 = .ok (.putfield 29, 3) := by decide +kernel
theorem dX6_begin_35 : decode cX6_begin 35 = .ok (.aload_n 0, 1) := by decide +kernel
theorem dX6_begin_36 : decode cX6_begin 36 = .ok (.iconst 0, 1) := by decide +kernel
theorem dX6_begin_37 : decode cX6_begin 37 = .ok (.putfield 32, 3) := by decide +kernel
theorem dX6_begin_40 : decode cX6_begin 40 = .ok (.aload_n 0, 1) := by decide +kernel
theorem dX6_begin_41 : decode cX6_begin 41 = .ok (.iconst 0, 1) := by decide +kernel
theorem dX6_begin_42 : decode cX6_begin 42 = .ok (.putfield 15, 3) := by decide +kernel
theorem dX6_begin_45 : decode cX6_begin 45 = .ok (.aload_n 0, 1) := by decide +kernel
theorem dX6_begin_46 : decode cX6_begin 46 = .ok (.iconst 0, 1) := by decide +kernel
theorem dX6_begin_47 : decode cX6_begin 47 = .ok (.putfield 19, 3) := by decide +kernel
theorem dX6_begin_50 : decode cX6_begin 50 = .ok (.return_, 1) := by decide +kernel
theorem dX6_run_0 : decode cX6_run 0 = .ok (.aload_n 0, 1) := by decide +kernel
theorem dX6_run_1 : decode cX6_run 1 = .ok (.invokevirtual 35, 3) := by decide +kernel
theorem dX6_run_4 : decode cX6_run 4 = .ok (.iconst 0, 1) := by decide +kernel
theorem dX6_run_5 : decode cX6_run 5 = .ok (.istore_n 3, 1) := by decide +kernel
theorem dX6_run_6 : decode cX6_run 6 = .ok (.iload_n 3, 1) := by decide +kernel
theorem dX6_run_7 : decode cX6_run 7 = .ok (.iload_n 2, 1) := by decide +kernel
theorem dX6_run_8 : decode cX6_run 8 = .ok (.if_icmp .ge 18, 3) := by decide +kernel
theorem dX6_run_11 : decode cX6_run 11 = .ok (.aload_n 0, 1) := by decide +kernel
theorem dX6_run_12 : decode cX6_run 12 = .ok (.aload_n 1, 1) := by decide +kernel
theorem dX6_run_13 : decode cX6_run 13 = .ok (.invokevirtual 38, 3) := by decide +kernel
theorem dX6_run_16 : decode cX6_run 16 = .ok (.ifCond .ne 4, 3) := by decide +kernel
theorem dX6_run_19 : decode cX6_run 19 = .ok (.return_, 1) := by decide +kernel
theorem dX6_run_20 : decode cX6_run 20 = .ok (.iinc 3 1, 3) := by decide +kernel
theorem dX6_run_23 : decode cX6_run 23 = .ok (.goto (-17), 3) := by decide +kernel
theorem dX6_run_26 : decode cX6_run 26 = .ok (.return_, 1) := by decide +kernel
theorem dX6_step_0 : decode cX6_step 0 = .ok (.iconst 2, 1) := by decide +kernel
theorem dX6_step_1 : decode cX6_step 1 = .ok (.aload_n 0, 1) := by decide +kernel
theorem dX6_step_2 : decode cX6_step 2 = .ok (.getfield 29, 3) := by decide +kernel
theorem dX6_step_5 : decode cX6_step 5 = .ok (.imul, 1) := by decide +kernel
theorem dX6_step_6 : decode cX6_step 6 = .ok (.aload_n 0, 1) := by decide +kernel
theorem dX6_step_7 : decode cX6_step 7 = .ok (.aload_n 0, 1) := by decide +kernel
theorem dX6_step_8 : decode cX6_step 8 = .ok (.getfield 32, 3) := by decide +kernel
theorem dX6_step_11 : decode cX6_step 11 = .ok (.invokevirtual 42, 3) := by decide +kernel
theorem dX6_step_14 : decode cX6_step 14 = .ok (.iadd, 1) := by decide +kernel
theorem dX6_step_15 : decode cX6_step 15 = .ok (.istore_n 2, 1) := by decide +kernel
theorem dX6_step_16 : decode cX6_step 16 = .ok (.aload_n 0, 1) := by decide +kernel
theorem dX6_step_17 : decode cX6_step 17 = .ok (.aload_n 1, 1) := by decide +kernel
theorem dX6_step_18 : decode cX6_step 18 = .ok (.invokevirtual 46, 3) := by decide +kernel
theorem dX6_step_21 : decode cX6_step 21 = .ok (.ifCond .ne 11, 3) := by decide +kernel
theorem dX6_step_24 : decode cX6_step 24 = .ok (.aload_n 1, 1) := by decide +kernel
theorem dX6_step_25 : decode cX6_step 25 = .ok (.iload_n 2, 1) := by decide +kernel
theorem dX6_step_26 : decode cX6_step 26 = .ok (.invokevirtual 49, 3) := by decide +kernel
theorem dX6_step_29 : decode cX6_step 29 = .ok (.ifCond .eq 5, 3) := by decide +kernel
theorem dX6_step_32 : decode cX6_step 32 = .ok (.iconst 0, 1) := by decide +kernel
theorem dX6_step_33 : decode cX6_step 33 = .ok (.ireturn, 1) := by decide +kernel
theorem dX6_step_34 : decode cX6_step 34 = .ok (.aload_n 0, 1) := by decide +kernel
theorem dX6_step_35 : decode cX6_step 35 = .ok (.aload_n 0, 1) := by decide +kernel
theorem dX6_step_36 : decode cX6_step 36 = .ok (.getfield 32, 3) := by decide +kernel
theorem dX6_step_39 : decode cX6_step 39 = .ok (.aload_n 1, 1) := by decide +kernel
theorem dX6_step_40 : decode cX6_step 40 = .ok (.iload_n 2, 1) := by decide +kernel
theorem dX6_step_41 : decode cX6_step 41 = .ok (.invokevirtual 55, 3) := by decide +kernel
theorem dX6_step_44 : decode cX6_step 44 = .ok (.invokevirtual 22, 3) := by decide +kernel
theorem dX6_step_47 : decode cX6_step 47 = .ok (.aload_n 0, 1) := by decide +kernel
theorem dX6_step_48 : decode cX6_step 48 = .ok (.dup, 1) := by decide +kernel
theorem dX6_step_49 : decode cX6_step 49 = .ok (.getfield 32, 3) := by decide +kernel
theorem dX6_step_52 : decode cX6_step 52 = .ok (.aload_n 1, 1) := by decide +kernel
theorem dX6_step_53 : decode cX6_step 53 = .ok (.iload_n 2, 1) := by decide +kernel
theorem dX6_step_54 : decode cX6_step 54 = .ok (.invokevirtual 58, 3) := by decide +kernel
theorem dX6_step_57 : decode cX6_step 57 = .ok (.iadd, 1) := by decide +kernel
theorem dX6_step_58 : decode cX6_step 58 = .ok (.putfield 32, 3) := by decide +kernel
theorem dX6_step_61 : decode cX6_step 61 = .ok (.aload_n 0, 1) := by decide +kernel
theorem dX6_step_62 : decode cX6_step 62 = .ok (.aload_n 1, 1) := by decide +kernel
theorem dX6_step_63 : decode cX6_step 63 = .ok (.iload_n 2, 1) := by decide +kernel
theorem dX6_step_64 : decode cX6_step 64 = .ok (.invokevirtual 61, 3) := by decide +kernel
theorem dX6_step_67 : decode cX6_step 67 = .ok (.putfield 29, 3) := by decide +kernel
theorem dX6_step_70 : decode cX6_step 70 = .ok (.aload_n 0, 1) := by decide +kernel
theorem dX6_step_71 : decode cX6_step 71 = .ok (.aload_n 0, 1) := by decide +kernel
theorem dX6_step_72 : decode cX6_step 72 = .ok (.getfield 15, 3) := by decide +kernel
theorem dX6_step_75 : decode cX6_step 75 = .ok (.aload_n 0, 1) := by decide +kernel
theorem dX6_step_76 : decode cX6_step 76 = .ok (.getfield 32, 3) := by decide +kernel
theorem dX6_step_79 : decode cX6_step 79 = .ok (.invokestatic 64, 3) := by decide +kernel
theorem dX6_step_82 : decode cX6_step 82 = .ok (.putfield 15, 3) := by decide +kernel
theorem dX6_step_85 : decode cX6_step 85 = .ok (.aload_n 0, 1) := by decide +kernel
theorem dX6_step_86 : decode cX6_step 86 = .ok (.aload_n 0, 1) := by decide +kernel
theorem dX6_step_87 : decode cX6_step 87 = .ok (.getfield 19, 3) := by decide +kernel
theorem dX6_step_90 : decode cX6_step 90 = .ok (.aload_n 0, 1) := by decide +kernel
theorem dX6_step_91 : decode cX6_step 91 = .ok (.getfield 32, 3) := by decide +kernel
theorem dX6_step_94 : decode cX6_step 94 = .ok (.invokestatic 70, 3) := by decide +kernel
theorem dX6_step_97 : decode cX6_step 97 = .ok (.putfield 19, 3) := by decide +kernel
theorem dX6_step_100 : decode cX6_step 100 = .ok (.aload_n 0, 1) := by decide +kernel
theorem dX6_step_101 : decode cX6_step 101 = .ok (.dup, 1) := by decide +kernel
theorem dX6_step_102 : decode cX6_step 102 = .ok (.getfield 26, 3) := by decide +kernel
theorem dX6_step_105 : decode cX6_step 105 = .ok (.iconst 1, 1) := by decide +kernel
theorem dX6_step_106 : decode cX6_step 106 = .ok (.iadd, 1) := by decide +kernel
theorem dX6_step_107 : decode cX6_step 107 = .ok (.putfield 26, 3) := by decide +kernel
theorem dX6_step_110 : decode cX6_step 110 = .ok (.iconst 1, 1) := by decide +kernel
theorem dX6_step_111 : decode cX6_step 111 = .ok (.ireturn, 1) := by decide +kernel
theorem dX6_metCell_0 : decode cX6_metCell 0 = .ok (.iconst 2, 1) := by decide +kernel
theorem dX6_metCell_1 : decode cX6_metCell 1 = .ok (.aload_n 0, 1) := by decide +kernel
theorem dX6_metCell_2 : decode cX6_metCell 2 = .ok (.getfield 29, 3) := by decide +kernel
theorem dX6_metCell_5 : decode cX6_metCell 5 = .ok (.imul, 1) := by decide +kernel
theorem dX6_metCell_6 : decode cX6_metCell 6 = .ok (.aload_n 0, 1) := by decide +kernel
theorem dX6_metCell_7 : decode cX6_metCell 7 = .ok (.aload_n 0, 1) := by decide +kernel
theorem dX6_metCell_8 : decode cX6_metCell 8 = .ok (.getfield 32, 3) := by decide +kernel
theorem dX6_metCell_11 : decode cX6_metCell 11 = .ok (.invokevirtual 42, 3) := by decide +kernel
theorem dX6_metCell_14 : decode cX6_metCell 14 = .ok (.iadd, 1) := by decide +kernel
theorem dX6_metCell_15 : decode cX6_metCell 15 = .ok (.ireturn, 1) := by decide +kernel
theorem dX6_hasStopped_0 : decode cX6_hasStopped 0 = .ok (.aload_n 0, 1) := by decide +kernel
theorem dX6_hasStopped_1 : decode cX6_hasStopped 1 = .ok (.getfield 29, 3) := by decide +kernel
theorem dX6_hasStopped_4 : decode cX6_hasStopped 4 = .ok (.aload_n 1, 1) := by decide +kernel
theorem dX6_hasStopped_5 : decode cX6_hasStopped 5 = .ok (.getfield 73, 3) := by decide +kernel
theorem dX6_hasStopped_8 : decode cX6_hasStopped 8 = .ok (.if_icmp .lt 7, 3) := by decide +kernel
theorem dX6_hasStopped_11 : decode cX6_hasStopped 11 = .ok (.iconst 1, 1) := by decide +kernel
theorem dX6_hasStopped_12 : decode cX6_hasStopped 12 = .ok (.goto 4, 3) := by decide +kernel
theorem dX6_hasStopped_15 : decode cX6_hasStopped 15 = .ok (.iconst 0, 1) := by decide +kernel
theorem dX6_hasStopped_16 : decode cX6_hasStopped 16 = .ok (.ireturn, 1) := by decide +kernel
theorem dX6_isHanging_0 : decode cX6_isHanging 0 = .ok (.aload_n 0, 1) := by decide +kernel
theorem dX6_isHanging_1 : decode cX6_isHanging 1 = .ok (.aload_n 1, 1) := by decide +kernel
theorem dX6_isHanging_2 : decode cX6_isHanging 2 = .ok (.invokevirtual 46, 3) := by decide +kernel
theorem dX6_isHanging_5 : decode cX6_isHanging 5 = .ok (.ifCond .ne 18, 3) := by decide +kernel
theorem dX6_isHanging_8 : decode cX6_isHanging 8 = .ok (.aload_n 1, 1) := by decide +kernel
theorem dX6_isHanging_9 : decode cX6_isHanging 9 = .ok (.aload_n 0, 1) := by decide +kernel
theorem dX6_isHanging_10 : decode cX6_isHanging 10 = .ok (.invokevirtual 76, 3) := by decide +kernel
theorem dX6_isHanging_13 : decode cX6_isHanging 13 = .ok (.invokevirtual 49, 3) := by decide +kernel
theorem dX6_isHanging_16 : decode cX6_isHanging 16 = .ok (.ifCond .eq 7, 3) := by decide +kernel
theorem dX6_isHanging_19 : decode cX6_isHanging 19 = .ok (.iconst 1, 1) := by decide +kernel
theorem dX6_isHanging_20 : decode cX6_isHanging 20 = .ok (.goto 4, 3) := by decide +kernel
theorem dX6_isHanging_23 : decode cX6_isHanging 23 = .ok (.iconst 0, 1) := by decide +kernel
theorem dX6_isHanging_24 : decode cX6_isHanging 24 = .ok (.ireturn, 1) := by decide +kernel
theorem dX6_read_0 : decode cX6_read 0 = .ok (.iload_n 1, 1) := by decide +kernel
theorem dX6_read_1 : decode cX6_read 1 = .ok (.sipush (-501), 3) := by decide +kernel
theorem dX6_read_4 : decode cX6_read 4 = .ok (.if_icmp .lt 23, 3) := by decide +kernel
theorem dX6_read_7 : decode cX6_read 7 = .ok (.iload_n 1, 1) := by decide +kernel
theorem dX6_read_8 : decode cX6_read 8 = .ok (.sipush 501, 3) := by decide +kernel
theorem dX6_read_11 : decode cX6_read 11 = .ok (.if_icmp .gt 16, 3) := by decide +kernel
theorem dX6_read_14 : decode cX6_read 14 = .ok (.aload_n 0, 1) := by decide +kernel
theorem dX6_read_15 : decode cX6_read 15 = .ok (.getfield 9, 3) := by decide +kernel
theorem dX6_read_18 : decode cX6_read 18 = .ok (.iload_n 1, 1) := by decide +kernel
theorem dX6_read_19 : decode cX6_read 19 = .ok (.sipush 501, 3) := by decide +kernel
theorem dX6_read_22 : decode cX6_read 22 = .ok (.iadd, 1) := by decide +kernel
theorem dX6_read_23 : decode cX6_read 23 = .ok (.iaload, 1) := by decide +kernel
theorem dX6_read_24 : decode cX6_read 24 = .ok (.goto 4, 3) := by decide +kernel
theorem dX6_read_27 : decode cX6_read 27 = .ok (.iconst 0, 1) := by decide +kernel
theorem dX6_read_28 : decode cX6_read 28 = .ok (.ireturn, 1) := by decide +kernel
theorem dX6_put_0 : decode cX6_put 0 = .ok (.iload_n 1, 1) := by decide +kernel
theorem dX6_put_1 : decode cX6_put 1 = .ok (.sipush (-501), 3) := by decide +kernel
theorem dX6_put_4 : decode cX6_put 4 = .ok (.if_icmp .lt 21, 3) := by decide +kernel
theorem dX6_put_7 : decode cX6_put 7 = .ok (.iload_n 1, 1) := by decide +kernel
theorem dX6_put_8 : decode cX6_put 8 = .ok (.sipush 501, 3) := by decide +kernel
theorem dX6_put_11 : decode cX6_put 11 = .ok (.if_icmp .gt 14, 3) := by decide +kernel
theorem dX6_put_14 : decode cX6_put 14 = .ok (.aload_n 0, 1) := by decide +kernel
theorem dX6_put_15 : decode cX6_put 15 = .ok (.getfield 9, 3) := by decide +kernel
theorem dX6_put_18 : decode cX6_put 18 = .ok (.iload_n 1, 1) := by decide +kernel
theorem dX6_put_19 : decode cX6_put 19 = .ok (.sipush 501, 3) := by decide +kernel
theorem dX6_put_22 : decode cX6_put 22 = .ok (.iadd, 1) := by decide +kernel
theorem dX6_put_23 : decode cX6_put 23 = .ok (.iload_n 2, 1) := by decide +kernel
theorem dX6_put_24 : decode cX6_put 24 = .ok (.iastore, 1) := by decide +kernel
theorem dX6_put_25 : decode cX6_put 25 = .ok (.return_, 1) := by decide +kernel
theorem dX6_countOnes_0 : decode cX6_countOnes 0 = .ok (.iconst 0, 1) := by decide +kernel
theorem dX6_countOnes_1 : decode cX6_countOnes 1 = .ok (.istore_n 1, 1) := by decide +kernel
theorem dX6_countOnes_2 : decode cX6_countOnes 2 = .ok (.aload_n 0, 1) := by decide +kernel
theorem dX6_countOnes_3 : decode cX6_countOnes 3 = .ok (.getfield 15, 3) := by decide +kernel
theorem dX6_countOnes_6 : decode cX6_countOnes 6 = .ok (.istore_n 2, 1) := by decide +kernel
theorem dX6_countOnes_7 : decode cX6_countOnes 7 = .ok (.iload_n 2, 1) := by decide +kernel
theorem dX6_countOnes_8 : decode cX6_countOnes 8 = .ok (.aload_n 0, 1) := by decide +kernel
theorem dX6_countOnes_9 : decode cX6_countOnes 9 = .ok (.getfield 19, 3) := by decide +kernel
theorem dX6_countOnes_12 : decode cX6_countOnes 12 = .ok (.if_icmp .gt 17, 3) := by decide +kernel
theorem dX6_countOnes_15 : decode cX6_countOnes 15 = .ok (.iload_n 1, 1) := by decide +kernel
theorem dX6_countOnes_16 : decode cX6_countOnes 16 = .ok (.aload_n 0, 1) := by decide +kernel
theorem dX6_countOnes_17 : decode cX6_countOnes 17 = .ok (.iload_n 2, 1) := by decide +kernel
theorem dX6_countOnes_18 : decode cX6_countOnes 18 = .ok (.invokevirtual 42, 3) := by decide +kernel
theorem dX6_countOnes_21 : decode cX6_countOnes 21 = .ok (.iadd, 1) := by decide +kernel
theorem dX6_countOnes_22 : decode cX6_countOnes 22 = .ok (.istore_n 1, 1) := by decide +kernel
theorem dX6_countOnes_23 : decode cX6_countOnes 23 = .ok (.iinc 2 1, 3) := by decide +kernel
theorem dX6_countOnes_26 : decode cX6_countOnes 26 = .ok (.goto (-19), 3) := by decide +kernel
theorem dX6_countOnes_29 : decode cX6_countOnes 29 = .ok (.iload_n 1, 1) := by decide +kernel
theorem dX6_countOnes_30 : decode cX6_countOnes 30 = .ok (.ireturn, 1) := by decide +kernel
theorem dX6_countRuns_0 : decode cX6_countRuns 0 = .ok (.iconst 1, 1) := by decide +kernel
theorem dX6_countRuns_1 : decode cX6_countRuns 1 = .ok (.istore_n 1, 1) := by decide +kernel
theorem dX6_countRuns_2 : decode cX6_countRuns 2 = .ok (.aload_n 0, 1) := by decide +kernel
theorem dX6_countRuns_3 : decode cX6_countRuns 3 = .ok (.getfield 15, 3) := by decide +kernel
theorem dX6_countRuns_6 : decode cX6_countRuns 6 = .ok (.iconst 1, 1) := by decide +kernel
theorem dX6_countRuns_7 : decode cX6_countRuns 7 = .ok (.iadd, 1) := by decide +kernel
theorem dX6_countRuns_8 : decode cX6_countRuns 8 = .ok (.istore_n 2, 1) := by decide +kernel
theorem dX6_countRuns_9 : decode cX6_countRuns 9 = .ok (.iload_n 2, 1) := by decide +kernel
theorem dX6_countRuns_10 : decode cX6_countRuns 10 = .ok (.aload_n 0, 1) := by decide +kernel
theorem dX6_countRuns_11 : decode cX6_countRuns 11 = .ok (.getfield 19, 3) := by decide +kernel
theorem dX6_countRuns_14 : decode cX6_countRuns 14 = .ok (.if_icmp .gt 27, 3) := by decide +kernel
theorem dX6_countRuns_17 : decode cX6_countRuns 17 = .ok (.aload_n 0, 1) := by decide +kernel
theorem dX6_countRuns_18 : decode cX6_countRuns 18 = .ok (.iload_n 2, 1) := by decide +kernel
theorem dX6_countRuns_19 : decode cX6_countRuns 19 = .ok (.invokevirtual 42, 3) := by decide +kernel
theorem dX6_countRuns_22 : decode cX6_countRuns 22 = .ok (.aload_n 0, 1) := by decide +kernel
theorem dX6_countRuns_23 : decode cX6_countRuns 23 = .ok (.iload_n 2, 1) := by decide +kernel
theorem dX6_countRuns_24 : decode cX6_countRuns 24 = .ok (.iconst 1, 1) := by decide +kernel
theorem dX6_countRuns_25 : decode cX6_countRuns 25 = .ok (.isub, 1) := by decide +kernel
theorem dX6_countRuns_26 : decode cX6_countRuns 26 = .ok (.invokevirtual 42, 3) := by decide +kernel
theorem dX6_countRuns_29 : decode cX6_countRuns 29 = .ok (.if_icmp .eq 6, 3) := by decide +kernel
theorem dX6_countRuns_32 : decode cX6_countRuns 32 = .ok (.iinc 1 1, 3) := by decide +kernel
theorem dX6_countRuns_35 : decode cX6_countRuns 35 = .ok (.iinc 2 1, 3) := by decide +kernel
theorem dX6_countRuns_38 : decode cX6_countRuns 38 = .ok (.goto (-29), 3) := by decide +kernel
theorem dX6_countRuns_41 : decode cX6_countRuns 41 = .ok (.iload_n 1, 1) := by decide +kernel
theorem dX6_countRuns_42 : decode cX6_countRuns 42 = .ok (.ireturn, 1) := by decide +kernel
theorem dX6_eighths_0 : decode cX6_eighths 0 = .ok (.aload_n 0, 1) := by decide +kernel
theorem dX6_eighths_1 : decode cX6_eighths 1 = .ok (.getfield 19, 3) := by decide +kernel
theorem dX6_eighths_4 : decode cX6_eighths 4 = .ok (.aload_n 0, 1) := by decide +kernel
theorem dX6_eighths_5 : decode cX6_eighths 5 = .ok (.getfield 15, 3) := by decide +kernel
theorem dX6_eighths_8 : decode cX6_eighths 8 = .ok (.isub, 1) := by decide +kernel
theorem dX6_eighths_9 : decode cX6_eighths 9 = .ok (.iconst 1, 1) := by decide +kernel
theorem dX6_eighths_10 : decode cX6_eighths 10 = .ok (.iadd, 1) := by decide +kernel
theorem dX6_eighths_11 : decode cX6_eighths 11 = .ok (.istore_n 1, 1) := by decide +kernel
theorem dX6_eighths_12 : decode cX6_eighths 12 = .ok (.iload_n 1, 1) := by decide +kernel
theorem dX6_eighths_13 : decode cX6_eighths 13 = .ok (.ifCond .le 15, 3) := by decide +kernel
theorem dX6_eighths_16 : decode cX6_eighths 16 = .ok (.bipush 8, 2) := by decide +kernel
theorem dX6_eighths_18 : decode cX6_eighths 18 = .ok (.aload_n 0, 1) := by decide +kernel
theorem dX6_eighths_19 : decode cX6_eighths 19 = .ok (.invokevirtual 80, 3) := by decide +kernel
theorem dX6_eighths_22 : decode cX6_eighths 22 = .ok (.imul, 1) := by decide +kernel
theorem dX6_eighths_23 : decode cX6_eighths 23 = .ok (.iload_n 1, 1) := by decide +kernel
theorem dX6_eighths_24 : decode cX6_eighths 24 = .ok (.idiv, 1) := by decide +kernel
theorem dX6_eighths_25 : decode cX6_eighths 25 = .ok (.goto 4, 3) := by decide +kernel
theorem dX6_eighths_28 : decode cX6_eighths 28 = .ok (.iconst 0, 1) := by decide +kernel
theorem dX6_eighths_29 : decode cX6_eighths 29 = .ok (.ireturn, 1) := by decide +kernel
theorem dX7_init_0 : decode cX7_init 0 = .ok (.aload_n 0, 1) := by decide +kernel
theorem dX7_init_1 : decode cX7_init 1 = .ok (.invokespecial 3, 3) := by decide +kernel
theorem dX7_init_4 : decode cX7_init 4 = .ok (.aload_n 0, 1) := by decide +kernel
theorem dX7_init_5 : decode cX7_init 5 = .ok (.bipush 12, 2) := by decide +kernel
theorem dX7_init_7 : decode cX7_init 7 = .ok (.anewarray 9, 3) := by decide +kernel
theorem dX7_init_10 : decode cX7_init 10 = .ok (.putfield 11, 3) := by decide +kernel
theorem dX7_init_13 : decode cX7_init 13 = .ok (.aload_n 0, 1) := by decide +kernel
theorem dX7_init_14 : decode cX7_init 14 = .ok (.iconst 4, 1) := by decide +kernel
theorem dX7_init_15 : decode cX7_init 15 = .ok (.anewarray 15, 3) := by decide +kernel
theorem dX7_init_18 : decode cX7_init 18 = .ok (.putfield 17, 3) := by decide +kernel
theorem dX7_init_21 : decode cX7_init 21 = .ok (.aload_n 0, 1) := by decide +kernel
theorem dX7_init_22 : decode cX7_init 22 = .ok (.new 21, 3) := by decide +kernel
theorem dX7_init_25 : decode cX7_init 25 = .ok (.dup, 1) := by decide +kernel
theorem dX7_init_26 : decode cX7_init 26 = .ok (.invokespecial 23, 3) := by decide +kernel
theorem dX7_init_29 : decode cX7_init 29 = .ok (.putfield 24, 3) := by decide +kernel
theorem dX7_init_32 : decode cX7_init 32 = .ok (.aload_n 0, 1) := by decide +kernel
theorem dX7_init_33 : decode cX7_init 33 = .ok (.new 28, 3) := by decide +kernel
theorem dX7_init_36 : decode cX7_init 36 = .ok (.dup, 1) := by decide +kernel
theorem dX7_init_37 : decode cX7_init 37 = .ok (.invokespecial 30, 3) := by decide +kernel
theorem dX7_init_40 : decode cX7_init 40 = .ok (.putfield 31, 3) := by decide +kernel
theorem dX7_init_43 : decode cX7_init 43 = .ok (.aload_n 0, 1) := by decide +kernel
theorem dX7_init_44 : decode cX7_init 44 = .ok (.new 35, 3) := by decide +kernel
theorem dX7_init_47 : decode cX7_init 47 = .ok (.dup, 1) := by decide +kernel
theorem dX7_init_48 : decode cX7_init 48 = .ok (.invokespecial 37, 3) := by decide +kernel
theorem dX7_init_51 : decode cX7_init 51 = .ok (.putfield 38, 3) := by decide +kernel
theorem dX7_init_54 : decode cX7_init 54 = .ok (.aload_n 0, 1) := by decide +kernel
theorem dX7_init_55 : decode cX7_init 55 = .ok (.new 42, 3) := by decide +kernel
theorem dX7_init_58 : decode cX7_init 58 = .ok (.dup, 1) := by decide +kernel
theorem dX7_init_59 : decode cX7_init 59 = .ok (.invokespecial 44, 3) := by decide +kernel
theorem dX7_init_62 : decode cX7_init 62 = .ok (.putfield 45, 3) := by decide +kernel
theorem dX7_init_65 : decode cX7_init 65 = .ok (.return_, 1) := by decide +kernel
theorem dX7_machine_0 : decode cX7_machine 0 = .ok (.iload_n 1, 1) := by decide +kernel
theorem dX7_machine_1 : decode cX7_machine 1 = .ok (.iconst 2, 1) := by decide +kernel
theorem dX7_machine_2 : decode cX7_machine 2 = .ok (.iconst 4, 1) := by decide +kernel
theorem dX7_machine_3 : decode cX7_machine 3 = .ok (.invokestatic 49, 3) := by decide +kernel
theorem dX7_machine_6 : decode cX7_machine 6 = .ok (.invokestatic 53, 3) := by decide +kernel
theorem dX7_machine_9 : decode cX7_machine 9 = .ok (.aload_n 0, 1) := by decide +kernel
theorem dX7_machine_10 : decode cX7_machine 10 = .ok (.invokevirtual 57, 3) := by decide +kernel
theorem dX7_machine_13 : decode cX7_machine 13 = .ok (.aload_n 0, 1) := by decide +kernel
theorem dX7_machine_14 : decode cX7_machine 14 = .ok (.new 9, 3) := by decide +kernel
theorem dX7_machine_17 : decode cX7_machine 17 = .ok (.dup, 1) := by decide +kernel
theorem dX7_machine_18 : decode cX7_machine 18 = .ok (.iload_n 1, 1) := by decide +kernel
theorem dX7_machine_19 : decode cX7_machine 19 = .ok (.invokespecial 60, 3) := by decide +kernel
theorem dX7_machine_22 : decode cX7_machine 22 = .ok (.invokevirtual 63, 3) := by decide +kernel
theorem dX7_machine_25 : decode cX7_machine 25 = .ok (.ireturn, 1) := by decide +kernel
theorem dX7_tell_0 : decode cX7_tell 0 = .ok (.aload_n 0, 1) := by decide +kernel
theorem dX7_tell_1 : decode cX7_tell 1 = .ok (.iload_n 1, 1) := by decide +kernel
theorem dX7_tell_2 : decode cX7_tell 2 = .ok (.invokevirtual 67, 3) := by decide +kernel
theorem dX7_tell_5 : decode cX7_tell 5 = .ok (.astore 7, 2) := by decide +kernel
theorem dX7_tell_7 : decode cX7_tell 7 = .ok (.aload 7, 2) := by decide +kernel
theorem dX7_tell_9 : decode cX7_tell 9 = .ok (.iload_n 2, 1) := by decide +kernel
theorem dX7_tell_10 : decode cX7_tell 10 = .ok (.iload_n 3, 1) := by decide +kernel
theorem dX7_tell_11 : decode cX7_tell 11 = .ok (.invokestatic 71, 3) := by decide +kernel
theorem dX7_tell_14 : decode cX7_tell 14 = .ok (.istore 8, 2) := by decide +kernel
theorem dX7_tell_16 : decode cX7_tell 16 = .ok (.aload 7, 2) := by decide +kernel
theorem dX7_tell_18 : decode cX7_tell 18 = .ok (.iload 4, 2) := by decide +kernel
theorem dX7_tell_20 : decode cX7_tell 20 = .ok (.iload 5, 2) := by decide +kernel
theorem dX7_tell_22 : decode cX7_tell 22 = .ok (.iload 6, 2) := by decide +kernel
theorem dX7_tell_24 : decode cX7_tell 24 = .ok (.invokestatic 75, 3) := by decide +kernel
theorem dX7_tell_27 : decode cX7_tell 27 = .ok (.invokestatic 53, 3) := by decide +kernel
theorem dX7_tell_30 : decode cX7_tell 30 = .ok (.aload 7, 2) := by decide +kernel
theorem dX7_tell_32 : decode cX7_tell 32 = .ok (.iload 8, 2) := by decide +kernel
theorem dX7_tell_34 : decode cX7_tell 34 = .ok (.invokevirtual 79, 3) := by decide +kernel
theorem dX7_tell_37 : decode cX7_tell 37 = .ok (.ifCond .ne 13, 3) := by decide +kernel
theorem dX7_tell_40 : decode cX7_tell 40 = .ok (.new 83, 3) := by decide +kernel
theorem dX7_tell_43 : decode cX7_tell 43 = .ok (.dup, 1) := by decide +kernel
theorem dX7_tell_44 : decode cX7_tell 44 = .ok (.ldc 85, 2) := by decide +kernel
theorem dX7_tell_46 : decode cX7_tell 46 = .ok (.invokespecial 87, 3) := by decide +kernel
theorem dX7_tell_49 : decode cX7_tell 49 = .ok (.athrow, 1) := by decide +kernel
theorem dX7_tell_50 : decode cX7_tell 50 = .ok (.aload 7, 2) := by decide +kernel
theorem dX7_tell_52 : decode cX7_tell 52 = .ok (.iload 8, 2) := by decide +kernel
theorem dX7_tell_54 : decode cX7_tell 54 = .ok (.iload 4, 2) := by decide +kernel
theorem dX7_tell_56 : decode cX7_tell 56 = .ok (.iload 5, 2) := by decide +kernel
theorem dX7_tell_58 : decode cX7_tell 58 = .ok (.iload 6, 2) := by decide +kernel
theorem dX7_tell_60 : decode cX7_tell 60 = .ok (.invokevirtual 90, 3) := by decide +kernel
theorem dX7_tell_63 : decode cX7_tell 63 = .ok (.aload_n 0, 1) := by decide +kernel
theorem dX7_tell_64 : decode cX7_tell 64 = .ok (.aload 7, 2) := by decide +kernel
theorem dX7_tell_66 : decode cX7_tell 66 = .ok (.invokevirtual 94, 3) := by decide +kernel
theorem dX7_tell_69 : decode cX7_tell 69 = .ok (.pop, 1) := by decide +kernel
theorem dX7_tell_70 : decode cX7_tell 70 = .ok (.aload 7, 2) := by decide +kernel
theorem dX7_tell_72 : decode cX7_tell 72 = .ok (.invokevirtual 98, 3) := by decide +kernel
theorem dX7_tell_75 : decode cX7_tell 75 = .ok (.ireturn, 1) := by decide +kernel
theorem dX7_amend_0 : decode cX7_amend 0 = .ok (.aload_n 0, 1) := by decide +kernel
theorem dX7_amend_1 : decode cX7_amend 1 = .ok (.iload_n 1, 1) := by decide +kernel
theorem dX7_amend_2 : decode cX7_amend 2 = .ok (.invokevirtual 67, 3) := by decide +kernel
theorem dX7_amend_5 : decode cX7_amend 5 = .ok (.astore 7, 2) := by decide +kernel
theorem dX7_amend_7 : decode cX7_amend 7 = .ok (.aload 7, 2) := by decide +kernel
theorem dX7_amend_9 : decode cX7_amend 9 = .ok (.iload_n 2, 1) := by decide +kernel
theorem dX7_amend_10 : decode cX7_amend 10 = .ok (.iload_n 3, 1) := by decide +kernel
theorem dX7_amend_11 : decode cX7_amend 11 = .ok (.invokestatic 71, 3) := by decide +kernel
theorem dX7_amend_14 : decode cX7_amend 14 = .ok (.istore 8, 2) := by decide +kernel
