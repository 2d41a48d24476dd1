theorem dX0_init_0 : decode cX0_init 0 = .ok (.aload_n 0, 1) := by decide +kernel
theorem dX0_init_1 : decode cX0_init 1 = .ok (.invokespecial 3, 3) := by decide +kernel
theorem dX0_init_4 : decode cX0_init 4 = .ok (.aload_n 0, 1) := by decide +kernel
theorem dX0_init_5 : decode cX0_init 5 = .ok (.new 9, 3) := by decide +kernel
theorem dX0_init_8 : decode cX0_init 8 = .ok (.dup, 1) := by decide +kernel
theorem dX0_init_9 : decode cX0_init 9 = .ok (.invokespecial 11, 3) := by decide +kernel
theorem dX0_init_12 : decode cX0_init 12 = .ok (.putfield 12, 3) := by decide +kernel
theorem dX0_init_15 : decode cX0_init 15 = .ok (.aload_n 0, 1) := by decide +kernel
theorem dX0_init_16 : decode cX0_init 16 = .ok (.new 9, 3) := by decide +kernel
theorem dX0_init_19 : decode cX0_init 19 = .ok (.dup, 1) := by decide +kernel
theorem dX0_init_20 : decode cX0_init 20 = .ok (.invokespecial 11, 3) := by decide +kernel
theorem dX0_init_23 : decode cX0_init 23 = .ok (.putfield 18, 3) := by decide +kernel
theorem dX0_init_26 : decode cX0_init 26 = .ok (.return_, 1) := by decide +kernel
theorem dX0_emptyDepth_0 : decode cX0_emptyDepth 0 = .ok (.aload_n 0, 1) := by decide +kernel
theorem dX0_emptyDepth_1 : decode cX0_emptyDepth 1 = .ok (.aload_n 1, 1) := by decide +kernel
theorem dX0_emptyDepth_2 : decode cX0_emptyDepth 2 = .ok (.invokevirtual 21, 3) := by decide +kernel
theorem dX0_emptyDepth_5 : decode cX0_emptyDepth 5 = .ok (.iconst 1, 1) := by decide +kernel
theorem dX0_emptyDepth_6 : decode cX0_emptyDepth 6 = .ok (.istore_n 2, 1) := by decide +kernel
theorem dX0_emptyDepth_7 : decode cX0_emptyDepth 7 = .ok (.iload_n 2, 1) := by decide +kernel
theorem dX0_emptyDepth_8 : decode cX0_emptyDepth 8 = .ok (.bipush 6, 2) := by decide +kernel
theorem dX0_emptyDepth_10 : decode cX0_emptyDepth 10 = .ok (.if_icmp .gt 31, 3) := by decide +kernel
theorem dX0_emptyDepth_13 : decode cX0_emptyDepth 13 = .ok (.aload_n 0, 1) := by decide +kernel
theorem dX0_emptyDepth_14 : decode cX0_emptyDepth 14 = .ok (.aload_n 1, 1) := by decide +kernel
theorem dX0_emptyDepth_15 : decode cX0_emptyDepth 15 = .ok (.invokevirtual 25, 3) := by decide +kernel
theorem dX0_emptyDepth_18 : decode cX0_emptyDepth 18 = .ok (.ifCond .ne 5, 3) := by decide +kernel
theorem dX0_emptyDepth_21 : decode cX0_emptyDepth 21 = .ok (.iconst (-1), 1) := by decide +kernel
theorem dX0_emptyDepth_22 : decode cX0_emptyDepth 22 = .ok (.ireturn, 1) := by decide +kernel
theorem dX0_emptyDepth_23 : decode cX0_emptyDepth 23 = .ok (.aload_n 0, 1) := by decide +kernel
theorem dX0_emptyDepth_24 : decode cX0_emptyDepth 24 = .ok (.getfield 12, 3) := by decide +kernel
theorem dX0_emptyDepth_27 : decode cX0_emptyDepth 27 = .ok (.getfield 29, 3) := by decide +kernel
theorem dX0_emptyDepth_30 : decode cX0_emptyDepth 30 = .ok (.ifCond .ne 5, 3) := by decide +kernel
theorem dX0_emptyDepth_33 : decode cX0_emptyDepth 33 = .ok (.iload_n 2, 1) := by decide +kernel
theorem dX0_emptyDepth_34 : decode cX0_emptyDepth 34 = .ok (.ireturn, 1) := by decide +kernel
theorem dX0_emptyDepth_35 : decode cX0_emptyDepth 35 = .ok (.iinc 2 1, 3) := by decide +kernel
theorem dX0_emptyDepth_38 : decode cX0_emptyDepth 38 = .ok (.goto (-31), 3) := by decide +kernel
theorem dX0_emptyDepth_41 : decode cX0_emptyDepth 41 = .ok (.iconst (-1), 1) := by decide +kernel
theorem dX0_emptyDepth_42 : decode cX0_emptyDepth 42 = .ok (.ireturn, 1) := by decide +kernel
theorem dX0_takeEnds_0 : decode cX0_takeEnds 0 = .ok (.aload_n 0, 1) := by decide +kernel
theorem dX0_takeEnds_1 : decode cX0_takeEnds 1 = .ok (.getfield 12, 3) := by decide +kernel
theorem dX0_takeEnds_4 : decode cX0_takeEnds 4 = .ok (.iconst 0, 1) := by decide +kernel
theorem dX0_takeEnds_5 : decode cX0_takeEnds 5 = .ok (.putfield 29, 3) := by decide +kernel
theorem dX0_takeEnds_8 : decode cX0_takeEnds 8 = .ok (.iconst 0, 1) := by decide +kernel
theorem dX0_takeEnds_9 : decode cX0_takeEnds 9 = .ok (.istore_n 2, 1) := by decide +kernel
theorem dX0_takeEnds_10 : decode cX0_takeEnds 10 = .ok (.iload_n 2, 1) := by decide +kernel
theorem dX0_takeEnds_11 : decode cX0_takeEnds 11 = .ok (.aload_n 1, 1) := by decide +kernel
theorem dX0_takeEnds_12 : decode cX0_takeEnds 12 = .ok (.invokevirtual 33, 3) := by decide +kernel
theorem dX0_takeEnds_15 : decode cX0_takeEnds 15 = .ok (.if_icmp .ge 29, 3) := by decide +kernel
theorem dX0_takeEnds_18 : decode cX0_takeEnds 18 = .ok (.aload_n 1, 1) := by decide +kernel
theorem dX0_takeEnds_19 : decode cX0_takeEnds 19 = .ok (.iload_n 2, 1) := by decide +kernel
theorem dX0_takeEnds_20 : decode cX0_takeEnds 20 = .ok (.invokevirtual 39, 3) := by decide +kernel
theorem dX0_takeEnds_23 : decode cX0_takeEnds 23 = .ok (.ifCond .eq 15, 3) := by decide +kernel
theorem dX0_takeEnds_26 : decode cX0_takeEnds 26 = .ok (.aload_n 0, 1) := by decide +kernel
theorem dX0_takeEnds_27 : decode cX0_takeEnds 27 = .ok (.getfield 12, 3) := by decide +kernel
theorem dX0_takeEnds_30 : decode cX0_takeEnds 30 = .ok (.iload_n 2, 1) := by decide +kernel
theorem dX0_takeEnds_31 : decode cX0_takeEnds 31 = .ok (.iconst 0, 1) := by decide +kernel
theorem dX0_takeEnds_32 : decode cX0_takeEnds 32 = .ok (.iconst 0, 1) := by decide +kernel
theorem dX0_takeEnds_33 : decode cX0_takeEnds 33 = .ok (.iconst 0, 1) := by decide +kernel
theorem dX0_takeEnds_34 : decode cX0_takeEnds 34 = .ok (.invokevirtual 43, 3) := by decide +kernel
theorem dX0_takeEnds_37 : decode cX0_takeEnds 37 = .ok (.pop, 1) := by decide +kernel
theorem dX0_takeEnds_38 : decode cX0_takeEnds 38 = .ok (.iinc 2 1, 3) := by decide +kernel
theorem dX0_takeEnds_41 : decode cX0_takeEnds 41 = .ok (.goto (-31), 3) := by decide +kernel
theorem dX0_takeEnds_44 : decode cX0_takeEnds 44 = .ok (.return_, 1) := by decide +kernel
theorem dX0_goBack_0 : decode cX0_goBack 0 = .ok (.aload_n 0, 1) := by decide +kernel
theorem dX0_goBack_1 : decode cX0_goBack 1 = .ok (.getfield 18, 3) := by decide +kernel
theorem dX0_goBack_4 : decode cX0_goBack 4 = .ok (.iconst 0, 1) := by decide +kernel
theorem dX0_goBack_5 : decode cX0_goBack 5 = .ok (.putfield 29, 3) := by decide +kernel
theorem dX0_goBack_8 : decode cX0_goBack 8 = .ok (.iconst 0, 1) := by decide +kernel
theorem dX0_goBack_9 : decode cX0_goBack 9 = .ok (.istore_n 2, 1) := by decide +kernel
theorem dX0_goBack_10 : decode cX0_goBack 10 = .ok (.iload_n 2, 1) := by decide +kernel
theorem dX0_goBack_11 : decode cX0_goBack 11 = .ok (.aload_n 0, 1) := by decide +kernel
theorem dX0_goBack_12 : decode cX0_goBack 12 = .ok (.getfield 12, 3) := by decide +kernel
theorem dX0_goBack_15 : decode cX0_goBack 15 = .ok (.getfield 29, 3) := by decide +kernel
theorem dX0_goBack_18 : decode cX0_goBack 18 = .ok (.if_icmp .ge 91, 3) := by decide +kernel
theorem dX0_goBack_21 : decode cX0_goBack 21 = .ok (.iload_n 2, 1) := by decide +kernel
theorem dX0_goBack_22 : decode cX0_goBack 22 = .ok (.bipush 24, 2) := by decide +kernel
theorem dX0_goBack_24 : decode cX0_goBack 24 = .ok (.if_icmp .ge 85, 3) := by decide +kernel
theorem dX0_goBack_27 : decode cX0_goBack 27 = .ok (.iconst 0, 1) := by decide +kernel
theorem dX0_goBack_28 : decode cX0_goBack 28 = .ok (.istore_n 3, 1) := by decide +kernel
theorem dX0_goBack_29 : decode cX0_goBack 29 = .ok (.iload_n 3, 1) := by decide +kernel
theorem dX0_goBack_30 : decode cX0_goBack 30 = .ok (.aload_n 1, 1) := by decide +kernel
theorem dX0_goBack_31 : decode cX0_goBack 31 = .ok (.invokevirtual 33, 3) := by decide +kernel
theorem dX0_goBack_34 : decode cX0_goBack 34 = .ok (.if_icmp .ge 69, 3) := by decide +kernel
theorem dX0_goBack_37 : decode cX0_goBack 37 = .ok (.aload_n 0, 1) := by decide +kernel
theorem dX0_goBack_38 : decode cX0_goBack 38 = .ok (.aload_n 1, 1) := by decide +kernel
theorem dX0_goBack_39 : decode cX0_goBack 39 = .ok (.iload_n 3, 1) := by decide +kernel
theorem dX0_goBack_40 : decode cX0_goBack 40 = .ok (.iload_n 2, 1) := by decide +kernel
theorem dX0_goBack_41 : decode cX0_goBack 41 = .ok (.invokevirtual 47, 3) := by decide +kernel
theorem dX0_goBack_44 : decode cX0_goBack 44 = .ok (.ifCond .eq 53, 3) := by decide +kernel
theorem dX0_goBack_47 : decode cX0_goBack 47 = .ok (.aload_n 0, 1) := by decide +kernel
theorem dX0_goBack_48 : decode cX0_goBack 48 = .ok (.getfield 12, 3) := by decide +kernel
theorem dX0_goBack_51 : decode cX0_goBack 51 = .ok (.getfield 51, 3) := by decide +kernel
theorem dX0_goBack_54 : decode cX0_goBack 54 = .ok (.iload_n 2, 1) := by decide +kernel
theorem dX0_goBack_55 : decode cX0_goBack 55 = .ok (.iaload, 1) := by decide +kernel
theorem dX0_goBack_56 : decode cX0_goBack 56 = .ok (.aload_n 1, 1) := by decide +kernel
theorem dX0_goBack_57 : decode cX0_goBack 57 = .ok (.iload_n 3, 1) := by decide +kernel
theorem dX0_goBack_58 : decode cX0_goBack 58 = .ok (.invokevirtual 55, 3) := by decide +kernel
theorem dX0_goBack_61 : decode cX0_goBack 61 = .ok (.isub, 1) := by decide +kernel
theorem dX0_goBack_62 : decode cX0_goBack 62 = .ok (.istore 4, 2) := by decide +kernel
theorem dX0_goBack_64 : decode cX0_goBack 64 = .ok (.aload_n 0, 1) := by decide +kernel
theorem dX0_goBack_65 : decode cX0_goBack 65 = .ok (.getfield 18, 3) := by decide +kernel
theorem dX0_goBack_68 : decode cX0_goBack 68 = .ok (.iload_n 3, 1) := by decide +kernel
theorem dX0_goBack_69 : decode cX0_goBack 69 = .ok (.iload 4, 2) := by decide +kernel
theorem dX0_goBack_71 : decode cX0_goBack 71 = .ok (.aload_n 0, 1) := by decide +kernel
theorem dX0_goBack_72 : decode cX0_goBack 72 = .ok (.getfield 12, 3) := by decide +kernel
theorem dX0_goBack_75 : decode cX0_goBack 75 = .ok (.getfield 59, 3) := by decide +kernel
theorem dX0_goBack_78 : decode cX0_goBack 78 = .ok (.iload_n 2, 1) := by decide +kernel
theorem dX0_goBack_79 : decode cX0_goBack 79 = .ok (.iaload, 1) := by decide +kernel
theorem dX0_goBack_80 : decode cX0_goBack 80 = .ok (.aload_n 0, 1) := by decide +kernel
theorem dX0_goBack_81 : decode cX0_goBack 81 = .ok (.getfield 12, 3) := by decide +kernel
theorem dX0_goBack_84 : decode cX0_goBack 84 = .ok (.getfield 62, 3) := by decide +kernel
theorem dX0_goBack_87 : decode cX0_goBack 87 = .ok (.iload_n 2, 1) := by decide +kernel
theorem dX0_goBack_88 : decode cX0_goBack 88 = .ok (.iaload, 1) := by decide +kernel
theorem dX0_goBack_89 : decode cX0_goBack 89 = .ok (.invokevirtual 43, 3) := by decide +kernel
theorem dX0_goBack_92 : decode cX0_goBack 92 = .ok (.ifCond .ne 5, 3) := by decide +kernel
theorem dX0_goBack_95 : decode cX0_goBack 95 = .ok (.iconst 0, 1) := by decide +kernel
theorem dX0_goBack_96 : decode cX0_goBack 96 = .ok (.ireturn, 1) := by decide +kernel
theorem dX0_goBack_97 : decode cX0_goBack 97 = .ok (.iinc 3 1, 3) := by decide +kernel
theorem dX0_goBack_100 : decode cX0_goBack 100 = .ok (.goto (-71), 3) := by decide +kernel
theorem dX0_goBack_103 : decode cX0_goBack 103 = .ok (.iinc 2 1, 3) := by decide +kernel
theorem dX0_goBack_106 : decode cX0_goBack 106 = .ok (.goto (-96), 3) := by decide +kernel
theorem dX0_goBack_109 : decode cX0_goBack 109 = .ok (.aload_n 0, 1) := by decide +kernel
theorem dX0_goBack_110 : decode cX0_goBack 110 = .ok (.getfield 12, 3) := by decide +kernel
theorem dX0_goBack_113 : decode cX0_goBack 113 = .ok (.astore_n 2, 1) := by decide +kernel
theorem dX0_goBack_114 : decode cX0_goBack 114 = .ok (.aload_n 0, 1) := by decide +kernel
theorem dX0_goBack_115 : decode cX0_goBack 115 = .ok (.aload_n 0, 1) := by decide +kernel
theorem dX0_goBack_116 : decode cX0_goBack 116 = .ok (.getfield 18, 3) := by decide +kernel
theorem dX0_goBack_119 : decode cX0_goBack 119 = .ok (.putfield 12, 3) := by decide +kernel
theorem dX0_goBack_122 : decode cX0_goBack 122 = .ok (.aload_n 0, 1) := by decide +kernel
theorem dX0_goBack_123 : decode cX0_goBack 123 = .ok (.aload_n 2, 1) := by decide +kernel
theorem dX0_goBack_124 : decode cX0_goBack 124 = .ok (.putfield 18, 3) := by decide +kernel
theorem dX0_goBack_127 : decode cX0_goBack 127 = .ok (.iconst 1, 1) := by decide +kernel
theorem dX0_goBack_128 : decode cX0_goBack 128 = .ok (.ireturn, 1) := by decide +kernel
theorem dX0_canLead_0 : decode cX0_canLead 0 = .ok (.iload_n 3, 1) := by decide +kernel
theorem dX0_canLead_1 : decode cX0_canLead 1 = .ok (.ifCond .lt 34, 3) := by decide +kernel
theorem dX0_canLead_4 : decode cX0_canLead 4 = .ok (.iload_n 3, 1) := by decide +kernel
theorem dX0_canLead_5 : decode cX0_canLead 5 = .ok (.bipush 24, 2) := by decide +kernel
theorem dX0_canLead_7 : decode cX0_canLead 7 = .ok (.if_icmp .ge 28, 3) := by decide +kernel
theorem dX0_canLead_10 : decode cX0_canLead 10 = .ok (.aload_n 1, 1) := by decide +kernel
theorem dX0_canLead_11 : decode cX0_canLead 11 = .ok (.iload_n 2, 1) := by decide +kernel
theorem dX0_canLead_12 : decode cX0_canLead 12 = .ok (.invokevirtual 65, 3) := by decide +kernel
theorem dX0_canLead_15 : decode cX0_canLead 15 = .ok (.ifCond .ne 20, 3) := by decide +kernel
theorem dX0_canLead_18 : decode cX0_canLead 18 = .ok (.aload_n 1, 1) := by decide +kernel
theorem dX0_canLead_19 : decode cX0_canLead 19 = .ok (.iload_n 2, 1) := by decide +kernel
theorem dX0_canLead_20 : decode cX0_canLead 20 = .ok (.invokevirtual 68, 3) := by decide +kernel
theorem dX0_canLead_23 : decode cX0_canLead 23 = .ok (.aload_n 0, 1) := by decide +kernel
theorem dX0_canLead_24 : decode cX0_canLead 24 = .ok (.getfield 12, 3) := by decide +kernel
theorem dX0_canLead_27 : decode cX0_canLead 27 = .ok (.getfield 71, 3) := by decide +kernel
theorem dX0_canLead_30 : decode cX0_canLead 30 = .ok (.iload_n 3, 1) := by decide +kernel
theorem dX0_canLead_31 : decode cX0_canLead 31 = .ok (.iaload, 1) := by decide +kernel
theorem dX0_canLead_32 : decode cX0_canLead 32 = .ok (.if_icmp .eq 5, 3) := by decide +kernel
theorem dX0_canLead_35 : decode cX0_canLead 35 = .ok (.iconst 0, 1) := by decide +kernel
theorem dX0_canLead_36 : decode cX0_canLead 36 = .ok (.ireturn, 1) := by decide +kernel
theorem dX0_canLead_37 : decode cX0_canLead 37 = .ok (.aload_n 0, 1) := by decide +kernel
theorem dX0_canLead_38 : decode cX0_canLead 38 = .ok (.getfield 12, 3) := by decide +kernel
theorem dX0_canLead_41 : decode cX0_canLead 41 = .ok (.getfield 51, 3) := by decide +kernel
theorem dX0_canLead_44 : decode cX0_canLead 44 = .ok (.iload_n 3, 1) := by decide +kernel
theorem dX0_canLead_45 : decode cX0_canLead 45 = .ok (.iaload, 1) := by decide +kernel
theorem dX0_canLead_46 : decode cX0_canLead 46 = .ok (.aload_n 1, 1) := by decide +kernel
theorem dX0_canLead_47 : decode cX0_canLead 47 = .ok (.iload_n 2, 1) := by decide +kernel
theorem dX0_canLead_48 : decode cX0_canLead 48 = .ok (.invokevirtual 55, 3) := by decide +kernel
theorem dX0_canLead_51 : decode cX0_canLead 51 = .ok (.isub, 1) := by decide +kernel
theorem dX0_canLead_52 : decode cX0_canLead 52 = .ok (.invokestatic 74, 3) := by decide +kernel
theorem dX0_canLead_55 : decode cX0_canLead 55 = .ok (.istore 4, 2) := by decide +kernel
theorem dX0_canLead_57 : decode cX0_canLead 57 = .ok (.aload_n 0, 1) := by decide +kernel
theorem dX0_canLead_58 : decode cX0_canLead 58 = .ok (.getfield 12, 3) := by decide +kernel
theorem dX0_canLead_61 : decode cX0_canLead 61 = .ok (.getfield 62, 3) := by decide +kernel
theorem dX0_canLead_64 : decode cX0_canLead 64 = .ok (.iload_n 3, 1) := by decide +kernel
theorem dX0_canLead_65 : decode cX0_canLead 65 = .ok (.iaload, 1) := by decide +kernel
theorem dX0_canLead_66 : decode cX0_canLead 66 = .ok (.iload 4, 2) := by decide +kernel
theorem dX0_canLead_68 : decode cX0_canLead 68 = .ok (.iand, 1) := by decide +kernel
theorem dX0_canLead_69 : decode cX0_canLead 69 = .ok (.ifCond .ne 7, 3) := by decide +kernel
theorem dX0_canLead_72 : decode cX0_canLead 72 = .ok (.iconst 0, 1) := by decide +kernel
theorem dX0_canLead_73 : decode cX0_canLead 73 = .ok (.goto 4, 3) := by decide +kernel
theorem dX0_canLead_76 : decode cX0_canLead 76 = .ok (.iconst 1, 1) := by decide +kernel
theorem dX0_canLead_77 : decode cX0_canLead 77 = .ok (.istore 5, 2) := by decide +kernel
theorem dX0_canLead_79 : decode cX0_canLead 79 = .ok (.aload_n 0, 1) := by decide +kernel
theorem dX0_canLead_80 : decode cX0_canLead 80 = .ok (.getfield 12, 3) := by decide +kernel
theorem dX0_canLead_83 : decode cX0_canLead 83 = .ok (.getfield 59, 3) := by decide +kernel
theorem dX0_canLead_86 : decode cX0_canLead 86 = .ok (.iload_n 3, 1) := by decide +kernel
theorem dX0_canLead_87 : decode cX0_canLead 87 = .ok (.iaload, 1) := by decide +kernel
theorem dX0_canLead_88 : decode cX0_canLead 88 = .ok (.iload 4, 2) := by decide +kernel
theorem dX0_canLead_90 : decode cX0_canLead 90 = .ok (.iand, 1) := by decide +kernel
theorem dX0_canLead_91 : decode cX0_canLead 91 = .ok (.ifCond .eq 13, 3) := by decide +kernel
theorem dX0_canLead_94 : decode cX0_canLead 94 = .ok (.iload 5, 2) := by decide +kernel
theorem dX0_canLead_96 : decode cX0_canLead 96 = .ok (.aload_n 1, 1) := by decide +kernel
theorem dX0_canLead_97 : decode cX0_canLead 97 = .ok (.iload_n 2, 1) := by decide +kernel
theorem dX0_canLead_98 : decode cX0_canLead 98 = .ok (.invokevirtual 77, 3) := by decide +kernel
theorem dX0_canLead_101 : decode cX0_canLead 101 = .ok (.if_icmp .ne 7, 3) := by decide +kernel
theorem dX0_canLead_104 : decode cX0_canLead 104 = .ok (.iconst 1, 1) := by decide +kernel
theorem dX0_canLead_105 : decode cX0_canLead 105 = .ok (.goto 4, 3) := by decide +kernel
theorem dX0_canLead_108 : decode cX0_canLead 108 = .ok (.iconst 0, 1) := by decide +kernel
theorem dX0_canLead_109 : decode cX0_canLead 109 = .ok (.ireturn, 1) := by decide +kernel
theorem dX1_init_0 : decode cX1_init 0 = .ok (.aload_n 0, 1) := by decide +kernel
theorem dX1_init_1 : decode cX1_init 1 = .ok (.invokespecial 3, 3) := by decide +kernel
theorem dX1_init_4 : decode cX1_init 4 = .ok (.aload_n 0, 1) := by decide +kernel
theorem dX1_init_5 : decode cX1_init 5 = .ok (.new 9, 3) := by decide +kernel
theorem dX1_init_8 : decode cX1_init 8 = .ok (.dup, 1) := by decide +kernel
theorem dX1_init_9 : decode cX1_init 9 = .ok (.invokespecial 11, 3) := by decide +kernel
theorem dX1_init_12 : decode cX1_init 12 = .ok (.putfield 12, 3) := by decide +kernel
theorem dX1_init_15 : decode cX1_init 15 = .ok (.aload_n 0, 1) := by decide +kernel
theorem dX1_init_16 : decode cX1_init 16 = .ok (.new 9, 3) := by decide +kernel
theorem dX1_init_19 : decode cX1_init 19 = .ok (.dup, 1) := by decide +kernel
theorem dX1_init_20 : decode cX1_init 20 = .ok (.invokespecial 11, 3) := by decide +kernel
theorem dX1_init_23 : decode cX1_init 23 = .ok (.putfield 18, 3) := by decide +kernel
theorem dX1_init_26 : decode cX1_init 26 = .ok (.return_, 1) := by decide +kernel
theorem dX1_isCycle_0 : decode cX1_isCycle 0 = .ok (.aload_n 0, 1) := by decide +kernel
theorem dX1_isCycle_1 : decode cX1_isCycle 1 = .ok (.aload_n 1, 1) := by decide +kernel
theorem dX1_isCycle_2 : decode cX1_isCycle 2 = .ok (.iload_n 2, 1) := by decide +kernel
theorem dX1_isCycle_3 : decode cX1_isCycle 3 = .ok (.invokevirtual 21, 3) := by decide +kernel
theorem dX1_isCycle_6 : decode cX1_isCycle 6 = .ok (.ifCond .ne 5, 3) := by decide +kernel
theorem dX1_isCycle_9 : decode cX1_isCycle 9 = .ok (.iconst 0, 1) := by decide +kernel
theorem dX1_isCycle_10 : decode cX1_isCycle 10 = .ok (.ireturn, 1) := by decide +kernel
theorem dX1_isCycle_11 : decode cX1_isCycle 11 = .ok (.iconst 0, 1) := by decide +kernel
theorem dX1_isCycle_12 : decode cX1_isCycle 12 = .ok (.istore 4, 2) := by decide +kernel
theorem dX1_isCycle_14 : decode cX1_isCycle 14 = .ok (.iload 4, 2) := by decide +kernel
theorem dX1_isCycle_16 : decode cX1_isCycle 16 = .ok (.iload_n 3, 1) := by decide +kernel
theorem dX1_isCycle_17 : decode cX1_isCycle 17 = .ok (.if_icmp .ge 19, 3) := by decide +kernel
theorem dX1_isCycle_20 : decode cX1_isCycle 20 = .ok (.aload_n 0, 1) := by decide +kernel
theorem dX1_isCycle_21 : decode cX1_isCycle 21 = .ok (.aload_n 1, 1) := by decide +kernel
theorem dX1_isCycle_22 : decode cX1_isCycle 22 = .ok (.invokevirtual 25, 3) := by decide +kernel
theorem dX1_isCycle_25 : decode cX1_isCycle 25 = .ok (.ifCond .ne 5, 3) := by decide +kernel
theorem dX1_isCycle_28 : decode cX1_isCycle 28 = .ok (.iconst 0, 1) := by decide +kernel
theorem dX1_isCycle_29 : decode cX1_isCycle 29 = .ok (.ireturn, 1) := by decide +kernel
theorem dX1_isCycle_30 : decode cX1_isCycle 30 = .ok (.iinc 4 1, 3) := by decide +kernel
theorem dX1_isCycle_33 : decode cX1_isCycle 33 = .ok (.goto (-19), 3) := by decide +kernel
theorem dX1_isCycle_36 : decode cX1_isCycle 36 = .ok (.aload_n 0, 1) := by decide +kernel
theorem dX1_isCycle_37 : decode cX1_isCycle 37 = .ok (.invokevirtual 29, 3) := by decide +kernel
theorem dX1_isCycle_40 : decode cX1_isCycle 40 = .ok (.ireturn, 1) := by decide +kernel
theorem dX1_smallestCode_0 : decode cX1_smallestCode 0 = .ok (.iconst (-1), 1) := by decide +kernel
theorem dX1_smallestCode_1 : decode cX1_smallestCode 1 = .ok (.istore_n 3, 1) := by decide +kernel
theorem dX1_smallestCode_2 : decode cX1_smallestCode 2 = .ok (.iload_n 2, 1) := by decide +kernel
theorem dX1_smallestCode_3 : decode cX1_smallestCode 3 = .ok (.istore 4, 2) := by decide +kernel
theorem dX1_smallestCode_5 : decode cX1_smallestCode 5 = .ok (.iconst 0, 1) := by decide +kernel
theorem dX1_smallestCode_6 : decode cX1_smallestCode 6 = .ok (.istore 5, 2) := by decide +kernel
theorem dX1_smallestCode_8 : decode cX1_smallestCode 8 = .ok (.iload 5, 2) := by decide +kernel
theorem dX1_smallestCode_10 : decode cX1_smallestCode 10 = .ok (.iload_n 2, 1) := by decide +kernel
theorem dX1_smallestCode_11 : decode cX1_smallestCode 11 = .ok (.if_icmp .ge 90, 3) := by decide +kernel
theorem dX1_smallestCode_14 : decode cX1_smallestCode 14 = .ok (.iload 5, 2) := by decide +kernel
theorem dX1_smallestCode_16 : decode cX1_smallestCode 16 = .ok (.iload 4, 2) := by decide +kernel
theorem dX1_smallestCode_18 : decode cX1_smallestCode 18 = .ok (.if_icmp .ge 83, 3) := by decide +kernel
theorem dX1_smallestCode_21 : decode cX1_smallestCode 21 = .ok (.aload_n 0, 1) := by decide +kernel
theorem dX1_smallestCode_22 : decode cX1_smallestCode 22 = .ok (.aload_n 1, 1) := by decide +kernel
theorem dX1_smallestCode_23 : decode cX1_smallestCode 23 = .ok (.iload 5, 2) := by decide +kernel
theorem dX1_smallestCode_25 : decode cX1_smallestCode 25 = .ok (.invokevirtual 21, 3) := by decide +kernel
theorem dX1_smallestCode_28 : decode cX1_smallestCode 28 = .ok (.ifCond .ne 5, 3) := by decide +kernel
theorem dX1_smallestCode_31 : decode cX1_smallestCode 31 = .ok (.iload_n 3, 1) := by decide +kernel
theorem dX1_smallestCode_32 : decode cX1_smallestCode 32 = .ok (.ireturn, 1) := by decide +kernel
theorem dX1_smallestCode_33 : decode cX1_smallestCode 33 = .ok (.iconst 1, 1) := by decide +kernel
theorem dX1_smallestCode_34 : decode cX1_smallestCode 34 = .ok (.istore 6, 2) := by decide +kernel
theorem dX1_smallestCode_36 : decode cX1_smallestCode 36 = .ok (.iload 6, 2) := by decide +kernel
theorem dX1_smallestCode_38 : decode cX1_smallestCode 38 = .ok (.iload_n 2, 1) := by decide +kernel
theorem dX1_smallestCode_39 : decode cX1_smallestCode 39 = .ok (.if_icmp .gt 56, 3) := by decide +kernel
theorem dX1_smallestCode_42 : decode cX1_smallestCode 42 = .ok (.iload 5, 2) := by decide +kernel
theorem dX1_smallestCode_44 : decode cX1_smallestCode 44 = .ok (.iload 6, 2) := by decide +kernel
theorem dX1_smallestCode_46 : decode cX1_smallestCode 46 = .ok (.iadd, 1) := by decide +kernel
theorem dX1_smallestCode_47 : decode cX1_smallestCode 47 = .ok (.iload 4, 2) := by decide +kernel
theorem dX1_smallestCode_49 : decode cX1_smallestCode 49 = .ok (.if_icmp .gt 46, 3) := by decide +kernel
theorem dX1_smallestCode_52 : decode cX1_smallestCode 52 = .ok (.aload_n 0, 1) := by decide +kernel
theorem dX1_smallestCode_53 : decode cX1_smallestCode 53 = .ok (.aload_n 1, 1) := by decide +kernel
theorem dX1_smallestCode_54 : decode cX1_smallestCode 54 = .ok (.invokevirtual 25, 3) := by decide +kernel
theorem dX1_smallestCode_57 : decode cX1_smallestCode 57 = .ok (.ifCond .ne 6, 3) := by decide +kernel
theorem dX1_smallestCode_60 : decode cX1_smallestCode 60 = .ok (.goto 35, 3) := by decide +kernel
theorem dX1_smallestCode_63 : decode cX1_smallestCode 63 = .ok (.aload_n 0, 1) := by decide +kernel
theorem dX1_smallestCode_64 : decode cX1_smallestCode 64 = .ok (.invokevirtual 29, 3) := by decide +kernel
theorem dX1_smallestCode_67 : decode cX1_smallestCode 67 = .ok (.ifCond .eq 22, 3) := by decide +kernel
theorem dX1_smallestCode_70 : decode cX1_smallestCode 70 = .ok (.sipush 200, 3) := by decide +kernel
theorem dX1_smallestCode_73 : decode cX1_smallestCode 73 = .ok (.iload 5, 2) := by decide +kernel
theorem dX1_smallestCode_75 : decode cX1_smallestCode 75 = .ok (.imul, 1) := by decide +kernel
theorem dX1_smallestCode_76 : decode cX1_smallestCode 76 = .ok (.iload 6, 2) := by decide +kernel
theorem dX1_smallestCode_78 : decode cX1_smallestCode 78 = .ok (.iadd, 1) := by decide +kernel
theorem dX1_smallestCode_79 : decode cX1_smallestCode 79 = .ok (.istore_n 3, 1) := by decide +kernel
theorem dX1_smallestCode_80 : decode cX1_smallestCode 80 = .ok (.iload 5, 2) := by decide +kernel
theorem dX1_smallestCode_82 : decode cX1_smallestCode 82 = .ok (.iload 6, 2) := by decide +kernel
theorem dX1_smallestCode_84 : decode cX1_smallestCode 84 = .ok (.iadd, 1) := by decide +kernel
theorem dX1_smallestCode_85 : decode cX1_smallestCode 85 = .ok (.iconst 1, 1) := by decide +kernel
theorem dX1_smallestCode_86 : decode cX1_smallestCode 86 = .ok (.isub, 1) := by decide +kernel
theorem dX1_smallestCode_87 : decode cX1_smallestCode 87 = .ok (.istore 4, 2) := by decide +kernel
theorem dX1_smallestCode_89 : decode cX1_smallestCode 89 = .ok (.iinc 6 1, 3) := by decide +kernel
theorem dX1_smallestCode_92 : decode cX1_smallestCode 92 = .ok (.goto (-56), 3) := by decide +kernel
theorem dX1_smallestCode_95 : decode cX1_smallestCode 95 = .ok (.iinc 5 1, 3) := by decide +kernel
theorem dX1_smallestCode_98 : decode cX1_smallestCode 98 = .ok (.goto (-90), 3) := by decide +kernel
theorem dX1_smallestCode_101 : decode cX1_smallestCode 101 = .ok (.iload_n 3, 1) := by decide +kernel
theorem dX1_smallestCode_102 : decode cX1_smallestCode 102 = .ok (.ireturn, 1) := by decide +kernel
theorem dX1_standBehind_0 : decode cX1_standBehind 0 = .ok (.aload_n 0, 1) := by decide +kernel
theorem dX1_standBehind_1 : decode cX1_standBehind 1 = .ok (.getfield 12, 3) := by decide +kernel
theorem dX1_standBehind_4 : decode cX1_standBehind 4 = .ok (.aload_n 1, 1) := by decide +kernel
theorem dX1_standBehind_5 : decode cX1_standBehind 5 = .ok (.iload_n 2, 1) := by decide +kernel
theorem dX1_standBehind_6 : decode cX1_standBehind 6 = .ok (.invokevirtual 33, 3) := by decide +kernel
theorem dX1_standBehind_9 : decode cX1_standBehind 9 = .ok (.aload_n 0, 1) := by decide +kernel
theorem dX1_standBehind_10 : decode cX1_standBehind 10 = .ok (.getfield 18, 3) := by decide +kernel
theorem dX1_standBehind_13 : decode cX1_standBehind 13 = .ok (.aload_n 1, 1) := by decide +kernel
theorem dX1_standBehind_14 : decode cX1_standBehind 14 = .ok (.iload_n 2, 1) := by decide +kernel
theorem dX1_standBehind_15 : decode cX1_standBehind 15 = .ok (.invokevirtual 33, 3) := by decide +kernel
theorem dX1_standBehind_18 : decode cX1_standBehind 18 = .ok (.aload_n 0, 1) := by decide +kernel
theorem dX1_standBehind_19 : decode cX1_standBehind 19 = .ok (.aload_n 0, 1) := by decide +kernel
theorem dX1_standBehind_20 : decode cX1_standBehind 20 = .ok (.getfield 18, 3) := by decide +kernel
theorem dX1_standBehind_23 : decode cX1_standBehind 23 = .ok (.getfield 37, 3) := by decide +kernel
theorem dX1_standBehind_26 : decode cX1_standBehind 26 = .ok (.putfield 41, 3) := by decide +kernel
theorem dX1_standBehind_29 : decode cX1_standBehind 29 = .ok (.aload_n 0, 1) := by decide +kernel
theorem dX1_standBehind_30 : decode cX1_standBehind 30 = .ok (.aload_n 0, 1) := by decide +kernel
theorem dX1_standBehind_31 : decode cX1_standBehind 31 = .ok (.getfield 18, 3) := by decide +kernel
theorem dX1_standBehind_34 : decode cX1_standBehind 34 = .ok (.getfield 37, 3) := by decide +kernel
theorem dX1_standBehind_37 : decode cX1_standBehind 37 = .ok (.putfield 44, 3) := by decide +kernel
theorem dX1_standBehind_40 : decode cX1_standBehind 40 = .ok (.aload_n 0, 1) := by decide +kernel
theorem dX1_standBehind_41 : decode cX1_standBehind 41 = .ok (.getfield 18, 3) := by decide +kernel
theorem dX1_standBehind_44 : decode cX1_standBehind 44 = .ok (.getfield 47, 3) := by decide +kernel
theorem dX1_standBehind_47 : decode cX1_standBehind 47 = .ok (.iload_n 2, 1) := by decide +kernel
theorem dX1_standBehind_48 : decode cX1_standBehind 48 = .ok (.if_icmp .ne 7, 3) := by decide +kernel
theorem dX1_standBehind_51 : decode cX1_standBehind 51 = .ok (.iconst 1, 1) := by decide +kernel
theorem dX1_standBehind_52 : decode cX1_standBehind 52 = .ok (.goto 4, 3) := by decide +kernel
theorem dX1_standBehind_55 : decode cX1_standBehind 55 = .ok (.iconst 0, 1) := by decide +kernel
theorem dX1_standBehind_56 : decode cX1_standBehind 56 = .ok (.ireturn, 1) := by decide +kernel
theorem dX1_goFurther_0 : decode cX1_goFurther 0 = .ok (.aload_n 0, 1) := by decide +kernel
theorem dX1_goFurther_1 : decode cX1_goFurther 1 = .ok (.getfield 18, 3) := by decide +kernel
theorem dX1_goFurther_4 : decode cX1_goFurther 4 = .ok (.aload_n 1, 1) := by decide +kernel
theorem dX1_goFurther_5 : decode cX1_goFurther 5 = .ok (.invokevirtual 50, 3) := by decide +kernel
theorem dX1_goFurther_8 : decode cX1_goFurther 8 = .ok (.ifCond .ne 5, 3) := by decide +kernel
theorem dX1_goFurther_11 : decode cX1_goFurther 11 = .ok (.iconst 0, 1) := by decide +kernel
theorem dX1_goFurther_12 : decode cX1_goFurther 12 = .ok (.ireturn, 1) := by decide +kernel
theorem dX1_goFurther_13 : decode cX1_goFurther 13 = .ok (.aload_n 0, 1) := by decide +kernel
theorem dX1_goFurther_14 : decode cX1_goFurther 14 = .ok (.aload_n 0, 1) := by decide +kernel
theorem dX1_goFurther_15 : decode cX1_goFurther 15 = .ok (.getfield 41, 3) := by decide +kernel
theorem dX1_goFurther_18 : decode cX1_goFurther 18 = .ok (.aload_n 0, 1) := by decide +kernel
theorem dX1_goFurther_19 : decode cX1_goFurther 19 = .ok (.getfield 18, 3) := by decide +kernel
theorem dX1_goFurther_22 : decode cX1_goFurther 22 = .ok (.getfield 37, 3) := by decide +kernel
theorem dX1_goFurther_25 : decode cX1_goFurther 25 = .ok (.invokestatic 53, 3) := by decide +kernel
theorem dX1_goFurther_28 : decode cX1_goFurther 28 = .ok (.putfield 41, 3) := by decide +kernel
theorem dX1_goFurther_31 : decode cX1_goFurther 31 = .ok (.aload_n 0, 1) := by decide +kernel
theorem dX1_goFurther_32 : decode cX1_goFurther 32 = .ok (.aload_n 0, 1) := by decide +kernel
theorem dX1_goFurther_33 : decode cX1_goFurther 33 = .ok (.getfield 44, 3) := by decide +kernel
theorem dX1_goFurther_36 : decode cX1_goFurther 36 = .ok (.aload_n 0, 1) := by decide +kernel
theorem dX1_goFurther_37 : decode cX1_goFurther 37 = .ok (.getfield 18, 3) := by decide +kernel
theorem dX1_goFurther_40 : decode cX1_goFurther 40 = .ok (.getfield 37, 3) := by decide +kernel
theorem dX1_goFurther_43 : decode cX1_goFurther 43 = .ok (.invokestatic 59, 3) := by decide +kernel
theorem dX1_goFurther_46 : decode cX1_goFurther 46 = .ok (.putfield 44, 3) := by decide +kernel
theorem dX1_goFurther_49 : decode cX1_goFurther 49 = .ok (.iconst 1, 1) := by decide +kernel
theorem dX1_goFurther_50 : decode cX1_goFurther 50 = .ok (.ireturn, 1) := by decide +kernel
theorem dX1_repeats_0 : decode cX1_repeats 0 = .ok (.aload_n 0, 1) := by decide +kernel
theorem dX1_repeats_1 : decode cX1_repeats 1 = .ok (.getfield 12, 3) := by decide +kernel
theorem dX1_repeats_4 : decode cX1_repeats 4 = .ok (.getfield 62, 3) := by decide +kernel
theorem dX1_repeats_7 : decode cX1_repeats 7 = .ok (.aload_n 0, 1) := by decide +kernel
theorem dX1_repeats_8 : decode cX1_repeats 8 = .ok (.getfield 18, 3) := by decide +kernel
theorem dX1_repeats_11 : decode cX1_repeats 11 = .ok (.getfield 62, 3) := by decide +kernel
theorem dX1_repeats_14 : decode cX1_repeats 14 = .ok (.if_icmp .eq 5, 3) := by decide +kernel
theorem dX1_repeats_17 : decode cX1_repeats 17 = .ok (.iconst 0, 1) := by decide +kernel
theorem dX1_repeats_18 : decode cX1_repeats 18 = .ok (.ireturn, 1) := by decide +kernel
theorem dX1_repeats_19 : decode cX1_repeats 19 = .ok (.aload_n 0, 1) := by decide +kernel
theorem dX1_repeats_20 : decode cX1_repeats 20 = .ok (.getfield 18, 3) := by decide +kernel
theorem dX1_repeats_23 : decode cX1_repeats 23 = .ok (.getfield 37, 3) := by decide +kernel
theorem dX1_repeats_26 : decode cX1_repeats 26 = .ok (.aload_n 0, 1) := by decide +kernel
theorem dX1_repeats_27 : decode cX1_repeats 27 = .ok (.getfield 12, 3) := by decide +kernel
theorem dX1_repeats_30 : decode cX1_repeats 30 = .ok (.getfield 37, 3) := by decide +kernel
theorem dX1_repeats_33 : decode cX1_repeats 33 = .ok (.isub, 1) := by decide +kernel
theorem dX1_repeats_34 : decode cX1_repeats 34 = .ok (.istore_n 1, 1) := by decide +kernel
theorem dX1_repeats_35 : decode cX1_repeats 35 = .ok (.iload_n 1, 1) := by decide +kernel
theorem dX1_repeats_36 : decode cX1_repeats 36 = .ok (.ifCond .le 10, 3) := by decide +kernel
theorem dX1_repeats_39 : decode cX1_repeats 39 = .ok (.aload_n 0, 1) := by decide +kernel
theorem dX1_repeats_40 : decode cX1_repeats 40 = .ok (.getfield 41, 3) := by decide +kernel
theorem dX1_repeats_43 : decode cX1_repeats 43 = .ok (.goto 10, 3) := by decide +kernel
theorem dX1_repeats_46 : decode cX1_repeats 46 = .ok (.aload_n 0, 1) := by decide +kernel
theorem dX1_repeats_47 : decode cX1_repeats 47 = .ok (.getfield 18, 3) := by decide +kernel
theorem dX1_repeats_50 : decode cX1_repeats 50 = .ok (.getfield 65, 3) := by decide +kernel
theorem dX1_repeats_53 : decode cX1_repeats 53 = .ok (.istore_n 2, 1) := by decide +kernel
theorem dX1_repeats_54 : decode cX1_repeats 54 = .ok (.iload_n 1, 1) := by decide +kernel
theorem dX1_repeats_55 : decode cX1_repeats 55 = .ok (.ifCond .ge 10, 3) := by decide +kernel
theorem dX1_repeats_58 : decode cX1_repeats 58 = .ok (.aload_n 0, 1) := by decide +kernel
theorem dX1_repeats_59 : decode cX1_repeats 59 = .ok (.getfield 44, 3) := by decide +kernel
theorem dX1_repeats_62 : decode cX1_repeats 62 = .ok (.goto 10, 3) := by decide +kernel
theorem dX1_repeats_65 : decode cX1_repeats 65 = .ok (.aload_n 0, 1) := by decide +kernel
theorem dX1_repeats_66 : decode cX1_repeats 66 = .ok (.getfield 18, 3) := by decide +kernel
theorem dX1_repeats_69 : decode cX1_repeats 69 = .ok (.getfield 66, 3) := by decide +kernel
theorem dX1_repeats_72 : decode cX1_repeats 72 = .ok (.istore_n 3, 1) := by decide +kernel
theorem dX1_repeats_73 : decode cX1_repeats 73 = .ok (.iload_n 2, 1) := by decide +kernel
theorem dX1_repeats_74 : decode cX1_repeats 74 = .ok (.istore 4, 2) := by decide +kernel
theorem dX1_repeats_76 : decode cX1_repeats 76 = .ok (.iload 4, 2) := by decide +kernel
theorem dX1_repeats_78 : decode cX1_repeats 78 = .ok (.iload_n 3, 1) := by decide +kernel
theorem dX1_repeats_79 : decode cX1_repeats 79 = .ok (.if_icmp .gt 34, 3) := by decide +kernel
theorem dX1_repeats_82 : decode cX1_repeats 82 = .ok (.aload_n 0, 1) := by decide +kernel
theorem dX1_repeats_83 : decode cX1_repeats 83 = .ok (.getfield 12, 3) := by decide +kernel
theorem dX1_repeats_86 : decode cX1_repeats 86 = .ok (.iload 4, 2) := by decide +kernel
theorem dX1_repeats_88 : decode cX1_repeats 88 = .ok (.invokevirtual 67, 3) := by decide +kernel
theorem dX1_repeats_91 : decode cX1_repeats 91 = .ok (.aload_n 0, 1) := by decide +kernel
theorem dX1_repeats_92 : decode cX1_repeats 92 = .ok (.getfield 18, 3) := by decide +kernel
theorem dX1_repeats_95 : decode cX1_repeats 95 = .ok (.iload 4, 2) := by decide +kernel
theorem dX1_repeats_97 : decode cX1_repeats 97 = .ok (.iload_n 1, 1) := by decide +kernel
theorem dX1_repeats_98 : decode cX1_repeats 98 = .ok (.iadd, 1) := by decide +kernel
theorem dX1_repeats_99 : decode cX1_repeats 99 = .ok (.invokevirtual 67, 3) := by decide +kernel
theorem dX1_repeats_102 : decode cX1_repeats 102 = .ok (.if_icmp .eq 5, 3) := by decide +kernel
theorem dX1_repeats_105 : decode cX1_repeats 105 = .ok (.iconst 0, 1) := by decide +kernel
theorem dX1_repeats_106 : decode cX1_repeats 106 = .ok (.ireturn, 1) := by decide +kernel
theorem dX1_repeats_107 : decode cX1_repeats 107 = .ok (.iinc 4 1, 3) := by decide +kernel
theorem dX1_repeats_110 : decode cX1_repeats 110 = .ok (.goto (-34), 3) := by decide +kernel
theorem dX1_repeats_113 : decode cX1_repeats 113 = .ok (.iconst 1, 1) := by decide +kernel
theorem dX1_repeats_114 : decode cX1_repeats 114 = .ok (.ireturn, 1) := by decide +kernel
theorem dX2_init_0 : decode cX2_init 0 = .ok (.aload_n 0, 1) := by decide +kernel
theorem dX2_init_1 : decode cX2_init 1 = .ok (.invokespecial 3, 3) := by decide +kernel
theorem dX2_init_4 : decode cX2_init 4 = .ok (.aload_n 0, 1) := by decide +kernel
theorem dX2_init_5 : decode cX2_init 5 = .ok (.sipush 512, 3) := by decide +kernel
theorem dX2_init_8 : decode cX2_init 8 = .ok (.newarray .boolean, 2) := by decide +kernel
theorem dX2_init_10 : decode cX2_init 10 = .ok (.putfield 9, 3) := by decide +kernel
theorem dX2_init_13 : decode cX2_init 13 = .ok (.aload_n 0, 1) := by decide +kernel
theorem dX2_init_14 : decode cX2_init 14 = .ok (.sipush 512, 3) := by decide +kernel
theorem dX2_init_17 : decode cX2_init 17 = .ok (.newarray .int, 2) := by decide +kernel
theorem dX2_init_19 : decode cX2_init 19 = .ok (.putfield 15, 3) := by decide +kernel
theorem dX2_init_22 : decode cX2_init 22 = .ok (.aload_n 0, 1) := by decide +kernel
theorem dX2_init_23 : decode cX2_init 23 = .ok (.bipush 8, 2) := by decide +kernel
theorem dX2_init_25 : decode cX2_init 25 = .ok (.newarray .boolean, 2) := by decide +kernel
theorem dX2_init_27 : decode cX2_init 27 = .ok (.putfield 19, 3) := by decide +kernel
theorem dX2_init_30 : decode cX2_init 30 = .ok (.aload_n 0, 1) := by decide +kernel
theorem dX2_init_31 : decode cX2_init 31 = .ok (.bipush 8, 2) := by decide +kernel
theorem dX2_init_33 : decode cX2_init 33 = .ok (.newarray .boolean, 2) := by decide +kernel
theorem dX2_init_35 : decode cX2_init 35 = .ok (.putfield 22, 3) := by decide +kernel
theorem dX2_init_38 : decode cX2_init 38 = .ok (.return_, 1) := by decide +kernel
theorem dX2_smallestWidth_0 : decode cX2_smallestWidth 0 = .ok (.iconst 1, 1) := by decide +kernel
theorem dX2_smallestWidth_1 : decode cX2_smallestWidth 1 = .ok (.istore_n 2, 1) := by decide +kernel
theorem dX2_smallestWidth_2 : decode cX2_smallestWidth 2 = .ok (.iload_n 2, 1) := by decide +kernel
theorem dX2_smallestWidth_3 : decode cX2_smallestWidth 3 = .ok (.iconst 3, 1) := by decide +kernel
theorem dX2_smallestWidth_4 : decode cX2_smallestWidth 4 = .ok (.if_icmp .gt 20, 3) := by decide +kernel
theorem dX2_smallestWidth_7 : decode cX2_smallestWidth 7 = .ok (.aload_n 0, 1) := by decide +kernel
theorem dX2_smallestWidth_8 : decode cX2_smallestWidth 8 = .ok (.aload_n 1, 1) := by decide +kernel
theorem dX2_smallestWidth_9 : decode cX2_smallestWidth 9 = .ok (.iload_n 2, 1) := by decide +kernel
theorem dX2_smallestWidth_10 : decode cX2_smallestWidth 10 = .ok (.invokevirtual 25, 3) := by decide +kernel
theorem dX2_smallestWidth_13 : decode cX2_smallestWidth 13 = .ok (.ifCond .eq 5, 3) := by decide +kernel
theorem dX2_smallestWidth_16 : decode cX2_smallestWidth 16 = .ok (.iload_n 2, 1) := by decide +kernel
theorem dX2_smallestWidth_17 : decode cX2_smallestWidth 17 = .ok (.ireturn, 1) := by decide +kernel
theorem dX2_smallestWidth_18 : decode cX2_smallestWidth 18 = .ok (.iinc 2 1, 3) := by decide +kernel
theorem dX2_smallestWidth_21 : decode cX2_smallestWidth 21 = .ok (.goto (-19), 3) := by decide +kernel
theorem dX2_smallestWidth_24 : decode cX2_smallestWidth 24 = .ok (.iconst (-1), 1) := by decide +kernel
theorem dX2_smallestWidth_25 : decode cX2_smallestWidth 25 = .ok (.ireturn, 1) := by decide +kernel
theorem dX2_isClosed_0 : decode cX2_isClosed 0 = .ok (.aload_n 0, 1) := by decide +kernel
theorem dX2_isClosed_1 : decode cX2_isClosed 1 = .ok (.iload_n 2, 1) := by decide +kernel
theorem dX2_isClosed_2 : decode cX2_isClosed 2 = .ok (.invokevirtual 29, 3) := by decide +kernel
theorem dX2_isClosed_5 : decode cX2_isClosed 5 = .ok (.iconst 0, 1) := by decide +kernel
theorem dX2_isClosed_6 : decode cX2_isClosed 6 = .ok (.istore_n 3, 1) := by decide +kernel
theorem dX2_isClosed_7 : decode cX2_isClosed 7 = .ok (.iload_n 3, 1) := by decide +kernel
theorem dX2_isClosed_8 : decode cX2_isClosed 8 = .ok (.ldc 33, 2) := by decide +kernel
theorem dX2_isClosed_10 : decode cX2_isClosed 10 = .ok (.if_icmp .ge 66, 3) := by decide +kernel
theorem dX2_isClosed_13 : decode cX2_isClosed 13 = .ok (.aload_n 0, 1) := by decide +kernel
theorem dX2_isClosed_14 : decode cX2_isClosed 14 = .ok (.iconst 0, 1) := by decide +kernel
theorem dX2_isClosed_15 : decode cX2_isClosed 15 = .ok (.putfield 34, 3) := by decide +kernel
theorem dX2_isClosed_18 : decode cX2_isClosed 18 = .ok (.iconst 0, 1) := by decide +kernel
theorem dX2_isClosed_19 : decode cX2_isClosed 19 = .ok (.istore 4, 2) := by decide +kernel
theorem dX2_isClosed_21 : decode cX2_isClosed 21 = .ok (.iload 4, 2) := by decide +kernel
theorem dX2_isClosed_23 : decode cX2_isClosed 23 = .ok (.aload_n 0, 1) := by decide +kernel
theorem dX2_isClosed_24 : decode cX2_isClosed 24 = .ok (.getfield 38, 3) := by decide +kernel
theorem dX2_isClosed_27 : decode cX2_isClosed 27 = .ok (.if_icmp .ge 34, 3) := by decide +kernel
theorem dX2_isClosed_30 : decode cX2_isClosed 30 = .ok (.iload 4, 2) := by decide +kernel
theorem dX2_isClosed_32 : decode cX2_isClosed 32 = .ok (.sipush 512, 3) := by decide +kernel
theorem dX2_isClosed_35 : decode cX2_isClosed 35 = .ok (.if_icmp .ge 26, 3) := by decide +kernel
theorem dX2_isClosed_38 : decode cX2_isClosed 38 = .ok (.aload_n 0, 1) := by decide +kernel
theorem dX2_isClosed_39 : decode cX2_isClosed 39 = .ok (.aload_n 1, 1) := by decide +kernel
theorem dX2_isClosed_40 : decode cX2_isClosed 40 = .ok (.aload_n 0, 1) := by decide +kernel
theorem dX2_isClosed_41 : decode cX2_isClosed 41 = .ok (.getfield 15, 3) := by decide +kernel
theorem dX2_isClosed_44 : decode cX2_isClosed 44 = .ok (.iload 4, 2) := by decide +kernel
theorem dX2_isClosed_46 : decode cX2_isClosed 46 = .ok (.iaload, 1) := by decide +kernel
theorem dX2_isClosed_47 : decode cX2_isClosed 47 = .ok (.invokevirtual 42, 3) := by decide +kernel
theorem dX2_isClosed_50 : decode cX2_isClosed 50 = .ok (.ifCond .ne 5, 3) := by decide +kernel
theorem dX2_isClosed_53 : decode cX2_isClosed 53 = .ok (.iconst 0, 1) := by decide +kernel
theorem dX2_isClosed_54 : decode cX2_isClosed 54 = .ok (.ireturn, 1) := by decide +kernel
theorem dX2_isClosed_55 : decode cX2_isClosed 55 = .ok (.iinc 4 1, 3) := by decide +kernel
theorem dX2_isClosed_58 : decode cX2_isClosed 58 = .ok (.goto (-37), 3) := by decide +kernel
theorem dX2_isClosed_61 : decode cX2_isClosed 61 = .ok (.aload_n 0, 1) := by decide +kernel
theorem dX2_isClosed_62 : decode cX2_isClosed 62 = .ok (.getfield 34, 3) := by decide +kernel
theorem dX2_isClosed_65 : decode cX2_isClosed 65 = .ok (.ifCond .ne 5, 3) := by decide +kernel
theorem dX2_isClosed_68 : decode cX2_isClosed 68 = .ok (.iconst 1, 1) := by decide +kernel
theorem dX2_isClosed_69 : decode cX2_isClosed 69 = .ok (.ireturn, 1) := by decide +kernel
theorem dX2_isClosed_70 : decode cX2_isClosed 70 = .ok (.iinc 3 1, 3) := by decide +kernel
theorem dX2_isClosed_73 : decode cX2_isClosed 73 = .ok (.goto (-66), 3) := by decide +kernel
theorem dX2_isClosed_76 : decode cX2_isClosed 76 = .ok (.iconst 0, 1) := by decide +kernel
theorem dX2_isClosed_77 : decode cX2_isClosed 77 = .ok (.ireturn, 1) := by decide +kernel
theorem dX2_clear_0 : decode cX2_clear 0 = .ok (.iconst 0, 1) := by decide +kernel
theorem dX2_clear_1 : decode cX2_clear 1 = .ok (.istore_n 2, 1) := by decide +kernel
theorem dX2_clear_2 : decode cX2_clear 2 = .ok (.iload_n 2, 1) := by decide +kernel
theorem dX2_clear_3 : decode cX2_clear 3 = .ok (.sipush 512, 3) := by decide +kernel
theorem dX2_clear_6 : decode cX2_clear 6 = .ok (.if_icmp .ge 16, 3) := by decide +kernel
theorem dX2_clear_9 : decode cX2_clear 9 = .ok (.aload_n 0, 1) := by decide +kernel
theorem dX2_clear_10 : decode cX2_clear 10 = .ok (.getfield 9, 3) := by decide +kernel
theorem dX2_clear_13 : decode cX2_clear 13 = .ok (.iload_n 2, 1) := by decide +kernel
theorem dX2_clear_14 : decode cX2_clear 14 = .ok (.iconst 0, 1) := by decide +kernel
theorem dX2_clear_15 : decode cX2_clear 15 = .ok (.bastore, 1) := by decide +kernel
theorem dX2_clear_16 : decode cX2_clear 16 = .ok (.iinc 2 1, 3) := by decide +kernel
theorem dX2_clear_19 : decode cX2_clear 19 = .ok (.goto (-17), 3) := by decide +kernel
theorem dX2_clear_22 : decode cX2_clear 22 = .ok (.iconst 0, 1) := by decide +kernel
theorem dX2_clear_23 : decode cX2_clear 23 = .ok (.istore_n 2, 1) := by decide +kernel
theorem dX2_clear_24 : decode cX2_clear 24 = .ok (.iload_n 2, 1) := by decide +kernel
theorem dX2_clear_25 : decode cX2_clear 25 = .ok (.bipush 8, 2) := by decide +kernel
theorem dX2_clear_27 : decode cX2_clear 27 = .ok (.if_icmp .ge 23, 3) := by decide +kernel
theorem dX2_clear_30 : decode cX2_clear 30 = .ok (.aload_n 0, 1) := by decide +kernel
theorem dX2_clear_31 : decode cX2_clear 31 = .ok (.getfield 19, 3) := by decide +kernel
theorem dX2_clear_34 : decode cX2_clear 34 = .ok (.iload_n 2, 1) := by decide +kernel
theorem dX2_clear_35 : decode cX2_clear 35 = .ok (.iconst 0, 1) := by decide +kernel
theorem dX2_clear_36 : decode cX2_clear 36 = .ok (.bastore, 1) := by decide +kernel
theorem dX2_clear_37 : decode cX2_clear 37 = .ok (.aload_n 0, 1) := by decide +kernel
theorem dX2_clear_38 : decode cX2_clear 38 = .ok (.getfield 22, 3) := by decide +kernel
theorem dX2_clear_41 : decode cX2_clear 41 = .ok (.iload_n 2, 1) := by decide +kernel
theorem dX2_clear_42 : decode cX2_clear 42 = .ok (.iconst 0, 1) := by decide +kernel
theorem dX2_clear_43 : decode cX2_clear 43 = .ok (.bastore, 1) := by decide +kernel
theorem dX2_clear_44 : decode cX2_clear 44 = .ok (.iinc 2 1, 3) := by decide +kernel
theorem dX2_clear_47 : decode cX2_clear 47 = .ok (.goto (-23), 3) := by decide +kernel
theorem dX2_clear_50 : decode cX2_clear 50 = .ok (.aload_n 0, 1) := by decide +kernel
theorem dX2_clear_51 : decode cX2_clear 51 = .ok (.iload_n 1, 1) := by decide +kernel
theorem dX2_clear_52 : decode cX2_clear 52 = .ok (.putfield 45, 3) := by decide +kernel
theorem dX2_clear_55 : decode cX2_clear 55 = .ok (.aload_n 0, 1) := by decide +kernel
theorem dX2_clear_56 : decode cX2_clear 56 = .ok (.iconst 0, 1) := by decide +kernel
theorem dX2_clear_57 : decode cX2_clear 57 = .ok (.putfield 38, 3) := by decide +kernel
theorem dX2_clear_60 : decode cX2_clear 60 = .ok (.aload_n 0, 1) := by decide +kernel
theorem dX2_clear_61 : decode cX2_clear 61 = .ok (.aload_n 0, 1) := by decide +kernel
theorem dX2_clear_62 : decode cX2_clear 62 = .ok (.getfield 19, 3) := by decide +kernel
theorem dX2_clear_65 : decode cX2_clear 65 = .ok (.iconst 0, 1) := by decide +kernel
theorem dX2_clear_66 : decode cX2_clear 66 = .ok (.invokevirtual 48, 3) := by decide +kernel
theorem dX2_clear_69 : decode cX2_clear 69 = .ok (.aload_n 0, 1) := by decide +kernel
theorem dX2_clear_70 : decode cX2_clear 70 = .ok (.aload_n 0, 1) := by decide +kernel
theorem dX2_clear_71 : decode cX2_clear 71 = .ok (.getfield 22, 3) := by decide +kernel
theorem dX2_clear_74 : decode cX2_clear 74 = .ok (.iconst 0, 1) := by decide +kernel
theorem dX2_clear_75 : decode cX2_clear 75 = .ok (.invokevirtual 48, 3) := by decide +kernel
theorem dX2_clear_78 : decode cX2_clear 78 = .ok (.aload_n 0, 1) := by decide +kernel
theorem dX2_clear_79 : decode cX2_clear 79 = .ok (.iconst 0, 1) := by decide +kernel
theorem dX2_clear_80 : decode cX2_clear 80 = .ok (.iconst 0, 1) := by decide +kernel
theorem dX2_clear_81 : decode cX2_clear 81 = .ok (.iconst 0, 1) := by decide +kernel
theorem dX2_clear_82 : decode cX2_clear 82 = .ok (.invokevirtual 52, 3) := by decide +kernel
theorem dX2_clear_85 : decode cX2_clear 85 = .ok (.return_, 1) := by decide +kernel
theorem dX2_spread_0 : decode cX2_spread 0 = .ok (.iload_n 2, 1) := by decide +kernel
theorem dX2_spread_1 : decode cX2_spread 1 = .ok (.bipush 64, 2) := by decide +kernel
theorem dX2_spread_3 : decode cX2_spread 3 = .ok (.idiv, 1) := by decide +kernel
theorem dX2_spread_4 : decode cX2_spread 4 = .ok (.istore_n 3, 1) := by decide +kernel
theorem dX2_spread_5 : decode cX2_spread 5 = .ok (.iload_n 2, 1) := by decide +kernel
theorem dX2_spread_6 : decode cX2_spread 6 = .ok (.bipush 8, 2) := by decide +kernel
theorem dX2_spread_8 : decode cX2_spread 8 = .ok (.idiv, 1) := by decide +kernel
theorem dX2_spread_9 : decode cX2_spread 9 = .ok (.bipush 8, 2) := by decide +kernel
theorem dX2_spread_11 : decode cX2_spread 11 = .ok (.irem, 1) := by decide +kernel
theorem dX2_spread_12 : decode cX2_spread 12 = .ok (.istore 4, 2) := by decide +kernel
theorem dX2_spread_14 : decode cX2_spread 14 = .ok (.iload_n 2, 1) := by decide +kernel
theorem dX2_spread_15 : decode cX2_spread 15 = .ok (.bipush 8, 2) := by decide +kernel
theorem dX2_spread_17 : decode cX2_spread 17 = .ok (.irem, 1) := by decide +kernel
theorem dX2_spread_18 : decode cX2_spread 18 = .ok (.istore 5, 2) := by decide +kernel
theorem dX2_spread_20 : decode cX2_spread 20 = .ok (.aload_n 1, 1) := by decide +kernel
theorem dX2_spread_21 : decode cX2_spread 21 = .ok (.iload_n 3, 1) := by decide +kernel
theorem dX2_spread_22 : decode cX2_spread 22 = .ok (.invokevirtual 56, 3) := by decide +kernel
theorem dX2_spread_25 : decode cX2_spread 25 = .ok (.ifCond .eq 5, 3) := by decide +kernel
theorem dX2_spread_28 : decode cX2_spread 28 = .ok (.iconst 0, 1) := by decide +kernel
theorem dX2_spread_29 : decode cX2_spread 29 = .ok (.ireturn, 1) := by decide +kernel
theorem dX2_spread_30 : decode cX2_spread 30 = .ok (.aload_n 1, 1) := by decide +kernel
theorem dX2_spread_31 : decode cX2_spread 31 = .ok (.iload_n 3, 1) := by decide +kernel
theorem dX2_spread_32 : decode cX2_spread 32 = .ok (.invokevirtual 62, 3) := by decide +kernel
theorem dX2_spread_35 : decode cX2_spread 35 = .ok (.iconst 1, 1) := by decide +kernel
theorem dX2_spread_36 : decode cX2_spread 36 = .ok (.if_icmp .ne 7, 3) := by decide +kernel
theorem dX2_spread_39 : decode cX2_spread 39 = .ok (.iconst 1, 1) := by decide +kernel
theorem dX2_spread_40 : decode cX2_spread 40 = .ok (.goto 4, 3) := by decide +kernel
theorem dX2_spread_43 : decode cX2_spread 43 = .ok (.iconst 0, 1) := by decide +kernel
theorem dX2_spread_44 : decode cX2_spread 44 = .ok (.istore 6, 2) := by decide +kernel
theorem dX2_spread_46 : decode cX2_spread 46 = .ok (.iload 6, 2) := by decide +kernel
theorem dX2_spread_48 : decode cX2_spread 48 = .ok (.ifCond .eq 8, 3) := by decide +kernel
theorem dX2_spread_51 : decode cX2_spread 51 = .ok (.iload 5, 2) := by decide +kernel
theorem dX2_spread_53 : decode cX2_spread 53 = .ok (.goto 5, 3) := by decide +kernel
theorem dX2_spread_56 : decode cX2_spread 56 = .ok (.iload 4, 2) := by decide +kernel
theorem dX2_spread_58 : decode cX2_spread 58 = .ok (.istore 7, 2) := by decide +kernel
theorem dX2_spread_60 : decode cX2_spread 60 = .ok (.iload 6, 2) := by decide +kernel
theorem dX2_spread_62 : decode cX2_spread 62 = .ok (.ifCond .eq 8, 3) := by decide +kernel
theorem dX2_spread_65 : decode cX2_spread 65 = .ok (.iload 4, 2) := by decide +kernel
theorem dX2_spread_67 : decode cX2_spread 67 = .ok (.goto 5, 3) := by decide +kernel
theorem dX2_spread_70 : decode cX2_spread 70 = .ok (.iload 5, 2) := by decide +kernel
theorem dX2_spread_72 : decode cX2_spread 72 = .ok (.istore 8, 2) := by decide +kernel
theorem dX2_spread_74 : decode cX2_spread 74 = .ok (.aload_n 0, 1) := by decide +kernel
theorem dX2_spread_75 : decode cX2_spread 75 = .ok (.iload 6, 2) := by decide +kernel
theorem dX2_spread_77 : decode cX2_spread 77 = .ok (.ifCond .eq 10, 3) := by decide +kernel
theorem dX2_spread_80 : decode cX2_spread 80 = .ok (.aload_n 0, 1) := by decide +kernel
theorem dX2_spread_81 : decode cX2_spread 81 = .ok (.getfield 19, 3) := by decide +kernel
theorem dX2_spread_84 : decode cX2_spread 84 = .ok (.goto 7, 3) := by decide +kernel
theorem dX2_spread_87 : decode cX2_spread 87 = .ok (.aload_n 0, 1) := by decide +kernel
theorem dX2_spread_88 : decode cX2_spread 88 = .ok (.getfield 22, 3) := by decide +kernel
theorem dX2_spread_91 : decode cX2_spread 91 = .ok (.iload 8, 2) := by decide +kernel
theorem dX2_spread_93 : decode cX2_spread 93 = .ok (.invokevirtual 48, 3) := by decide +kernel
theorem dX2_spread_96 : decode cX2_spread 96 = .ok (.iconst 2, 1) := by decide +kernel
theorem dX2_spread_97 : decode cX2_spread 97 = .ok (.aload_n 1, 1) := by decide +kernel
theorem dX2_spread_98 : decode cX2_spread 98 = .ok (.iload_n 3, 1) := by decide +kernel
theorem dX2_spread_99 : decode cX2_spread 99 = .ok (.invokevirtual 66, 3) := by decide +kernel
theorem dX2_spread_102 : decode cX2_spread 102 = .ok (.imul, 1) := by decide +kernel
theorem dX2_spread_103 : decode cX2_spread 103 = .ok (.iload 7, 2) := by decide +kernel
theorem dX2_spread_105 : decode cX2_spread 105 = .ok (.iconst 1, 1) := by decide +kernel
theorem dX2_spread_106 : decode cX2_spread 106 = .ok (.iand, 1) := by decide +kernel
theorem dX2_spread_107 : decode cX2_spread 107 = .ok (.iadd, 1) := by decide +kernel
theorem dX2_spread_108 : decode cX2_spread 108 = .ok (.istore 9, 2) := by decide +kernel
theorem dX2_spread_110 : decode cX2_spread 110 = .ok (.iload 8, 2) := by decide +kernel
theorem dX2_spread_112 : decode cX2_spread 112 = .ok (.iconst 1, 1) := by decide +kernel
theorem dX2_spread_113 : decode cX2_spread 113 = .ok (.ishl, 1) := by decide +kernel
theorem dX2_spread_114 : decode cX2_spread 114 = .ok (.aload_n 1, 1) := by decide +kernel
theorem dX2_spread_115 : decode cX2_spread 115 = .ok (.iload_n 3, 1) := by decide +kernel
theorem dX2_spread_116 : decode cX2_spread 116 = .ok (.invokevirtual 69, 3) := by decide +kernel
theorem dX2_spread_119 : decode cX2_spread 119 = .ok (.ior, 1) := by decide +kernel
theorem dX2_spread_120 : decode cX2_spread 120 = .ok (.iconst 1, 1) := by decide +kernel
theorem dX2_spread_121 : decode cX2_spread 121 = .ok (.aload_n 0, 1) := by decide +kernel
theorem dX2_spread_122 : decode cX2_spread 122 = .ok (.getfield 45, 3) := by decide +kernel
theorem dX2_spread_125 : decode cX2_spread 125 = .ok (.ishl, 1) := by decide +kernel
theorem dX2_spread_126 : decode cX2_spread 126 = .ok (.iconst 1, 1) := by decide +kernel
theorem dX2_spread_127 : decode cX2_spread 127 = .ok (.isub, 1) := by decide +kernel
theorem dX2_spread_128 : decode cX2_spread 128 = .ok (.iand, 1) := by decide +kernel
theorem dX2_spread_129 : decode cX2_spread 129 = .ok (.istore 10, 2) := by decide +kernel
theorem dX2_spread_131 : decode cX2_spread 131 = .ok (.iconst 0, 1) := by decide +kernel
theorem dX2_spread_132 : decode cX2_spread 132 = .ok (.istore 11, 2) := by decide +kernel
theorem dX2_spread_134 : decode cX2_spread 134 = .ok (.iload 11, 2) := by decide +kernel
theorem dX2_spread_136 : decode cX2_spread 136 = .ok (.iconst 1, 1) := by decide +kernel
theorem dX2_spread_137 : decode cX2_spread 137 = .ok (.if_icmp .gt 80, 3) := by decide +kernel
theorem dX2_spread_140 : decode cX2_spread 140 = .ok (.iload 7, 2) := by decide +kernel
theorem dX2_spread_142 : decode cX2_spread 142 = .ok (.iconst 1, 1) := by decide +kernel
theorem dX2_spread_143 : decode cX2_spread 143 = .ok (.ishr, 1) := by decide +kernel
theorem dX2_spread_144 : decode cX2_spread 144 = .ok (.iload 11, 2) := by decide +kernel
theorem dX2_spread_146 : decode cX2_spread 146 = .ok (.aload_n 0, 1) := by decide +kernel
theorem dX2_spread_147 : decode cX2_spread 147 = .ok (.getfield 45, 3) := by decide +kernel
theorem dX2_spread_150 : decode cX2_spread 150 = .ok (.iconst 1, 1) := by decide +kernel
theorem dX2_spread_151 : decode cX2_spread 151 = .ok (.isub, 1) := by decide +kernel
theorem dX2_spread_152 : decode cX2_spread 152 = .ok (.ishl, 1) := by decide +kernel
theorem dX2_spread_153 : decode cX2_spread 153 = .ok (.ior, 1) := by decide +kernel
theorem dX2_spread_154 : decode cX2_spread 154 = .ok (.istore 12, 2) := by decide +kernel
theorem dX2_spread_156 : decode cX2_spread 156 = .ok (.aload_n 0, 1) := by decide +kernel
theorem dX2_spread_157 : decode cX2_spread 157 = .ok (.iload 6, 2) := by decide +kernel
theorem dX2_spread_159 : decode cX2_spread 159 = .ok (.ifCond .eq 10, 3) := by decide +kernel
theorem dX2_spread_162 : decode cX2_spread 162 = .ok (.aload_n 0, 1) := by decide +kernel
theorem dX2_spread_163 : decode cX2_spread 163 = .ok (.getfield 22, 3) := by decide +kernel
theorem dX2_spread_166 : decode cX2_spread 166 = .ok (.goto 7, 3) := by decide +kernel
theorem dX2_spread_169 : decode cX2_spread 169 = .ok (.aload_n 0, 1) := by decide +kernel
theorem dX2_spread_170 : decode cX2_spread 170 = .ok (.getfield 19, 3) := by decide +kernel
theorem dX2_spread_173 : decode cX2_spread 173 = .ok (.iload 12, 2) := by decide +kernel
theorem dX2_spread_175 : decode cX2_spread 175 = .ok (.invokevirtual 72, 3) := by decide +kernel
theorem dX2_spread_178 : decode cX2_spread 178 = .ok (.ifCond .eq 33, 3) := by decide +kernel
theorem dX2_spread_181 : decode cX2_spread 181 = .ok (.aload_n 0, 1) := by decide +kernel
theorem dX2_spread_182 : decode cX2_spread 182 = .ok (.iload 9, 2) := by decide +kernel
theorem dX2_spread_184 : decode cX2_spread 184 = .ok (.iload 6, 2) := by decide +kernel
theorem dX2_spread_186 : decode cX2_spread 186 = .ok (.ifCond .eq 8, 3) := by decide +kernel
theorem dX2_spread_189 : decode cX2_spread 189 = .ok (.iload 10, 2) := by decide +kernel
theorem dX2_spread_191 : decode cX2_spread 191 = .ok (.goto 5, 3) := by decide +kernel
theorem dX2_spread_194 : decode cX2_spread 194 = .ok (.iload 12, 2) := by decide +kernel
theorem dX2_spread_196 : decode cX2_spread 196 = .ok (.iload 6, 2) := by decide +kernel
theorem dX2_spread_198 : decode cX2_spread 198 = .ok (.ifCond .eq 8, 3) := by decide +kernel
theorem dX2_spread_201 : decode cX2_spread 201 = .ok (.iload 12, 2) := by decide +kernel
theorem dX2_spread_203 : decode cX2_spread 203 = .ok (.goto 5, 3) := by decide +kernel
theorem dX2_spread_206 : decode cX2_spread 206 = .ok (.iload 10, 2) := by decide +kernel
theorem dX2_spread_208 : decode cX2_spread 208 = .ok (.invokevirtual 52, 3) := by decide +kernel
theorem dX2_spread_211 : decode cX2_spread 211 = .ok (.iinc 11 1, 3) := by decide +kernel
theorem dX2_spread_214 : decode cX2_spread 214 = .ok (.goto (-80), 3) := by decide +kernel
theorem dX2_spread_217 : decode cX2_spread 217 = .ok (.iconst 1, 1) := by decide +kernel
theorem dX2_spread_218 : decode cX2_spread 218 = .ok (.ireturn, 1) := by decide +kernel
theorem dX2_hasRow_0 : decode cX2_hasRow 0 = .ok (.iload_n 2, 1) := by decide +kernel
theorem dX2_hasRow_1 : decode cX2_hasRow 1 = .ok (.ifCond .lt 19, 3) := by decide +kernel
theorem dX2_hasRow_4 : decode cX2_hasRow 4 = .ok (.iload_n 2, 1) := by decide +kernel
theorem dX2_hasRow_5 : decode cX2_hasRow 5 = .ok (.aload_n 1, 1) := by decide +kernel
theorem dX2_hasRow_6 : decode cX2_hasRow 6 = .ok (.arraylength, 1) := by decide +kernel
theorem dX2_hasRow_7 : decode cX2_hasRow 7 = .ok (.if_icmp .ge 13, 3) := by decide +kernel
theorem dX2_hasRow_10 : decode cX2_hasRow 10 = .ok (.aload_n 1, 1) := by decide +kernel
theorem dX2_hasRow_11 : decode cX2_hasRow 11 = .ok (.iload_n 2, 1) := by decide +kernel
theorem dX2_hasRow_12 : decode cX2_hasRow 12 = .ok (.baload, 1) := by decide +kernel
theorem dX2_hasRow_13 : decode cX2_hasRow 13 = .ok (.ifCond .eq 7, 3) := by decide +kernel
theorem dX2_hasRow_16 : decode cX2_hasRow 16 = .ok (.iconst 1, 1) := by decide +kernel
theorem dX2_hasRow_17 : decode cX2_hasRow 17 = .ok (.goto 4, 3) := by decide +kernel
theorem dX2_hasRow_20 : decode cX2_hasRow 20 = .ok (.iconst 0, 1) := by decide +kernel
theorem dX2_hasRow_21 : decode cX2_hasRow 21 = .ok (.ireturn, 1) := by decide +kernel
theorem dX2_addRow_0 : decode cX2_addRow 0 = .ok (.iload_n 2, 1) := by decide +kernel
theorem dX2_addRow_1 : decode cX2_addRow 1 = .ok (.ifCond .lt 24, 3) := by decide +kernel
theorem dX2_addRow_4 : decode cX2_addRow 4 = .ok (.iload_n 2, 1) := by decide +kernel
theorem dX2_addRow_5 : decode cX2_addRow 5 = .ok (.aload_n 1, 1) := by decide +kernel
theorem dX2_addRow_6 : decode cX2_addRow 6 = .ok (.arraylength, 1) := by decide +kernel
theorem dX2_addRow_7 : decode cX2_addRow 7 = .ok (.if_icmp .ge 18, 3) := by decide +kernel
theorem dX2_addRow_10 : decode cX2_addRow 10 = .ok (.aload_n 1, 1) := by decide +kernel
theorem dX2_addRow_11 : decode cX2_addRow 11 = .ok (.iload_n 2, 1) := by decide +kernel
theorem dX2_addRow_12 : decode cX2_addRow 12 = .ok (.baload, 1) := by decide +kernel
theorem dX2_addRow_13 : decode cX2_addRow 13 = .ok (.ifCond .ne 12, 3) := by decide +kernel
theorem dX2_addRow_16 : decode cX2_addRow 16 = .ok (.aload_n 1, 1) := by decide +kernel
theorem dX2_addRow_17 : decode cX2_addRow 17 = .ok (.iload_n 2, 1) := by decide +kernel
theorem dX2_addRow_18 : decode cX2_addRow 18 = .ok (.iconst 1, 1) := by decide +kernel
theorem dX2_addRow_19 : decode cX2_addRow 19 = .ok (.bastore, 1) := by decide +kernel
theorem dX2_addRow_20 : decode cX2_addRow 20 = .ok (.aload_n 0, 1) := by decide +kernel
theorem dX2_addRow_21 : decode cX2_addRow 21 = .ok (.iconst 1, 1) := by decide +kernel
theorem dX2_addRow_22 : decode cX2_addRow 22 = .ok (.putfield 34, 3) := by decide +kernel
theorem dX2_addRow_25 : decode cX2_addRow 25 = .ok (.return_, 1) := by decide +kernel
theorem dX2_addWindow_0 : decode cX2_addWindow 0 = .ok (.iload_n 1, 1) := by decide +kernel
theorem dX2_addWindow_1 : decode cX2_addWindow 1 = .ok (.bipush 8, 2) := by decide +kernel
theorem dX2_addWindow_3 : decode cX2_addWindow 3 = .ok (.imul, 1) := by decide +kernel
theorem dX2_addWindow_4 : decode cX2_addWindow 4 = .ok (.iload_n 2, 1) := by decide +kernel
theorem dX2_addWindow_5 : decode cX2_addWindow 5 = .ok (.iadd, 1) := by decide +kernel
theorem dX2_addWindow_6 : decode cX2_addWindow 6 = .ok (.bipush 8, 2) := by decide +kernel
theorem dX2_addWindow_8 : decode cX2_addWindow 8 = .ok (.imul, 1) := by decide +kernel
theorem dX2_addWindow_9 : decode cX2_addWindow 9 = .ok (.iload_n 3, 1) := by decide +kernel
theorem dX2_addWindow_10 : decode cX2_addWindow 10 = .ok (.iadd, 1) := by decide +kernel
theorem dX2_addWindow_11 : decode cX2_addWindow 11 = .ok (.istore 4, 2) := by decide +kernel
theorem dX2_addWindow_13 : decode cX2_addWindow 13 = .ok (.iload 4, 2) := by decide +kernel
theorem dX2_addWindow_15 : decode cX2_addWindow 15 = .ok (.ifCond .lt 21, 3) := by decide +kernel
theorem dX2_addWindow_18 : decode cX2_addWindow 18 = .ok (.iload 4, 2) := by decide +kernel
theorem dX2_addWindow_20 : decode cX2_addWindow 20 = .ok (.sipush 512, 3) := by decide +kernel
theorem dX2_addWindow_23 : decode cX2_addWindow 23 = .ok (.if_icmp .ge 13, 3) := by decide +kernel
theorem dX2_addWindow_26 : decode cX2_addWindow 26 = .ok (.aload_n 0, 1) := by decide +kernel
theorem dX2_addWindow_27 : decode cX2_addWindow 27 = .ok (.getfield 9, 3) := by decide +kernel
theorem dX2_addWindow_30 : decode cX2_addWindow 30 = .ok (.iload 4, 2) := by decide +kernel
theorem dX2_addWindow_32 : decode cX2_addWindow 32 = .ok (.baload, 1) := by decide +kernel
theorem dX2_addWindow_33 : decode cX2_addWindow 33 = .ok (.ifCond .eq 4, 3) := by decide +kernel
theorem dX2_addWindow_36 : decode cX2_addWindow 36 = .ok (.return_, 1) := by decide +kernel
theorem dX2_addWindow_37 : decode cX2_addWindow 37 = .ok (.aload_n 0, 1) := by decide +kernel
theorem dX2_addWindow_38 : decode cX2_addWindow 38 = .ok (.getfield 38, 3) := by decide +kernel
theorem dX2_addWindow_41 : decode cX2_addWindow 41 = .ok (.ifCond .lt 47, 3) := by decide +kernel
theorem dX2_addWindow_44 : decode cX2_addWindow 44 = .ok (.aload_n 0, 1) := by decide +kernel
theorem dX2_addWindow_45 : decode cX2_addWindow 45 = .ok (.getfield 38, 3) := by decide +kernel
theorem dX2_addWindow_48 : decode cX2_addWindow 48 = .ok (.sipush 512, 3) := by decide +kernel
