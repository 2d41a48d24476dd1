theorem dX0_init_0 : decode cX0_init 0 = .ok (.aload_n 0, 1) := by decide +kernel
theorem dX0_init_1 : decode cX0_init 1 = .ok (.invokespecial 3, 3) := by decide +kernel
theorem dX0_init_4 : decode cX0_init 4 = .ok (.aload_n 0, 1) := by decide +kernel
theorem dX0_init_5 : decode cX0_init 5 = .ok (.new 9, 3) := by decide +kernel
theorem dX0_init_8 : decode cX0_init 8 = .ok (.dup, 1) := by decide +kernel
theorem dX0_init_9 : decode cX0_init 9 = .ok (.invokespecial 11, 3) := by decide +kernel
theorem dX0_init_12 : decode cX0_init 12 = .ok (.putfield 12, 3) := by decide +kernel
theorem dX0_init_15 : decode cX0_init 15 = .ok (.aload_n 0, 1) := by decide +kernel
theorem dX0_init_16 : decode cX0_init 16 = .ok (.new 9, 3) := by decide +kernel
theorem dX0_init_19 : decode cX0_init 19 = .ok (.dup, 1) := by decide +kernel
theorem dX0_init_20 : decode cX0_init 20 = .ok (.invokespecial 11, 3) := by decide +kernel
theorem dX0_init_23 : decode cX0_init 23 = .ok (.putfield 18, 3) := by decide +kernel
theorem dX0_init_26 : decode cX0_init 26 = .ok (.return_, 1) := by decide +kernel
theorem dX1_init_0 : decode cX1_init 0 = .ok (.aload_n 0, 1) := by decide +kernel
theorem dX1_init_1 : decode cX1_init 1 = .ok (.invokespecial 3, 3) := by decide +kernel
theorem dX1_init_4 : decode cX1_init 4 = .ok (.aload_n 0, 1) := by decide +kernel
theorem dX1_init_5 : decode cX1_init 5 = .ok (.new 9, 3) := by decide +kernel
theorem dX1_init_8 : decode cX1_init 8 = .ok (.dup, 1) := by decide +kernel
theorem dX1_init_9 : decode cX1_init 9 = .ok (.invokespecial 11, 3) := by decide +kernel
theorem dX1_init_12 : decode cX1_init 12 = .ok (.putfield 12, 3) := by decide +kernel
theorem dX1_init_15 : decode cX1_init 15 = .ok (.aload_n 0, 1) := by decide +kernel
theorem dX1_init_16 : decode cX1_init 16 = .ok (.new 9, 3) := by decide +kernel
theorem dX1_init_19 : decode cX1_init 19 = .ok (.dup, 1) := by decide +kernel
theorem dX1_init_20 : decode cX1_init 20 = .ok (.invokespecial 11, 3) := by decide +kernel
theorem dX1_init_23 : decode cX1_init 23 = .ok (.putfield 18, 3) := by decide +kernel
theorem dX1_init_26 : decode cX1_init 26 = .ok (.return_, 1) := by decide +kernel
theorem dX2_init_0 : decode cX2_init 0 = .ok (.aload_n 0, 1) := by decide +kernel
theorem dX2_init_1 : decode cX2_init 1 = .ok (.invokespecial 3, 3) := by decide +kernel
theorem dX2_init_4 : decode cX2_init 4 = .ok (.aload_n 0, 1) := by decide +kernel
theorem dX2_init_5 : decode cX2_init 5 = .ok (.sipush 512, 3) := by decide +kernel
theorem dX2_init_8 : decode cX2_init 8 = .ok (.newarray .boolean, 2) := by decide +kernel
theorem dX2_init_10 : decode cX2_init 10 = .ok (.putfield 9, 3) := by decide +kernel
theorem dX2_init_13 : decode cX2_init 13 = .ok (.aload_n 0, 1) := by decide +kernel
theorem dX2_init_14 : decode cX2_init 14 = .ok (.sipush 512, 3) := by decide +kernel
theorem dX2_init_17 : decode cX2_init 17 = .ok (.newarray .int, 2) := by decide +kernel
theorem dX2_init_19 : decode cX2_init 19 = .ok (.putfield 15, 3) := by decide +kernel
theorem dX2_init_22 : decode cX2_init 22 = .ok (.aload_n 0, 1) := by decide +kernel
theorem dX2_init_23 : decode cX2_init 23 = .ok (.bipush 8, 2) := by decide +kernel
theorem dX2_init_25 : decode cX2_init 25 = .ok (.newarray .boolean, 2) := by decide +kernel
theorem dX2_init_27 : decode cX2_init 27 = .ok (.putfield 19, 3) := by decide +kernel
theorem dX2_init_30 : decode cX2_init 30 = .ok (.aload_n 0, 1) := by decide +kernel
theorem dX2_init_31 : decode cX2_init 31 = .ok (.bipush 8, 2) := by decide +kernel
theorem dX2_init_33 : decode cX2_init 33 = .ok (.newarray .boolean, 2) := by decide +kernel
theorem dX2_init_35 : decode cX2_init 35 = .ok (.putfield 22, 3) := by decide +kernel
theorem dX2_init_38 : decode cX2_init 38 = .ok (.return_, 1) := by decide +kernel
theorem dX3_init_0 : decode cX3_init 0 = .ok (.aload_n 0, 1) := by decide +kernel
theorem dX3_init_1 : decode cX3_init 1 = .ok (.invokespecial 3, 3) := by decide +kernel
theorem dX3_init_4 : decode cX3_init 4 = .ok (.aload_n 0, 1) := by decide +kernel
theorem dX3_init_5 : decode cX3_init 5 = .ok (.iload_n 1, 1) := by decide +kernel
theorem dX3_init_6 : decode cX3_init 6 = .ok (.putfield 9, 3) := by decide +kernel
theorem dX3_init_9 : decode cX3_init 9 = .ok (.aload_n 0, 1) := by decide +kernel
theorem dX3_init_10 : decode cX3_init 10 = .ok (.bipush 8, 2) := by decide +kernel
theorem dX3_init_12 : decode cX3_init 12 = .ok (.newarray .int, 2) := by decide +kernel
theorem dX3_init_14 : decode cX3_init 14 = .ok (.putfield 15, 3) := by decide +kernel
theorem dX3_init_17 : decode cX3_init 17 = .ok (.aload_n 0, 1) := by decide +kernel
theorem dX3_init_18 : decode cX3_init 18 = .ok (.bipush 8, 2) := by decide +kernel
theorem dX3_init_20 : decode cX3_init 20 = .ok (.newarray .int, 2) := by decide +kernel
theorem dX3_init_22 : decode cX3_init 22 = .ok (.putfield 19, 3) := by decide +kernel
theorem dX3_init_25 : decode cX3_init 25 = .ok (.aload_n 0, 1) := by decide +kernel
theorem dX3_init_26 : decode cX3_init 26 = .ok (.bipush 8, 2) := by decide +kernel
theorem dX3_init_28 : decode cX3_init 28 = .ok (.newarray .int, 2) := by decide +kernel
theorem dX3_init_30 : decode cX3_init 30 = .ok (.putfield 22, 3) := by decide +kernel
theorem dX3_init_33 : decode cX3_init 33 = .ok (.iconst 0, 1) := by decide +kernel
theorem dX3_init_34 : decode cX3_init 34 = .ok (.istore_n 2, 1) := by decide +kernel
theorem dX3_init_35 : decode cX3_init 35 = .ok (.iload_n 2, 1) := by decide +kernel
theorem dX3_init_36 : decode cX3_init 36 = .ok (.bipush 8, 2) := by decide +kernel
theorem dX3_init_38 : decode cX3_init 38 = .ok (.if_icmp .ge 16, 3) := by decide +kernel
theorem dX3_init_41 : decode cX3_init 41 = .ok (.aload_n 0, 1) := by decide +kernel
theorem dX3_init_42 : decode cX3_init 42 = .ok (.getfield 15, 3) := by decide +kernel
theorem dX3_init_45 : decode cX3_init 45 = .ok (.iload_n 2, 1) := by decide +kernel
theorem dX3_init_46 : decode cX3_init 46 = .ok (.iconst (-1), 1) := by decide +kernel
theorem dX3_init_47 : decode cX3_init 47 = .ok (.iastore, 1) := by decide +kernel
theorem dX3_init_48 : decode cX3_init 48 = .ok (.iinc 2 1, 3) := by decide +kernel
theorem dX3_init_51 : decode cX3_init 51 = .ok (.goto (-16), 3) := by decide +kernel
theorem dX3_init_54 : decode cX3_init 54 = .ok (.aload_n 0, 1) := by decide +kernel
theorem dX3_init_55 : decode cX3_init 55 = .ok (.iconst (-1), 1) := by decide +kernel
theorem dX3_init_56 : decode cX3_init 56 = .ok (.putfield 25, 3) := by decide +kernel
theorem dX3_init_59 : decode cX3_init 59 = .ok (.aload_n 0, 1) := by decide +kernel
theorem dX3_init_60 : decode cX3_init 60 = .ok (.iconst (-1), 1) := by decide +kernel
theorem dX3_init_61 : decode cX3_init 61 = .ok (.putfield 28, 3) := by decide +kernel
theorem dX3_init_64 : decode cX3_init 64 = .ok (.aload_n 0, 1) := by decide +kernel
theorem dX3_init_65 : decode cX3_init 65 = .ok (.iconst (-1), 1) := by decide +kernel
theorem dX3_init_66 : decode cX3_init 66 = .ok (.putfield 31, 3) := by decide +kernel
theorem dX3_init_69 : decode cX3_init 69 = .ok (.return_, 1) := by decide +kernel
theorem dX4_init_0 : decode cX4_init 0 = .ok (.aload_n 0, 1) := by decide +kernel
theorem dX4_init_1 : decode cX4_init 1 = .ok (.invokespecial 3, 3) := by decide +kernel
theorem dX4_init_4 : decode cX4_init 4 = .ok (.aload_n 0, 1) := by decide +kernel
theorem dX4_init_5 : decode cX4_init 5 = .ok (.bipush 24, 2) := by decide +kernel
theorem dX4_init_7 : decode cX4_init 7 = .ok (.newarray .int, 2) := by decide +kernel
theorem dX4_init_9 : decode cX4_init 9 = .ok (.putfield 9, 3) := by decide +kernel
theorem dX4_init_12 : decode cX4_init 12 = .ok (.aload_n 0, 1) := by decide +kernel
theorem dX4_init_13 : decode cX4_init 13 = .ok (.bipush 24, 2) := by decide +kernel
theorem dX4_init_15 : decode cX4_init 15 = .ok (.newarray .int, 2) := by decide +kernel
theorem dX4_init_17 : decode cX4_init 17 = .ok (.putfield 15, 3) := by decide +kernel
theorem dX4_init_20 : decode cX4_init 20 = .ok (.aload_n 0, 1) := by decide +kernel
theorem dX4_init_21 : decode cX4_init 21 = .ok (.bipush 24, 2) := by decide +kernel
theorem dX4_init_23 : decode cX4_init 23 = .ok (.newarray .int, 2) := by decide +kernel
theorem dX4_init_25 : decode cX4_init 25 = .ok (.putfield 18, 3) := by decide +kernel
theorem dX4_init_28 : decode cX4_init 28 = .ok (.aload_n 0, 1) := by decide +kernel
theorem dX4_init_29 : decode cX4_init 29 = .ok (.bipush 24, 2) := by decide +kernel
theorem dX4_init_31 : decode cX4_init 31 = .ok (.newarray .int, 2) := by decide +kernel
theorem dX4_init_33 : decode cX4_init 33 = .ok (.putfield 21, 3) := by decide +kernel
theorem dX4_init_36 : decode cX4_init 36 = .ok (.return_, 1) := by decide +kernel
theorem dX5_init_0 : decode cX5_init 0 = .ok (.aload_n 0, 1) := by decide +kernel
theorem dX5_init_1 : decode cX5_init 1 = .ok (.invokespecial 1, 3) := by decide +kernel
theorem dX5_init_4 : decode cX5_init 4 = .ok (.aload_n 0, 1) := by decide +kernel
theorem dX5_init_5 : decode cX5_init 5 = .ok (.iload_n 1, 1) := by decide +kernel
theorem dX5_init_6 : decode cX5_init 6 = .ok (.putfield 7, 3) := by decide +kernel
theorem dX5_init_9 : decode cX5_init 9 = .ok (.aload_n 0, 1) := by decide +kernel
theorem dX5_init_10 : decode cX5_init 10 = .ok (.iload_n 2, 1) := by decide +kernel
theorem dX5_init_11 : decode cX5_init 11 = .ok (.putfield 13, 3) := by decide +kernel
theorem dX5_init_14 : decode cX5_init 14 = .ok (.aload_n 0, 1) := by decide +kernel
theorem dX5_init_15 : decode cX5_init 15 = .ok (.iload_n 3, 1) := by decide +kernel
theorem dX5_init_16 : decode cX5_init 16 = .ok (.putfield 16, 3) := by decide +kernel
theorem dX5_init_19 : decode cX5_init 19 = .ok (.return_, 1) := by decide +kernel
theorem dX6_init_0 : decode cX6_init 0 = .ok (.aload_n 0, 1) := by decide +kernel
theorem dX6_init_1 : decode cX6_init 1 = .ok (.invokespecial 3, 3) := by decide +kernel
theorem dX6_init_4 : decode cX6_init 4 = .ok (.aload_n 0, 1) := by decide +kernel
theorem dX6_init_5 : decode cX6_init 5 = .ok (.sipush 1003, 3) := by decide +kernel
theorem dX6_init_8 : decode cX6_init 8 = .ok (.newarray .int, 2) := by decide +kernel
theorem dX6_init_10 : decode cX6_init 10 = .ok (.putfield 9, 3) := by decide +kernel
theorem dX6_init_13 : decode cX6_init 13 = .ok (.return_, 1) := by decide +kernel
theorem dX7_init_0 : decode cX7_init 0 = .ok (.aload_n 0, 1) := by decide +kernel
theorem dX7_init_1 : decode cX7_init 1 = .ok (.invokespecial 3, 3) := by decide +kernel
theorem dX7_init_4 : decode cX7_init 4 = .ok (.aload_n 0, 1) := by decide +kernel
theorem dX7_init_5 : decode cX7_init 5 = .ok (.bipush 12, 2) := by decide +kernel
theorem dX7_init_7 : decode cX7_init 7 = .ok (.anewarray 9, 3) := by decide +kernel
theorem dX7_init_10 : decode cX7_init 10 = .ok (.putfield 11, 3) := by decide +kernel
theorem dX7_init_13 : decode cX7_init 13 = .ok (.aload_n 0, 1) := by decide +kernel
theorem dX7_init_14 : decode cX7_init 14 = .ok (.iconst 4, 1) := by decide +kernel
theorem dX7_init_15 : decode cX7_init 15 = .ok (.anewarray 15, 3) := by decide +kernel
theorem dX7_init_18 : decode cX7_init 18 = .ok (.putfield 17, 3) := by decide +kernel
theorem dX7_init_21 : decode cX7_init 21 = .ok (.aload_n 0, 1) := by decide +kernel
theorem dX7_init_22 : decode cX7_init 22 = .ok (.new 21, 3) := by decide +kernel
theorem dX7_init_25 : decode cX7_init 25 = .ok (.dup, 1) := by decide +kernel
theorem dX7_init_26 : decode cX7_init 26 = .ok (.invokespecial 23, 3) := by decide +kernel
theorem dX7_init_29 : decode cX7_init 29 = .ok (.putfield 24, 3) := by decide +kernel
theorem dX7_init_32 : decode cX7_init 32 = .ok (.aload_n 0, 1) := by decide +kernel
theorem dX7_init_33 : decode cX7_init 33 = .ok (.new 28, 3) := by decide +kernel
theorem dX7_init_36 : decode cX7_init 36 = .ok (.dup, 1) := by decide +kernel
theorem dX7_init_37 : decode cX7_init 37 = .ok (.invokespecial 30, 3) := by decide +kernel
theorem dX7_init_40 : decode cX7_init 40 = .ok (.putfield 31, 3) := by decide +kernel
theorem dX7_init_43 : decode cX7_init 43 = .ok (.aload_n 0, 1) := by decide +kernel
theorem dX7_init_44 : decode cX7_init 44 = .ok (.new 35, 3) := by decide +kernel
theorem dX7_init_47 : decode cX7_init 47 = .ok (.dup, 1) := by decide +kernel
theorem dX7_init_48 : decode cX7_init 48 = .ok (.invokespecial 37, 3) := by decide +kernel
theorem dX7_init_51 : decode cX7_init 51 = .ok (.putfield 38, 3) := by decide +kernel
theorem dX7_init_54 : decode cX7_init 54 = .ok (.aload_n 0, 1) := by decide +kernel
theorem dX7_init_55 : decode cX7_init 55 = .ok (.new 42, 3) := by decide +kernel
theorem dX7_init_58 : decode cX7_init 58 = .ok (.dup, 1) := by decide +kernel
theorem dX7_init_59 : decode cX7_init 59 = .ok (.invokespecial 44, 3) := by decide +kernel
theorem dX7_init_62 : decode cX7_init 62 = .ok (.putfield 45, 3) := by decide +kernel
theorem dX7_init_65 : decode cX7_init 65 = .ok (.return_, 1) := by decide +kernel
theorem dX7_machine_0 : decode cX7_machine 0 = .ok (.iload_n 1, 1) := by decide +kernel
theorem dX7_machine_1 : decode cX7_machine 1 = .ok (.iconst 2, 1) := by decide +kernel
theorem dX7_machine_2 : decode cX7_machine 2 = .ok (.iconst 4, 1) := by decide +kernel
theorem dX7_machine_3 : decode cX7_machine 3 = .ok (.invokestatic 49, 3) := by decide +kernel
theorem dX7_machine_6 : decode cX7_machine 6 = .ok (.invokestatic 53, 3) := by decide +kernel
theorem dX7_machine_9 : decode cX7_machine 9 = .ok (.aload_n 0, 1) := by decide +kernel
theorem dX7_machine_10 : decode cX7_machine 10 = .ok (.invokevirtual 57, 3) := by decide +kernel
theorem dX7_machine_13 : decode cX7_machine 13 = .ok (.aload_n 0, 1) := by decide +kernel
theorem dX7_machine_14 : decode cX7_machine 14 = .ok (.new 9, 3) := by decide +kernel
theorem dX7_machine_17 : decode cX7_machine 17 = .ok (.dup, 1) := by decide +kernel
theorem dX7_machine_18 : decode cX7_machine 18 = .ok (.iload_n 1, 1) := by decide +kernel
theorem dX7_machine_19 : decode cX7_machine 19 = .ok (.invokespecial 60, 3) := by decide +kernel
theorem dX7_machine_22 : decode cX7_machine 22 = .ok (.invokevirtual 63, 3) := by decide +kernel
theorem dX7_machine_25 : decode cX7_machine 25 = .ok (.ireturn, 1) := by decide +kernel
theorem dX7_tell_0 : decode cX7_tell 0 = .ok (.aload_n 0, 1) := by decide +kernel
theorem dX7_tell_1 : decode cX7_tell 1 = .ok (.iload_n 1, 1) := by decide +kernel
theorem dX7_tell_2 : decode cX7_tell 2 = .ok (.invokevirtual 67, 3) := by decide +kernel
theorem dX7_amend_0 : decode cX7_amend 0 = .ok (.aload_n 0, 1) := by decide +kernel
theorem dX7_amend_1 : decode cX7_amend 1 = .ok (.iload_n 1, 1) := by decide +kernel
theorem dX7_amend_2 : decode cX7_amend 2 = .ok (.invokevirtual 67, 3) := by decide +kernel
theorem dX7_child_0 : decode cX7_child 0 = .ok (.aload_n 0, 1) := by decide +kernel
theorem dX7_child_1 : decode cX7_child 1 = .ok (.iload_n 1, 1) := by decide +kernel
theorem dX7_child_2 : decode cX7_child 2 = .ok (.invokevirtual 67, 3) := by decide +kernel
theorem dX7_tag_0 : decode cX7_tag 0 = .ok (.iload_n 1, 1) := by decide +kernel
theorem dX7_tag_1 : decode cX7_tag 1 = .ok (.iconst 1, 1) := by decide +kernel
theorem dX7_tag_2 : decode cX7_tag 2 = .ok (.iconst 3, 1) := by decide +kernel
theorem dX7_tag_3 : decode cX7_tag 3 = .ok (.invokestatic 49, 3) := by decide +kernel
theorem dX7_tag_6 : decode cX7_tag 6 = .ok (.invokestatic 53, 3) := by decide +kernel
theorem dX7_tag_9 : decode cX7_tag 9 = .ok (.iload_n 2, 1) := by decide +kernel
theorem dX7_tag_10 : decode cX7_tag 10 = .ok (.iconst 1, 1) := by decide +kernel
theorem dX7_tag_11 : decode cX7_tag 11 = .ok (.bipush 63, 2) := by decide +kernel
theorem dX7_tag_13 : decode cX7_tag 13 = .ok (.invokestatic 49, 3) := by decide +kernel
theorem dX7_tag_16 : decode cX7_tag 16 = .ok (.ifCond .eq 17, 3) := by decide +kernel
theorem dX7_tag_19 : decode cX7_tag 19 = .ok (.iload_n 3, 1) := by decide +kernel
theorem dX7_tag_20 : decode cX7_tag 20 = .ok (.iconst 1, 1) := by decide +kernel
theorem dX7_tag_21 : decode cX7_tag 21 = .ok (.bipush 63, 2) := by decide +kernel
theorem dX7_tag_23 : decode cX7_tag 23 = .ok (.invokestatic 49, 3) := by decide +kernel
theorem dX7_tag_26 : decode cX7_tag 26 = .ok (.ifCond .eq 7, 3) := by decide +kernel
theorem dX7_tag_29 : decode cX7_tag 29 = .ok (.iconst 1, 1) := by decide +kernel
theorem dX7_tag_30 : decode cX7_tag 30 = .ok (.goto 4, 3) := by decide +kernel
theorem dX7_tag_33 : decode cX7_tag 33 = .ok (.iconst 0, 1) := by decide +kernel
theorem dX7_tag_34 : decode cX7_tag 34 = .ok (.invokestatic 53, 3) := by decide +kernel
theorem dX7_tag_37 : decode cX7_tag 37 = .ok (.aload_n 0, 1) := by decide +kernel
theorem dX7_tag_38 : decode cX7_tag 38 = .ok (.getfield 122, 3) := by decide +kernel
theorem dX7_tag_41 : decode cX7_tag 41 = .ok (.ifCond .lt 11, 3) := by decide +kernel
theorem dX7_tag_44 : decode cX7_tag 44 = .ok (.aload_n 0, 1) := by decide +kernel
theorem dX7_tag_45 : decode cX7_tag 45 = .ok (.getfield 122, 3) := by decide +kernel
theorem dX7_tag_48 : decode cX7_tag 48 = .ok (.iconst 4, 1) := by decide +kernel
theorem dX7_tag_49 : decode cX7_tag 49 = .ok (.if_icmp .lt 13, 3) := by decide +kernel
theorem dX7_tag_62 : decode cX7_tag 62 = .ok (.aload_n 0, 1) := by decide +kernel
theorem dX7_tag_63 : decode cX7_tag 63 = .ok (.getfield 17, 3) := by decide +kernel
theorem dX7_tag_66 : decode cX7_tag 66 = .ok (.aload_n 0, 1) := by decide +kernel
theorem dX7_tag_67 : decode cX7_tag 67 = .ok (.getfield 122, 3) := by decide +kernel
theorem dX7_tag_70 : decode cX7_tag 70 = .ok (.new 15, 3) := by decide +kernel
theorem dX7_tag_73 : decode cX7_tag 73 = .ok (.dup, 1) := by decide +kernel
theorem dX7_tag_74 : decode cX7_tag 74 = .ok (.iload_n 1, 1) := by decide +kernel
theorem dX7_tag_75 : decode cX7_tag 75 = .ok (.iload_n 2, 1) := by decide +kernel
theorem dX7_tag_76 : decode cX7_tag 76 = .ok (.iload_n 3, 1) := by decide +kernel
theorem dX7_tag_77 : decode cX7_tag 77 = .ok (.invokespecial 127, 3) := by decide +kernel
theorem dX7_tag_80 : decode cX7_tag 80 = .ok (.aastore, 1) := by decide +kernel
theorem dX7_tag_81 : decode cX7_tag 81 = .ok (.aload_n 0, 1) := by decide +kernel
theorem dX7_tag_82 : decode cX7_tag 82 = .ok (.dup, 1) := by decide +kernel
theorem dX7_tag_83 : decode cX7_tag 83 = .ok (.getfield 122, 3) := by decide +kernel
theorem dX7_tag_86 : decode cX7_tag 86 = .ok (.iconst 1, 1) := by decide +kernel
theorem dX7_tag_87 : decode cX7_tag 87 = .ok (.iadd, 1) := by decide +kernel
theorem dX7_tag_88 : decode cX7_tag 88 = .ok (.putfield 122, 3) := by decide +kernel
theorem dX7_tag_91 : decode cX7_tag 91 = .ok (.aload_n 0, 1) := by decide +kernel
theorem dX7_tag_92 : decode cX7_tag 92 = .ok (.getfield 122, 3) := by decide +kernel
theorem dX7_tag_95 : decode cX7_tag 95 = .ok (.iconst 1, 1) := by decide +kernel
theorem dX7_tag_96 : decode cX7_tag 96 = .ok (.isub, 1) := by decide +kernel
theorem dX7_tag_97 : decode cX7_tag 97 = .ok (.ireturn, 1) := by decide +kernel
theorem dX7_prove_0 : decode cX7_prove 0 = .ok (.aload_n 0, 1) := by decide +kernel
theorem dX7_prove_1 : decode cX7_prove 1 = .ok (.iload_n 1, 1) := by decide +kernel
theorem dX7_prove_2 : decode cX7_prove 2 = .ok (.invokevirtual 67, 3) := by decide +kernel
theorem dX7_doubt_0 : decode cX7_doubt 0 = .ok (.iload_n 1, 1) := by decide +kernel
theorem dX7_doubt_1 : decode cX7_doubt 1 = .ok (.iconst 0, 1) := by decide +kernel
theorem dX7_doubt_2 : decode cX7_doubt 2 = .ok (.iconst 3, 1) := by decide +kernel
theorem dX7_doubt_3 : decode cX7_doubt 3 = .ok (.invokestatic 49, 3) := by decide +kernel
theorem dX7_doubt_6 : decode cX7_doubt 6 = .ok (.invokestatic 53, 3) := by decide +kernel
theorem dX7_doubt_9 : decode cX7_doubt 9 = .ok (.iconst 0, 1) := by decide +kernel
theorem dX7_doubt_10 : decode cX7_doubt 10 = .ok (.istore_n 2, 1) := by decide +kernel
theorem dX7_doubt_11 : decode cX7_doubt 11 = .ok (.iconst 0, 1) := by decide +kernel
theorem dX7_doubt_12 : decode cX7_doubt 12 = .ok (.istore_n 3, 1) := by decide +kernel
theorem dX7_doubt_13 : decode cX7_doubt 13 = .ok (.iload_n 3, 1) := by decide +kernel
theorem dX7_doubt_14 : decode cX7_doubt 14 = .ok (.aload_n 0, 1) := by decide +kernel
theorem dX7_doubt_15 : decode cX7_doubt 15 = .ok (.getfield 148, 3) := by decide +kernel
theorem dX7_doubt_18 : decode cX7_doubt 18 = .ok (.if_icmp .ge 35, 3) := by decide +kernel
theorem dX7_doubt_53 : decode cX7_doubt 53 = .ok (.iload_n 2, 1) := by decide +kernel
theorem dX7_doubt_54 : decode cX7_doubt 54 = .ok (.ireturn, 1) := by decide +kernel
theorem dX7_decide_0 : decode cX7_decide 0 = .ok (.aload_n 0, 1) := by decide +kernel
theorem dX7_decide_1 : decode cX7_decide 1 = .ok (.iload_n 1, 1) := by decide +kernel
theorem dX7_decide_2 : decode cX7_decide 2 = .ok (.invokevirtual 67, 3) := by decide +kernel
theorem dX7_cell_0 : decode cX7_cell 0 = .ok (.aload_n 0, 1) := by decide +kernel
theorem dX7_cell_1 : decode cX7_cell 1 = .ok (.iload_n 1, 1) := by decide +kernel
theorem dX7_cell_2 : decode cX7_cell 2 = .ok (.invokevirtual 67, 3) := by decide +kernel
theorem dX7_ofMachine_0 : decode cX7_ofMachine 0 = .ok (.aload_n 0, 1) := by decide +kernel
theorem dX7_ofMachine_1 : decode cX7_ofMachine 1 = .ok (.iload_n 1, 1) := by decide +kernel
theorem dX7_ofMachine_2 : decode cX7_ofMachine 2 = .ok (.invokevirtual 67, 3) := by decide +kernel
theorem dX7_at_0 : decode cX7_at 0 = .ok (.aload_n 0, 1) := by decide +kernel
theorem dX7_at_1 : decode cX7_at 1 = .ok (.iload_n 1, 1) := by decide +kernel
theorem dX7_at_2 : decode cX7_at 2 = .ok (.invokevirtual 67, 3) := by decide +kernel
theorem dX7_symbol_0 : decode cX7_symbol 0 = .ok (.aload_n 0, 1) := by decide +kernel
theorem dX7_symbol_1 : decode cX7_symbol 1 = .ok (.iload_n 1, 1) := by decide +kernel
theorem dX7_symbol_2 : decode cX7_symbol 2 = .ok (.invokevirtual 67, 3) := by decide +kernel
theorem dX7_lean_0 : decode cX7_lean 0 = .ok (.aload_n 0, 1) := by decide +kernel
theorem dX7_lean_1 : decode cX7_lean 1 = .ok (.iload_n 1, 1) := by decide +kernel
theorem dX7_lean_2 : decode cX7_lean 2 = .ok (.invokevirtual 67, 3) := by decide +kernel
theorem dX7_meets_0 : decode cX7_meets 0 = .ok (.aload_n 0, 1) := by decide +kernel
theorem dX7_meets_1 : decode cX7_meets 1 = .ok (.iload_n 1, 1) := by decide +kernel
theorem dX7_meets_2 : decode cX7_meets 2 = .ok (.invokevirtual 67, 3) := by decide +kernel
theorem dX7_likeness_0 : decode cX7_likeness 0 = .ok (.aload_n 0, 1) := by decide +kernel
theorem dX7_likeness_1 : decode cX7_likeness 1 = .ok (.iload_n 1, 1) := by decide +kernel
theorem dX7_likeness_2 : decode cX7_likeness 2 = .ok (.invokevirtual 67, 3) := by decide +kernel
theorem dX7_champion_0 : decode cX7_champion 0 = .ok (.iload_n 1, 1) := by decide +kernel
theorem dX7_champion_1 : decode cX7_champion 1 = .ok (.iconst 0, 1) := by decide +kernel
theorem dX7_champion_2 : decode cX7_champion 2 = .ok (.iconst 1, 1) := by decide +kernel
theorem dX7_champion_3 : decode cX7_champion 3 = .ok (.invokestatic 49, 3) := by decide +kernel
theorem dX7_champion_6 : decode cX7_champion 6 = .ok (.invokestatic 53, 3) := by decide +kernel
theorem dX7_champion_9 : decode cX7_champion 9 = .ok (.iconst (-1), 1) := by decide +kernel
theorem dX7_champion_10 : decode cX7_champion 10 = .ok (.istore_n 2, 1) := by decide +kernel
theorem dX7_champion_11 : decode cX7_champion 11 = .ok (.iconst (-1), 1) := by decide +kernel
theorem dX7_champion_12 : decode cX7_champion 12 = .ok (.istore_n 3, 1) := by decide +kernel
theorem dX7_champion_13 : decode cX7_champion 13 = .ok (.iconst 0, 1) := by decide +kernel
theorem dX7_champion_14 : decode cX7_champion 14 = .ok (.istore 4, 2) := by decide +kernel
theorem dX7_champion_16 : decode cX7_champion 16 = .ok (.iload 4, 2) := by decide +kernel
theorem dX7_champion_18 : decode cX7_champion 18 = .ok (.aload_n 0, 1) := by decide +kernel
theorem dX7_champion_19 : decode cX7_champion 19 = .ok (.getfield 148, 3) := by decide +kernel
theorem dX7_champion_22 : decode cX7_champion 22 = .ok (.if_icmp .ge 56, 3) := by decide +kernel
theorem dX7_champion_78 : decode cX7_champion 78 = .ok (.iload_n 2, 1) := by decide +kernel
theorem dX7_champion_79 : decode cX7_champion 79 = .ok (.ireturn, 1) := by decide +kernel
theorem dX7_tagged_0 : decode cX7_tagged 0 = .ok (.aload_n 0, 1) := by decide +kernel
theorem dX7_tagged_1 : decode cX7_tagged 1 = .ok (.iload_n 1, 1) := by decide +kernel
theorem dX7_tagged_2 : decode cX7_tagged 2 = .ok (.invokevirtual 242, 3) := by decide +kernel
theorem dX7_many_0 : decode cX7_many 0 = .ok (.iload_n 1, 1) := by decide +kernel
theorem dX7_many_1 : decode cX7_many 1 = .ok (.iconst 0, 1) := by decide +kernel
theorem dX7_many_2 : decode cX7_many 2 = .ok (.bipush 10, 2) := by decide +kernel
theorem dX7_many_4 : decode cX7_many 4 = .ok (.invokestatic 49, 3) := by decide +kernel
theorem dX7_many_7 : decode cX7_many 7 = .ok (.invokestatic 53, 3) := by decide +kernel
theorem dX7_many_10 : decode cX7_many 10 = .ok (.iload_n 1, 1) := by decide +kernel
theorem dX7_many_11 : decode cX7_many 11 = .ok (.tableswitch 93 0 10 #[57, 62, 93, 93, 93, 93, 68, 73, 78, 83, 88], 57) := by decide +kernel
theorem dX7_many_68 : decode cX7_many 68 = .ok (.aload_n 0, 1) := by decide +kernel
theorem dX7_many_69 : decode cX7_many 69 = .ok (.getfield 148, 3) := by decide +kernel
theorem dX7_many_72 : decode cX7_many 72 = .ok (.ireturn, 1) := by decide +kernel
theorem dX7_many_73 : decode cX7_many 73 = .ok (.aload_n 0, 1) := by decide +kernel
theorem dX7_many_74 : decode cX7_many 74 = .ok (.iconst (-1), 1) := by decide +kernel
theorem dX7_many_75 : decode cX7_many 75 = .ok (.invokevirtual 252, 3) := by decide +kernel
theorem dX7_many_78 : decode cX7_many 78 = .ok (.ireturn, 1) := by decide +kernel
theorem dX7_many_79 : decode cX7_many 79 = .ok (.aload_n 0, 1) := by decide +kernel
theorem dX7_many_80 : decode cX7_many 80 = .ok (.getfield 122, 3) := by decide +kernel
theorem dX7_many_83 : decode cX7_many 83 = .ok (.ireturn, 1) := by decide +kernel
theorem dX7_many_84 : decode cX7_many 84 = .ok (.aload_n 0, 1) := by decide +kernel
theorem dX7_many_85 : decode cX7_many 85 = .ok (.getfield 136, 3) := by decide +kernel
theorem dX7_many_88 : decode cX7_many 88 = .ok (.ireturn, 1) := by decide +kernel
theorem dX7_many_89 : decode cX7_many 89 = .ok (.aload_n 0, 1) := by decide +kernel
theorem dX7_many_90 : decode cX7_many 90 = .ok (.getfield 142, 3) := by decide +kernel
theorem dX7_many_93 : decode cX7_many 93 = .ok (.ireturn, 1) := by decide +kernel
theorem dX7_many_94 : decode cX7_many 94 = .ok (.aload_n 0, 1) := by decide +kernel
theorem dX7_many_95 : decode cX7_many 95 = .ok (.getfield 255, 3) := by decide +kernel
theorem dX7_many_98 : decode cX7_many 98 = .ok (.ireturn, 1) := by decide +kernel
theorem dX7_many_99 : decode cX7_many 99 = .ok (.aload_n 0, 1) := by decide +kernel
theorem dX7_many_100 : decode cX7_many 100 = .ok (.invokevirtual 258, 3) := by decide +kernel
theorem dX7_many_103 : decode cX7_many 103 = .ok (.ireturn, 1) := by decide +kernel
theorem dX7_many_104 : decode cX7_many 104 = .ok (.aload_n 0, 1) := by decide +kernel
theorem dX7_many_105 : decode cX7_many 105 = .ok (.iload_n 1, 1) := by decide +kernel
theorem dX7_many_106 : decode cX7_many 106 = .ok (.iconst 2, 1) := by decide +kernel
theorem dX7_many_107 : decode cX7_many 107 = .ok (.isub, 1) := by decide +kernel
theorem dX7_many_108 : decode cX7_many 108 = .ok (.invokevirtual 252, 3) := by decide +kernel
theorem dX7_many_111 : decode cX7_many 111 = .ok (.ireturn, 1) := by decide +kernel
theorem dX7_meanStop_0 : decode cX7_meanStop 0 = .ok (.iconst 0, 1) := by decide +kernel
theorem dX7_meanStop_1 : decode cX7_meanStop 1 = .ok (.istore_n 1, 1) := by decide +kernel
theorem dX7_meanStop_2 : decode cX7_meanStop 2 = .ok (.iconst 0, 1) := by decide +kernel
theorem dX7_meanStop_3 : decode cX7_meanStop 3 = .ok (.istore_n 2, 1) := by decide +kernel
theorem dX7_meanStop_4 : decode cX7_meanStop 4 = .ok (.iconst 0, 1) := by decide +kernel
theorem dX7_meanStop_5 : decode cX7_meanStop 5 = .ok (.istore_n 3, 1) := by decide +kernel
theorem dX7_meanStop_6 : decode cX7_meanStop 6 = .ok (.iload_n 3, 1) := by decide +kernel
theorem dX7_meanStop_7 : decode cX7_meanStop 7 = .ok (.aload_n 0, 1) := by decide +kernel
theorem dX7_meanStop_8 : decode cX7_meanStop 8 = .ok (.getfield 148, 3) := by decide +kernel
theorem dX7_meanStop_11 : decode cX7_meanStop 11 = .ok (.if_icmp .ge 35, 3) := by decide +kernel
theorem dX7_meanStop_46 : decode cX7_meanStop 46 = .ok (.iload_n 2, 1) := by decide +kernel
theorem dX7_meanStop_47 : decode cX7_meanStop 47 = .ok (.ifCond .ne 7, 3) := by decide +kernel
theorem dX7_meanStop_50 : decode cX7_meanStop 50 = .ok (.dconst 0, 1) := by decide +kernel
theorem dX7_meanStop_51 : decode cX7_meanStop 51 = .ok (.goto 8, 3) := by decide +kernel
theorem dX7_meanStop_59 : decode cX7_meanStop 59 = .ok (.dreturn, 1) := by decide +kernel
theorem dX7_cycleIn_0 : decode cX7_cycleIn 0 = .ok (.aload_n 0, 1) := by decide +kernel
theorem dX7_cycleIn_1 : decode cX7_cycleIn 1 = .ok (.iload_n 1, 1) := by decide +kernel
theorem dX7_cycleIn_2 : decode cX7_cycleIn 2 = .ok (.invokevirtual 67, 3) := by decide +kernel
theorem dX7_backIn_0 : decode cX7_backIn 0 = .ok (.aload_n 0, 1) := by decide +kernel
theorem dX7_backIn_1 : decode cX7_backIn 1 = .ok (.aload_n 0, 1) := by decide +kernel
theorem dX7_backIn_2 : decode cX7_backIn 2 = .ok (.iload_n 1, 1) := by decide +kernel
theorem dX7_backIn_3 : decode cX7_backIn 3 = .ok (.invokevirtual 67, 3) := by decide +kernel
theorem dX7_gramIn_0 : decode cX7_gramIn 0 = .ok (.aload_n 0, 1) := by decide +kernel
theorem dX7_gramIn_1 : decode cX7_gramIn 1 = .ok (.getfield 45, 3) := by decide +kernel
theorem dX7_gramIn_4 : decode cX7_gramIn 4 = .ok (.aload_n 0, 1) := by decide +kernel
theorem dX7_gramIn_5 : decode cX7_gramIn 5 = .ok (.iload_n 1, 1) := by decide +kernel
theorem dX7_gramIn_6 : decode cX7_gramIn 6 = .ok (.invokevirtual 67, 3) := by decide +kernel
theorem dX7_digest_0 : decode cX7_digest 0 = .ok (.ldc2_w 261, 3) := by decide +kernel
theorem dX7_digest_3 : decode cX7_digest 3 = .ok (.lstore_n 1, 1) := by decide +kernel
theorem dX7_digest_4 : decode cX7_digest 4 = .ok (.iconst 0, 1) := by decide +kernel
theorem dX7_digest_5 : decode cX7_digest 5 = .ok (.istore_n 3, 1) := by decide +kernel
theorem dX7_digest_6 : decode cX7_digest 6 = .ok (.iload_n 3, 1) := by decide +kernel
theorem dX7_digest_7 : decode cX7_digest 7 = .ok (.bipush 10, 2) := by decide +kernel
theorem dX7_digest_9 : decode cX7_digest 9 = .ok (.if_icmp .gt 22, 3) := by decide +kernel
theorem dX7_digest_12 : decode cX7_digest 12 = .ok (.lload_n 1, 1) := by decide +kernel
theorem dX7_digest_13 : decode cX7_digest 13 = .ok (.ldc2_w 263, 3) := by decide +kernel
theorem dX7_digest_16 : decode cX7_digest 16 = .ok (.lmul, 1) := by decide +kernel
theorem dX7_digest_17 : decode cX7_digest 17 = .ok (.aload_n 0, 1) := by decide +kernel
theorem dX7_digest_18 : decode cX7_digest 18 = .ok (.iload_n 3, 1) := by decide +kernel
theorem dX7_digest_19 : decode cX7_digest 19 = .ok (.invokevirtual 265, 3) := by decide +kernel
theorem dX7_digest_22 : decode cX7_digest 22 = .ok (.i2l, 1) := by decide +kernel
theorem dX7_digest_23 : decode cX7_digest 23 = .ok (.ladd, 1) := by decide +kernel
theorem dX7_digest_24 : decode cX7_digest 24 = .ok (.lstore_n 1, 1) := by decide +kernel
theorem dX7_digest_25 : decode cX7_digest 25 = .ok (.iinc 3 1, 3) := by decide +kernel
theorem dX7_digest_28 : decode cX7_digest 28 = .ok (.goto (-22), 3) := by decide +kernel
theorem dX7_digest_31 : decode cX7_digest 31 = .ok (.iconst 0, 1) := by decide +kernel
theorem dX7_digest_32 : decode cX7_digest 32 = .ok (.istore_n 3, 1) := by decide +kernel
theorem dX7_digest_33 : decode cX7_digest 33 = .ok (.iload_n 3, 1) := by decide +kernel
theorem dX7_digest_34 : decode cX7_digest 34 = .ok (.aload_n 0, 1) := by decide +kernel
theorem dX7_digest_35 : decode cX7_digest 35 = .ok (.getfield 148, 3) := by decide +kernel
theorem dX7_digest_38 : decode cX7_digest 38 = .ok (.if_icmp .ge 23, 3) := by decide +kernel
theorem dX7_digest_61 : decode cX7_digest 61 = .ok (.iconst 0, 1) := by decide +kernel
theorem dX7_digest_62 : decode cX7_digest 62 = .ok (.istore_n 3, 1) := by decide +kernel
theorem dX7_digest_63 : decode cX7_digest 63 = .ok (.iload_n 3, 1) := by decide +kernel
theorem dX7_digest_64 : decode cX7_digest 64 = .ok (.aload_n 0, 1) := by decide +kernel
theorem dX7_digest_65 : decode cX7_digest 65 = .ok (.getfield 122, 3) := by decide +kernel
theorem dX7_digest_68 : decode cX7_digest 68 = .ok (.if_icmp .ge 26, 3) := by decide +kernel
theorem dX7_digest_94 : decode cX7_digest 94 = .ok (.lload_n 1, 1) := by decide +kernel
theorem dX7_digest_95 : decode cX7_digest 95 = .ok (.ldc2_w 263, 3) := by decide +kernel
theorem dX7_digest_98 : decode cX7_digest 98 = .ok (.lmul, 1) := by decide +kernel
theorem dX7_digest_99 : decode cX7_digest 99 = .ok (.aload_n 0, 1) := by decide +kernel
theorem dX7_digest_100 : decode cX7_digest 100 = .ok (.iconst 0, 1) := by decide +kernel
theorem dX7_digest_101 : decode cX7_digest 101 = .ok (.invokevirtual 279, 3) := by decide +kernel
theorem dX7_digest_104 : decode cX7_digest 104 = .ok (.i2l, 1) := by decide +kernel
theorem dX7_digest_105 : decode cX7_digest 105 = .ok (.ladd, 1) := by decide +kernel
theorem dX7_digest_106 : decode cX7_digest 106 = .ok (.lstore_n 1, 1) := by decide +kernel
theorem dX7_digest_107 : decode cX7_digest 107 = .ok (.lload_n 1, 1) := by decide +kernel
theorem dX7_digest_108 : decode cX7_digest 108 = .ok (.ldc2_w 263, 3) := by decide +kernel
theorem dX7_digest_111 : decode cX7_digest 111 = .ok (.lmul, 1) := by decide +kernel
theorem dX7_digest_112 : decode cX7_digest 112 = .ok (.aload_n 0, 1) := by decide +kernel
theorem dX7_digest_113 : decode cX7_digest 113 = .ok (.iconst 1, 1) := by decide +kernel
theorem dX7_digest_114 : decode cX7_digest 114 = .ok (.invokevirtual 279, 3) := by decide +kernel
theorem dX7_digest_117 : decode cX7_digest 117 = .ok (.i2l, 1) := by decide +kernel
theorem dX7_digest_118 : decode cX7_digest 118 = .ok (.ladd, 1) := by decide +kernel
theorem dX7_digest_119 : decode cX7_digest 119 = .ok (.lreturn, 1) := by decide +kernel
theorem dX7_isWithin_0 : decode cX7_isWithin 0 = .ok (.iload_n 0, 1) := by decide +kernel
theorem dX7_isWithin_1 : decode cX7_isWithin 1 = .ok (.iload_n 1, 1) := by decide +kernel
theorem dX7_isWithin_2 : decode cX7_isWithin 2 = .ok (.if_icmp .lt 12, 3) := by decide +kernel
theorem dX7_isWithin_5 : decode cX7_isWithin 5 = .ok (.iload_n 0, 1) := by decide +kernel
theorem dX7_isWithin_6 : decode cX7_isWithin 6 = .ok (.iload_n 2, 1) := by decide +kernel
theorem dX7_isWithin_7 : decode cX7_isWithin 7 = .ok (.if_icmp .gt 7, 3) := by decide +kernel
theorem dX7_isWithin_10 : decode cX7_isWithin 10 = .ok (.iconst 1, 1) := by decide +kernel
theorem dX7_isWithin_11 : decode cX7_isWithin 11 = .ok (.goto 4, 3) := by decide +kernel
theorem dX7_isWithin_14 : decode cX7_isWithin 14 = .ok (.iconst 0, 1) := by decide +kernel
theorem dX7_isWithin_15 : decode cX7_isWithin 15 = .ok (.ireturn, 1) := by decide +kernel
theorem dX7_require_0 : decode cX7_require 0 = .ok (.iload_n 0, 1) := by decide +kernel
theorem dX7_require_1 : decode cX7_require 1 = .ok (.ifCond .ne 14, 3) := by decide +kernel
theorem dX7_require_4 : decode cX7_require 4 = .ok (.new 292, 3) := by decide +kernel
theorem dX7_require_7 : decode cX7_require 7 = .ok (.dup, 1) := by decide +kernel
theorem dX7_require_8 : decode cX7_require 8 = .ok (.ldc_w 294, 3) := by decide +kernel
theorem dX7_require_11 : decode cX7_require 11 = .ok (.invokespecial 296, 3) := by decide +kernel
theorem dX7_require_14 : decode cX7_require 14 = .ok (.athrow, 1) := by decide +kernel
theorem dX7_require_15 : decode cX7_require 15 = .ok (.return_, 1) := by decide +kernel
theorem dX7_requireRoomForMachine_0 : decode cX7_requireRoomForMachine 0 = .ok (.aload_n 0, 1) := by decide +kernel
theorem dX7_requireRoomForMachine_1 : decode cX7_requireRoomForMachine 1 = .ok (.getfield 148, 3) := by decide +kernel
theorem dX7_requireRoomForMachine_4 : decode cX7_requireRoomForMachine 4 = .ok (.ifCond .lt 12, 3) := by decide +kernel
theorem dX7_requireRoomForMachine_7 : decode cX7_requireRoomForMachine 7 = .ok (.aload_n 0, 1) := by decide +kernel
theorem dX7_requireRoomForMachine_8 : decode cX7_requireRoomForMachine 8 = .ok (.getfield 148, 3) := by decide +kernel
theorem dX7_requireRoomForMachine_11 : decode cX7_requireRoomForMachine 11 = .ok (.bipush 12, 2) := by decide +kernel
theorem dX7_requireRoomForMachine_13 : decode cX7_requireRoomForMachine 13 = .ok (.if_icmp .lt 14, 3) := by decide +kernel
theorem dX7_requireRoomForMachine_27 : decode cX7_requireRoomForMachine 27 = .ok (.return_, 1) := by decide +kernel
theorem dX7_find_0 : decode cX7_find 0 = .ok (.iload_n 1, 1) := by decide +kernel
theorem dX7_find_1 : decode cX7_find 1 = .ok (.ifCond .lt 17, 3) := by decide +kernel
theorem dX7_find_4 : decode cX7_find 4 = .ok (.iload_n 1, 1) := by decide +kernel
theorem dX7_find_5 : decode cX7_find 5 = .ok (.aload_n 0, 1) := by decide +kernel
theorem dX7_find_6 : decode cX7_find 6 = .ok (.getfield 148, 3) := by decide +kernel
theorem dX7_find_9 : decode cX7_find 9 = .ok (.if_icmp .ge 9, 3) := by decide +kernel
theorem dX7_find_18 : decode cX7_find 18 = .ok (.new 301, 3) := by decide +kernel
theorem dX7_find_21 : decode cX7_find 21 = .ok (.dup, 1) := by decide +kernel
theorem dX7_find_22 : decode cX7_find 22 = .ok (.ldc_w 303, 3) := by decide +kernel
theorem dX7_find_25 : decode cX7_find 25 = .ok (.invokespecial 305, 3) := by decide +kernel
theorem dX7_find_28 : decode cX7_find 28 = .ok (.athrow, 1) := by decide +kernel
theorem dX7_findTag_0 : decode cX7_findTag 0 = .ok (.iload_n 1, 1) := by decide +kernel
theorem dX7_findTag_1 : decode cX7_findTag 1 = .ok (.ifCond .lt 16, 3) := by decide +kernel
theorem dX7_findTag_4 : decode cX7_findTag 4 = .ok (.iload_n 1, 1) := by decide +kernel
theorem dX7_findTag_5 : decode cX7_findTag 5 = .ok (.aload_n 0, 1) := by decide +kernel
theorem dX7_findTag_6 : decode cX7_findTag 6 = .ok (.getfield 122, 3) := by decide +kernel
theorem dX7_findTag_9 : decode cX7_findTag 9 = .ok (.if_icmp .ge 8, 3) := by decide +kernel
theorem dX7_findTag_17 : decode cX7_findTag 17 = .ok (.new 301, 3) := by decide +kernel
theorem dX7_findTag_20 : decode cX7_findTag 20 = .ok (.dup, 1) := by decide +kernel
theorem dX7_findTag_21 : decode cX7_findTag 21 = .ok (.ldc_w 308, 3) := by decide +kernel
theorem dX7_findTag_24 : decode cX7_findTag 24 = .ok (.invokespecial 305, 3) := by decide +kernel
theorem dX7_findTag_27 : decode cX7_findTag 27 = .ok (.athrow, 1) := by decide +kernel
theorem dX7_append_0 : decode cX7_append 0 = .ok (.aload_n 0, 1) := by decide +kernel
theorem dX7_append_1 : decode cX7_append 1 = .ok (.getfield 148, 3) := by decide +kernel
theorem dX7_append_4 : decode cX7_append 4 = .ok (.ifCond .lt 32, 3) := by decide +kernel
theorem dX7_append_7 : decode cX7_append 7 = .ok (.aload_n 0, 1) := by decide +kernel
theorem dX7_append_8 : decode cX7_append 8 = .ok (.getfield 148, 3) := by decide +kernel
theorem dX7_append_11 : decode cX7_append 11 = .ok (.bipush 12, 2) := by decide +kernel
theorem dX7_append_13 : decode cX7_append 13 = .ok (.if_icmp .ge 23, 3) := by decide +kernel
theorem dX7_append_16 : decode cX7_append 16 = .ok (.aload_n 0, 1) := by decide +kernel
theorem dX7_append_17 : decode cX7_append 17 = .ok (.getfield 11, 3) := by decide +kernel
theorem dX7_append_20 : decode cX7_append 20 = .ok (.aload_n 0, 1) := by decide +kernel
theorem dX7_append_21 : decode cX7_append 21 = .ok (.getfield 148, 3) := by decide +kernel
theorem dX7_append_24 : decode cX7_append 24 = .ok (.aload_n 1, 1) := by decide +kernel
theorem dX7_append_25 : decode cX7_append 25 = .ok (.aastore, 1) := by decide +kernel
theorem dX7_append_26 : decode cX7_append 26 = .ok (.aload_n 0, 1) := by decide +kernel
theorem dX7_append_27 : decode cX7_append 27 = .ok (.dup, 1) := by decide +kernel
theorem dX7_append_28 : decode cX7_append 28 = .ok (.getfield 148, 3) := by decide +kernel
theorem dX7_append_31 : decode cX7_append 31 = .ok (.iconst 1, 1) := by decide +kernel
theorem dX7_append_32 : decode cX7_append 32 = .ok (.iadd, 1) := by decide +kernel
theorem dX7_append_33 : decode cX7_append 33 = .ok (.putfield 148, 3) := by decide +kernel
theorem dX7_append_36 : decode cX7_append 36 = .ok (.aload_n 0, 1) := by decide +kernel
theorem dX7_append_37 : decode cX7_append 37 = .ok (.getfield 148, 3) := by decide +kernel
theorem dX7_append_40 : decode cX7_append 40 = .ok (.iconst 1, 1) := by decide +kernel
theorem dX7_append_41 : decode cX7_append 41 = .ok (.isub, 1) := by decide +kernel
theorem dX7_append_42 : decode cX7_append 42 = .ok (.ireturn, 1) := by decide +kernel
theorem dX7_countOfKind_0 : decode cX7_countOfKind 0 = .ok (.iconst 0, 1) := by decide +kernel
theorem dX7_countOfKind_1 : decode cX7_countOfKind 1 = .ok (.istore_n 2, 1) := by decide +kernel
theorem dX7_countOfKind_2 : decode cX7_countOfKind 2 = .ok (.iconst 0, 1) := by decide +kernel
theorem dX7_countOfKind_3 : decode cX7_countOfKind 3 = .ok (.istore_n 3, 1) := by decide +kernel
theorem dX7_countOfKind_4 : decode cX7_countOfKind 4 = .ok (.iload_n 3, 1) := by decide +kernel
theorem dX7_countOfKind_5 : decode cX7_countOfKind 5 = .ok (.aload_n 0, 1) := by decide +kernel
theorem dX7_countOfKind_6 : decode cX7_countOfKind 6 = .ok (.getfield 148, 3) := by decide +kernel
theorem dX7_countOfKind_9 : decode cX7_countOfKind 9 = .ok (.if_icmp .ge 24, 3) := by decide +kernel
theorem dX7_countOfKind_33 : decode cX7_countOfKind 33 = .ok (.iload_n 2, 1) := by decide +kernel
theorem dX7_countOfKind_34 : decode cX7_countOfKind 34 = .ok (.ireturn, 1) := by decide +kernel
theorem dX7_countEmptyCells_0 : decode cX7_countEmptyCells 0 = .ok (.iconst 0, 1) := by decide +kernel
theorem dX7_countEmptyCells_1 : decode cX7_countEmptyCells 1 = .ok (.istore_n 1, 1) := by decide +kernel
theorem dX7_countEmptyCells_2 : decode cX7_countEmptyCells 2 = .ok (.iconst 0, 1) := by decide +kernel
theorem dX7_countEmptyCells_3 : decode cX7_countEmptyCells 3 = .ok (.istore_n 2, 1) := by decide +kernel
theorem dX7_countEmptyCells_4 : decode cX7_countEmptyCells 4 = .ok (.iload_n 2, 1) := by decide +kernel
theorem dX7_countEmptyCells_5 : decode cX7_countEmptyCells 5 = .ok (.aload_n 0, 1) := by decide +kernel
theorem dX7_countEmptyCells_6 : decode cX7_countEmptyCells 6 = .ok (.getfield 148, 3) := by decide +kernel
theorem dX7_countEmptyCells_9 : decode cX7_countEmptyCells 9 = .ok (.if_icmp .ge 20, 3) := by decide +kernel
theorem dX7_countEmptyCells_29 : decode cX7_countEmptyCells 29 = .ok (.iload_n 1, 1) := by decide +kernel
theorem dX7_countEmptyCells_30 : decode cX7_countEmptyCells 30 = .ok (.ireturn, 1) := by decide +kernel
theorem dX8_init_0 : decode cX8_init 0 = .ok (.aload_n 0, 1) := by decide +kernel
theorem dX8_init_1 : decode cX8_init 1 = .ok (.invokespecial 3, 3) := by decide +kernel
theorem dX8_init_4 : decode cX8_init 4 = .ok (.aload_n 0, 1) := by decide +kernel
theorem dX8_init_5 : decode cX8_init 5 = .ok (.iconst (-1), 1) := by decide +kernel
theorem dX8_init_6 : decode cX8_init 6 = .ok (.putfield 9, 3) := by decide +kernel
theorem dX8_init_9 : decode cX8_init 9 = .ok (.aload_n 0, 1) := by decide +kernel
theorem dX8_init_10 : decode cX8_init 10 = .ok (.iconst (-1), 1) := by decide +kernel
theorem dX8_init_11 : decode cX8_init 11 = .ok (.putfield 15, 3) := by decide +kernel
theorem dX8_init_14 : decode cX8_init 14 = .ok (.aload_n 0, 1) := by decide +kernel
theorem dX8_init_15 : decode cX8_init 15 = .ok (.iconst (-1), 1) := by decide +kernel
theorem dX8_init_16 : decode cX8_init 16 = .ok (.putfield 18, 3) := by decide +kernel
theorem dX8_init_19 : decode cX8_init 19 = .ok (.aload_n 0, 1) := by decide +kernel
theorem dX8_init_20 : decode cX8_init 20 = .ok (.iload_n 1, 1) := by decide +kernel
theorem dX8_init_21 : decode cX8_init 21 = .ok (.putfield 21, 3) := by decide +kernel
theorem dX8_init_24 : decode cX8_init 24 = .ok (.aload_n 0, 1) := by decide +kernel
theorem dX8_init_25 : decode cX8_init 25 = .ok (.iconst 2, 1) := by decide +kernel
theorem dX8_init_26 : decode cX8_init 26 = .ok (.iload_n 1, 1) := by decide +kernel
theorem dX8_init_27 : decode cX8_init 27 = .ok (.imul, 1) := by decide +kernel
theorem dX8_init_28 : decode cX8_init 28 = .ok (.anewarray 24, 3) := by decide +kernel
theorem dX8_init_31 : decode cX8_init 31 = .ok (.putfield 26, 3) := by decide +kernel
theorem dX8_init_34 : decode cX8_init 34 = .ok (.return_, 1) := by decide +kernel
theorem dX10_init_0 : decode cX10_init 0 = .ok (.aload_n 0, 1) := by decide +kernel
theorem dX10_init_1 : decode cX10_init 1 = .ok (.invokespecial 1, 3) := by decide +kernel
theorem dX10_init_4 : decode cX10_init 4 = .ok (.aload_n 0, 1) := by decide +kernel
theorem dX10_init_5 : decode cX10_init 5 = .ok (.new 7, 3) := by decide +kernel
theorem dX10_init_8 : decode cX10_init 8 = .ok (.dup, 1) := by decide +kernel
theorem dX10_init_9 : decode cX10_init 9 = .ok (.invokespecial 9, 3) := by decide +kernel
theorem dX10_init_12 : decode cX10_init 12 = .ok (.putfield 10, 3) := by decide +kernel
theorem dX10_init_15 : decode cX10_init 15 = .ok (.aload_n 0, 1) := by decide +kernel
theorem dX10_init_16 : decode cX10_init 16 = .ok (.new 7, 3) := by decide +kernel
theorem dX10_init_19 : decode cX10_init 19 = .ok (.dup, 1) := by decide +kernel
theorem dX10_init_20 : decode cX10_init 20 = .ok (.invokespecial 9, 3) := by decide +kernel
theorem dX10_init_23 : decode cX10_init 23 = .ok (.putfield 16, 3) := by decide +kernel
theorem dX10_init_26 : decode cX10_init 26 = .ok (.return_, 1) := by decide +kernel
theorem dX10_thrown_0 : decode cX10_thrown 0 = .ok (.aload_n 0, 1) := by decide +kernel
theorem dX10_thrown_1 : decode cX10_thrown 1 = .ok (.getfield 19, 3) := by decide +kernel
theorem dX10_thrown_4 : decode cX10_thrown 4 = .ok (.ireturn, 1) := by decide +kernel
theorem dX10_refuse_0 : decode cX10_refuse 0 = .ok (.aload_n 0, 1) := by decide +kernel
theorem dX10_refuse_1 : decode cX10_refuse 1 = .ok (.iload_n 1, 1) := by decide +kernel
theorem dX10_refuse_2 : decode cX10_refuse 2 = .ok (.putfield 19, 3) := by decide +kernel
theorem dX10_refuse_5 : decode cX10_refuse 5 = .ok (.iconst 0, 1) := by decide +kernel
theorem dX10_refuse_6 : decode cX10_refuse 6 = .ok (.ireturn, 1) := by decide +kernel
theorem dX10_is_0 : decode cX10_is 0 = .ok (.iload_n 0, 1) := by decide +kernel
theorem dX10_is_1 : decode cX10_is 1 = .ok (.iload_n 1, 1) := by decide +kernel
theorem dX10_is_2 : decode cX10_is 2 = .ok (.if_icmp .lt 12, 3) := by decide +kernel
theorem dX10_is_5 : decode cX10_is 5 = .ok (.iload_n 0, 1) := by decide +kernel
theorem dX10_is_6 : decode cX10_is 6 = .ok (.iload_n 2, 1) := by decide +kernel
theorem dX10_is_7 : decode cX10_is 7 = .ok (.if_icmp .gt 7, 3) := by decide +kernel
theorem dX10_is_10 : decode cX10_is 10 = .ok (.iconst 1, 1) := by decide +kernel
theorem dX10_is_11 : decode cX10_is 11 = .ok (.goto 4, 3) := by decide +kernel
theorem dX10_is_14 : decode cX10_is 14 = .ok (.iconst 0, 1) := by decide +kernel
theorem dX10_is_15 : decode cX10_is 15 = .ok (.ireturn, 1) := by decide +kernel
theorem dX10_isMachine_0 : decode cX10_isMachine 0 = .ok (.iload_n 1, 1) := by decide +kernel
theorem dX10_isMachine_1 : decode cX10_isMachine 1 = .ok (.iconst 0, 1) := by decide +kernel
theorem dX10_isMachine_2 : decode cX10_isMachine 2 = .ok (.aload_n 0, 1) := by decide +kernel
theorem dX10_isMachine_3 : decode cX10_isMachine 3 = .ok (.getfield 10, 3) := by decide +kernel
theorem dX10_isMachine_6 : decode cX10_isMachine 6 = .ok (.invokevirtual 23, 3) := by decide +kernel
theorem dX10_isMachine_9 : decode cX10_isMachine 9 = .ok (.iconst 1, 1) := by decide +kernel
theorem dX10_isMachine_10 : decode cX10_isMachine 10 = .ok (.isub, 1) := by decide +kernel
theorem dX10_isMachine_11 : decode cX10_isMachine 11 = .ok (.invokestatic 27, 3) := by decide +kernel
theorem dX10_isMachine_14 : decode cX10_isMachine 14 = .ok (.ireturn, 1) := by decide +kernel
theorem dX10_machine_0 : decode cX10_machine 0 = .ok (.aload_n 0, 1) := by decide +kernel
theorem dX10_machine_1 : decode cX10_machine 1 = .ok (.iconst 0, 1) := by decide +kernel
theorem dX10_machine_2 : decode cX10_machine 2 = .ok (.putfield 19, 3) := by decide +kernel
theorem dX10_machine_5 : decode cX10_machine 5 = .ok (.iload_n 1, 1) := by decide +kernel
theorem dX10_machine_6 : decode cX10_machine 6 = .ok (.iconst 2, 1) := by decide +kernel
theorem dX10_machine_7 : decode cX10_machine 7 = .ok (.iconst 4, 1) := by decide +kernel
theorem dX10_machine_8 : decode cX10_machine 8 = .ok (.invokestatic 27, 3) := by decide +kernel
theorem dX10_machine_11 : decode cX10_machine 11 = .ok (.ifCond .ne 9, 3) := by decide +kernel
theorem dX10_machine_14 : decode cX10_machine 14 = .ok (.aload_n 0, 1) := by decide +kernel
theorem dX10_machine_15 : decode cX10_machine 15 = .ok (.iconst 1, 1) := by decide +kernel
theorem dX10_machine_16 : decode cX10_machine 16 = .ok (.invokevirtual 31, 3) := by decide +kernel
theorem dX10_machine_19 : decode cX10_machine 19 = .ok (.ireturn, 1) := by decide +kernel
theorem dX10_machine_20 : decode cX10_machine 20 = .ok (.aload_n 0, 1) := by decide +kernel
theorem dX10_machine_21 : decode cX10_machine 21 = .ok (.getfield 10, 3) := by decide +kernel
theorem dX10_machine_24 : decode cX10_machine 24 = .ok (.invokevirtual 23, 3) := by decide +kernel
theorem dX10_machine_27 : decode cX10_machine 27 = .ok (.bipush 12, 2) := by decide +kernel
theorem dX10_machine_29 : decode cX10_machine 29 = .ok (.if_icmp .ne 9, 3) := by decide +kernel
theorem dX10_machine_38 : decode cX10_machine 38 = .ok (.aload_n 0, 1) := by decide +kernel
theorem dX10_machine_39 : decode cX10_machine 39 = .ok (.getfield 10, 3) := by decide +kernel
theorem dX10_machine_42 : decode cX10_machine 42 = .ok (.new 35, 3) := by decide +kernel
theorem dX10_machine_45 : decode cX10_machine 45 = .ok (.dup, 1) := by decide +kernel
theorem dX10_machine_46 : decode cX10_machine 46 = .ok (.iload_n 1, 1) := by decide +kernel
theorem dX10_machine_47 : decode cX10_machine 47 = .ok (.invokespecial 37, 3) := by decide +kernel
theorem dX10_machine_50 : decode cX10_machine 50 = .ok (.invokevirtual 40, 3) := by decide +kernel
theorem dX10_machine_53 : decode cX10_machine 53 = .ok (.pop, 1) := by decide +kernel
theorem dX10_machine_54 : decode cX10_machine 54 = .ok (.aload_n 0, 1) := by decide +kernel
theorem dX10_machine_55 : decode cX10_machine 55 = .ok (.getfield 10, 3) := by decide +kernel
theorem dX10_machine_58 : decode cX10_machine 58 = .ok (.invokevirtual 23, 3) := by decide +kernel
theorem dX10_machine_61 : decode cX10_machine 61 = .ok (.iconst 1, 1) := by decide +kernel
theorem dX10_machine_62 : decode cX10_machine 62 = .ok (.isub, 1) := by decide +kernel
theorem dX10_machine_63 : decode cX10_machine 63 = .ok (.ireturn, 1) := by decide +kernel
theorem dX10_refused_0 : decode cX10_refused 0 = .ok (.aload_n 0, 1) := by decide +kernel
theorem dX10_refused_1 : decode cX10_refused 1 = .ok (.iload_n 1, 1) := by decide +kernel
theorem dX10_refused_2 : decode cX10_refused 2 = .ok (.invokevirtual 44, 3) := by decide +kernel
theorem dX10_refused_5 : decode cX10_refused 5 = .ok (.ifCond .eq 36, 3) := by decide +kernel
theorem dX10_refused_41 : decode cX10_refused 41 = .ok (.iconst 1, 1) := by decide +kernel
theorem dX10_refused_42 : decode cX10_refused 42 = .ok (.ireturn, 1) := by decide +kernel
theorem dX10_tell_0 : decode cX10_tell 0 = .ok (.aload_n 0, 1) := by decide +kernel
theorem dX10_tell_1 : decode cX10_tell 1 = .ok (.aload_n 0, 1) := by decide +kernel
theorem dX10_tell_2 : decode cX10_tell 2 = .ok (.iload_n 1, 1) := by decide +kernel
theorem dX10_tell_3 : decode cX10_tell 3 = .ok (.iload_n 2, 1) := by decide +kernel
theorem dX10_tell_4 : decode cX10_tell 4 = .ok (.iload_n 3, 1) := by decide +kernel
theorem dX10_tell_5 : decode cX10_tell 5 = .ok (.iload 4, 2) := by decide +kernel
theorem dX10_tell_7 : decode cX10_tell 7 = .ok (.iload 5, 2) := by decide +kernel
theorem dX10_tell_9 : decode cX10_tell 9 = .ok (.iload 6, 2) := by decide +kernel
theorem dX10_tell_11 : decode cX10_tell 11 = .ok (.iconst 1, 1) := by decide +kernel
theorem dX10_tell_12 : decode cX10_tell 12 = .ok (.invokevirtual 70, 3) := by decide +kernel
theorem dX10_tell_15 : decode cX10_tell 15 = .ok (.putfield 19, 3) := by decide +kernel
theorem dX10_tell_18 : decode cX10_tell 18 = .ok (.aload_n 0, 1) := by decide +kernel
theorem dX10_tell_19 : decode cX10_tell 19 = .ok (.getfield 19, 3) := by decide +kernel
theorem dX10_tell_22 : decode cX10_tell 22 = .ok (.ifCond .le 5, 3) := by decide +kernel
