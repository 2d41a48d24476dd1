set_option maxRecDepth 20000 in
theorem ggX0_init_X4_init : GoodIn wsX0_init wsX4_init := goodIn_r _ [11, 12, 2, 3, 13, 14, 15, 16, 17, 18, 19, 20, 21, 22] (by decide +kernel) (by decide +kernel)
set_option maxRecDepth 20000 in
theorem gX0_init_X4_init : GoodIn wsX0_init (wsX4_init) := ggX0_init_X4_init
theorem dX0_init_0 : decode cX0_init 0 = .ok (.aload_n 0, 1) := by decide +kernel
theorem dX0_init_1 : decode cX0_init 1 = .ok (.invokespecial 3, 3) := by decide +kernel
theorem dX0_init_4 : decode cX0_init 4 = .ok (.aload_n 0, 1) := by decide +kernel
theorem dX0_init_5 : decode cX0_init 5 = .ok (.new 9, 3) := by decide +kernel
theorem dX0_init_8 : decode cX0_init 8 = .ok (.dup, 1) := by decide +kernel
theorem dX0_init_9 : decode cX0_init 9 = .ok (.invokespecial 11, 3) := by decide +kernel
theorem dX0_init_12 : decode cX0_init 12 = .ok (.putfield 12, 3) := by decide +kernel
theorem dX0_init_15 : decode cX0_init 15 = .ok (.aload_n 0, 1) := by decide +kernel
theorem dX0_init_16 : decode cX0_init 16 = .ok (.new 9, 3) := by decide +kernel
theorem dX0_init_19 : decode cX0_init 19 = .ok (.dup, 1) := by decide +kernel
theorem dX0_init_20 : decode cX0_init 20 = .ok (.invokespecial 11, 3) := by decide +kernel
theorem dX0_init_23 : decode cX0_init 23 = .ok (.putfield 18, 3) := by decide +kernel
theorem dX0_init_26 : decode cX0_init 26 = .ok (.return_, 1) := by decide +kernel
set_option maxRecDepth 20000 in
theorem ggX1_init_X6_init : GoodIn wsX1_init wsX6_init := goodIn_r _ [11, 12, 2, 3, 13, 14, 15, 16, 17, 18, 19, 20] (by decide +kernel) (by decide +kernel)
set_option maxRecDepth 20000 in
theorem gX1_init_X6_init : GoodIn wsX1_init (wsX6_init) := ggX1_init_X6_init
theorem dX1_init_0 : decode cX1_init 0 = .ok (.aload_n 0, 1) := by decide +kernel
theorem dX1_init_1 : decode cX1_init 1 = .ok (.invokespecial 3, 3) := by decide +kernel
theorem dX1_init_4 : decode cX1_init 4 = .ok (.aload_n 0, 1) := by decide +kernel
theorem dX1_init_5 : decode cX1_init 5 = .ok (.new 9, 3) := by decide +kernel
theorem dX1_init_8 : decode cX1_init 8 = .ok (.dup, 1) := by decide +kernel
theorem dX1_init_9 : decode cX1_init 9 = .ok (.invokespecial 11, 3) := by decide +kernel
theorem dX1_init_12 : decode cX1_init 12 = .ok (.putfield 12, 3) := by decide +kernel
theorem dX1_init_15 : decode cX1_init 15 = .ok (.aload_n 0, 1) := by decide +kernel
theorem dX1_init_16 : decode cX1_init 16 = .ok (.new 9, 3) := by decide +kernel
theorem dX1_init_19 : decode cX1_init 19 = .ok (.dup, 1) := by decide +kernel
theorem dX1_init_20 : decode cX1_init 20 = .ok (.invokespecial 11, 3) := by decide +kernel
theorem dX1_init_23 : decode cX1_init 23 = .ok (.putfield 18, 3) := by decide +kernel
theorem dX1_init_26 : decode cX1_init 26 = .ok (.return_, 1) := by decide +kernel
theorem dX2_init_0 : decode cX2_init 0 = .ok (.aload_n 0, 1) := by decide +kernel
theorem dX2_init_1 : decode cX2_init 1 = .ok (.invokespecial 3, 3) := by decide +kernel
theorem dX2_init_4 : decode cX2_init 4 = .ok (.aload_n 0, 1) := by decide +kernel
theorem dX2_init_5 : decode cX2_init 5 = .ok (.sipush 512, 3) := by decide +kernel
theorem dX2_init_8 : decode cX2_init 8 = .ok (.newarray .boolean, 2) := by decide +kernel
theorem dX2_init_10 : decode cX2_init 10 = .ok (.putfield 9, 3) := by decide +kernel
theorem dX2_init_13 : decode cX2_init 13 = .ok (.aload_n 0, 1) := by decide +kernel
theorem dX2_init_14 : decode cX2_init 14 = .ok (.sipush 512, 3) := by decide +kernel
theorem dX2_init_17 : decode cX2_init 17 = .ok (.newarray .int, 2) := by decide +kernel
theorem dX2_init_19 : decode cX2_init 19 = .ok (.putfield 15, 3) := by decide +kernel
theorem dX2_init_22 : decode cX2_init 22 = .ok (.aload_n 0, 1) := by decide +kernel
theorem dX2_init_23 : decode cX2_init 23 = .ok (.bipush 8, 2) := by decide +kernel
theorem dX2_init_25 : decode cX2_init 25 = .ok (.newarray .boolean, 2) := by decide +kernel
theorem dX2_init_27 : decode cX2_init 27 = .ok (.putfield 19, 3) := by decide +kernel
theorem dX2_init_30 : decode cX2_init 30 = .ok (.aload_n 0, 1) := by decide +kernel
theorem dX2_init_31 : decode cX2_init 31 = .ok (.bipush 8, 2) := by decide +kernel
theorem dX2_init_33 : decode cX2_init 33 = .ok (.newarray .boolean, 2) := by decide +kernel
theorem dX2_init_35 : decode cX2_init 35 = .ok (.putfield 22, 3) := by decide +kernel
theorem dX2_init_38 : decode cX2_init 38 = .ok (.return_, 1) := by decide +kernel
theorem dX3_init_0 : decode cX3_init 0 = .ok (.aload_n 0, 1) := by decide +kernel
theorem dX3_init_1 : decode cX3_init 1 = .ok (.invokespecial 3, 3) := by decide +kernel
theorem dX3_init_4 : decode cX3_init 4 = .ok (.aload_n 0, 1) := by decide +kernel
theorem dX3_init_5 : decode cX3_init 5 = .ok (.iload_n 1, 1) := by decide +kernel
theorem dX3_init_6 : decode cX3_init 6 = .ok (.putfield 9, 3) := by decide +kernel
theorem dX3_init_9 : decode cX3_init 9 = .ok (.aload_n 0, 1) := by decide +kernel
theorem dX3_init_10 : decode cX3_init 10 = .ok (.bipush 8, 2) := by decide +kernel
theorem dX3_init_12 : decode cX3_init 12 = .ok (.newarray .int, 2) := by decide +kernel
theorem dX3_init_14 : decode cX3_init 14 = .ok (.putfield 15, 3) := by decide +kernel
theorem dX3_init_17 : decode cX3_init 17 = .ok (.aload_n 0, 1) := by decide +kernel
theorem dX3_init_18 : decode cX3_init 18 = .ok (.bipush 8, 2) := by decide +kernel
theorem dX3_init_20 : decode cX3_init 20 = .ok (.newarray .int, 2) := by decide +kernel
theorem dX3_init_22 : decode cX3_init 22 = .ok (.putfield 19, 3) := by decide +kernel
theorem dX3_init_25 : decode cX3_init 25 = .ok (.aload_n 0, 1) := by decide +kernel
theorem dX3_init_26 : decode cX3_init 26 = .ok (.bipush 8, 2) := by decide +kernel
theorem dX3_init_28 : decode cX3_init 28 = .ok (.newarray .int, 2) := by decide +kernel
theorem dX3_init_30 : decode cX3_init 30 = .ok (.putfield 22, 3) := by decide +kernel
theorem dX3_init_33 : decode cX3_init 33 = .ok (.iconst 0, 1) := by decide +kernel
theorem dX3_init_34 : decode cX3_init 34 = .ok (.istore_n 2, 1) := by decide +kernel
theorem dX3_init_35 : decode cX3_init 35 = .ok (.iload_n 2, 1) := by decide +kernel
theorem dX3_init_36 : decode cX3_init 36 = .ok (.bipush 8, 2) := by decide +kernel
theorem dX3_init_38 : decode cX3_init 38 = .ok (.if_icmp .ge 16, 3) := by decide +kernel
theorem dX3_init_41 : decode cX3_init 41 = .ok (.aload_n 0, 1) := by decide +kernel
theorem dX3_init_42 : decode cX3_init 42 = .ok (.getfield 15, 3) := by decide +kernel
theorem dX3_init_45 : decode cX3_init 45 = .ok (.iload_n 2, 1) := by decide +kernel
theorem dX3_init_46 : decode cX3_init 46 = .ok (.iconst (-1), 1) := by decide +kernel
theorem dX3_init_47 : decode cX3_init 47 = .ok (.iastore, 1) := by decide +kernel
theorem dX3_init_48 : decode cX3_init 48 = .ok (.iinc 2 1, 3) := by decide +kernel
theorem dX3_init_51 : decode cX3_init 51 = .ok (.goto (-16), 3) := by decide +kernel
theorem dX3_init_54 : decode cX3_init 54 = .ok (.aload_n 0, 1) := by decide +kernel
theorem dX3_init_55 : decode cX3_init 55 = .ok (.iconst (-1), 1) := by decide +kernel
theorem dX3_init_56 : decode cX3_init 56 = .ok (.putfield 25, 3) := by decide +kernel
theorem dX3_init_59 : decode cX3_init 59 = .ok (.aload_n 0, 1) := by decide +kernel
theorem dX3_init_60 : decode cX3_init 60 = .ok (.iconst (-1), 1) := by decide +kernel
theorem dX3_init_61 : decode cX3_init 61 = .ok (.putfield 28, 3) := by decide +kernel
theorem dX3_init_64 : decode cX3_init 64 = .ok (.aload_n 0, 1) := by decide +kernel
theorem dX3_init_65 : decode cX3_init 65 = .ok (.iconst (-1), 1) := by decide +kernel
theorem dX3_init_66 : decode cX3_init 66 = .ok (.putfield 31, 3) := by decide +kernel
theorem dX3_init_69 : decode cX3_init 69 = .ok (.return_, 1) := by decide +kernel
theorem dX4_init_0 : decode cX4_init 0 = .ok (.aload_n 0, 1) := by decide +kernel
theorem dX4_init_1 : decode cX4_init 1 = .ok (.invokespecial 3, 3) := by decide +kernel
theorem dX4_init_4 : decode cX4_init 4 = .ok (.aload_n 0, 1) := by decide +kernel
theorem dX4_init_5 : decode cX4_init 5 = .ok (.bipush 24, 2) := by decide +kernel
theorem dX4_init_7 : decode cX4_init 7 = .ok (.newarray .int, 2) := by decide +kernel
theorem dX4_init_9 : decode cX4_init 9 = .ok (.putfield 9, 3) := by decide +kernel
theorem dX4_init_12 : decode cX4_init 12 = .ok (.aload_n 0, 1) := by decide +kernel
theorem dX4_init_13 : decode cX4_init 13 = .ok (.bipush 24, 2) := by decide +kernel
theorem dX4_init_15 : decode cX4_init 15 = .ok (.newarray .int, 2) := by decide +kernel
theorem dX4_init_17 : decode cX4_init 17 = .ok (.putfield 15, 3) := by decide +kernel
theorem dX4_init_20 : decode cX4_init 20 = .ok (.aload_n 0, 1) := by decide +kernel
theorem dX4_init_21 : decode cX4_init 21 = .ok (.bipush 24, 2) := by decide +kernel
theorem dX4_init_23 : decode cX4_init 23 = .ok (.newarray .int, 2) := by decide +kernel
theorem dX4_init_25 : decode cX4_init 25 = .ok (.putfield 18, 3) := by decide +kernel
theorem dX4_init_28 : decode cX4_init 28 = .ok (.aload_n 0, 1) := by decide +kernel
theorem dX4_init_29 : decode cX4_init 29 = .ok (.bipush 24, 2) := by decide +kernel
theorem dX4_init_31 : decode cX4_init 31 = .ok (.newarray .int, 2) := by decide +kernel
theorem dX4_init_33 : decode cX4_init 33 = .ok (.putfield 21, 3) := by decide +kernel
theorem dX4_init_36 : decode cX4_init 36 = .ok (.return_, 1) := by decide +kernel
theorem dX5_init_0 : decode cX5_init 0 = .ok (.aload_n 0, 1) := by decide +kernel
theorem dX5_init_1 : decode cX5_init 1 = .ok (.invokespecial 1, 3) := by decide +kernel
theorem dX5_init_4 : decode cX5_init 4 = .ok (.aload_n 0, 1) := by decide +kernel
theorem dX5_init_5 : decode cX5_init 5 = .ok (.iload_n 1, 1) := by decide +kernel
theorem dX5_init_6 : decode cX5_init 6 = .ok (.putfield 7, 3) := by decide +kernel
theorem dX5_init_9 : decode cX5_init 9 = .ok (.aload_n 0, 1) := by decide +kernel
theorem dX5_init_10 : decode cX5_init 10 = .ok (.iload_n 2, 1) := by decide +kernel
theorem dX5_init_11 : decode cX5_init 11 = .ok (.putfield 13, 3) := by decide +kernel
theorem dX5_init_14 : decode cX5_init 14 = .ok (.aload_n 0, 1) := by decide +kernel
theorem dX5_init_15 : decode cX5_init 15 = .ok (.iload_n 3, 1) := by decide +kernel
theorem dX5_init_16 : decode cX5_init 16 = .ok (.putfield 16, 3) := by decide +kernel
theorem dX5_init_19 : decode cX5_init 19 = .ok (.return_, 1) := by decide +kernel
theorem dX6_init_0 : decode cX6_init 0 = .ok (.aload_n 0, 1) := by decide +kernel
theorem dX6_init_1 : decode cX6_init 1 = .ok (.invokespecial 3, 3) := by decide +kernel
theorem dX6_init_4 : decode cX6_init 4 = .ok (.aload_n 0, 1) := by decide +kernel
theorem dX6_init_5 : decode cX6_init 5 = .ok (.sipush 1003, 3) := by decide +kernel
theorem dX6_init_8 : decode cX6_init 8 = .ok (.newarray .int, 2) := by decide +kernel
theorem dX6_init_10 : decode cX6_init 10 = .ok (.putfield 9, 3) := by decide +kernel
theorem dX6_init_13 : decode cX6_init 13 = .ok (.return_, 1) := by decide +kernel
set_option maxRecDepth 20000 in
theorem ggX7_init_X6_init : GoodIn wsX7_init wsX6_init := goodIn_r _ [26, 27, 2, 3, 28, 29, 75, 76, 77, 78, 79, 80] (by decide +kernel) (by decide +kernel)
set_option maxRecDepth 20000 in
theorem gX7_init_X6_init : GoodIn wsX7_init (wsX6_init) := ggX7_init_X6_init
set_option maxRecDepth 20000 in
theorem ggX7_init_X1_init : GoodIn wsX7_init wsX1_init := goodIn_r _ [32, 33, 2, 3, 34, 9, 10, 35, 36, 37, 25, 26, 27, 28, 29, 75, 76, 77, 78, 79, 80, 81, 82, 83, 84] (by decide +kernel) (by decide +kernel)
set_option maxRecDepth 20000 in
theorem gX7_init_X1_init : GoodIn wsX7_init (wsX1_init) := ggX7_init_X1_init
set_option maxRecDepth 20000 in
theorem ggX7_init_X0_init : GoodIn wsX7_init wsX0_init := goodIn_r _ [40, 41, 2, 3, 42, 43, 44, 45, 46, 47, 48, 49, 50, 28, 51, 52, 53, 54, 94, 95, 96, 97, 98, 85, 86] (by decide +kernel) (by decide +kernel)
set_option maxRecDepth 20000 in
theorem gX7_init_X0_init : GoodIn wsX7_init (wsX0_init) := ggX7_init_X0_init
set_option maxRecDepth 20000 in
theorem ggX7_init_X2_init : GoodIn wsX7_init wsX2_init := goodIn_r _ [57, 58, 2, 3, 59, 60, 28, 61, 62, 63, 87, 88, 89, 90, 91, 92, 93] (by decide +kernel) (by decide +kernel)
set_option maxRecDepth 20000 in
theorem gX7_init_X2_init : GoodIn wsX7_init (wsX2_init) := ggX7_init_X2_init
theorem dX7_init_0 : decode cX7_init 0 = .ok (.aload_n 0, 1) := by decide +kernel
theorem dX7_init_1 : decode cX7_init 1 = .ok (.invokespecial 3, 3) := by decide +kernel
theorem dX7_init_4 : decode cX7_init 4 = .ok (.aload_n 0, 1) := by decide +kernel
theorem dX7_init_5 : decode cX7_init 5 = .ok (.bipush 12, 2) := by decide +kernel
theorem dX7_init_7 : decode cX7_init 7 = .ok (.anewarray 9, 3) := by decide +kernel
theorem dX7_init_10 : decode cX7_init 10 = .ok (.putfield 11, 3) := by decide +kernel
theorem dX7_init_13 : decode cX7_init 13 = .ok (.aload_n 0, 1) := by decide +kernel
theorem dX7_init_14 : decode cX7_init 14 = .ok (.iconst 4, 1) := by decide +kernel
theorem dX7_init_15 : decode cX7_init 15 = .ok (.anewarray 15, 3) := by decide +kernel
theorem dX7_init_18 : decode cX7_init 18 = .ok (.putfield 17, 3) := by decide +kernel
theorem dX7_init_21 : decode cX7_init 21 = .ok (.aload_n 0, 1) := by decide +kernel
theorem dX7_init_22 : decode cX7_init 22 = .ok (.new 21, 3) := by decide +kernel
theorem dX7_init_25 : decode cX7_init 25 = .ok (.dup, 1) := by decide +kernel
theorem dX7_init_26 : decode cX7_init 26 = .ok (.invokespecial 23, 3) := by decide +kernel
theorem dX7_init_29 : decode cX7_init 29 = .ok (.putfield 24, 3) := by decide +kernel
theorem dX7_init_32 : decode cX7_init 32 = .ok (.aload_n 0, 1) := by decide +kernel
theorem dX7_init_33 : decode cX7_init 33 = .ok (.new 28, 3) := by decide +kernel
theorem dX7_init_36 : decode cX7_init 36 = .ok (.dup, 1) := by decide +kernel
theorem dX7_init_37 : decode cX7_init 37 = .ok (.invokespecial 30, 3) := by decide +kernel
theorem dX7_init_40 : decode cX7_init 40 = .ok (.putfield 31, 3) := by decide +kernel
theorem dX7_init_43 : decode cX7_init 43 = .ok (.aload_n 0, 1) := by decide +kernel
theorem dX7_init_44 : decode cX7_init 44 = .ok (.new 35, 3) := by decide +kernel
theorem dX7_init_47 : decode cX7_init 47 = .ok (.dup, 1) := by decide +kernel
theorem dX7_init_48 : decode cX7_init 48 = .ok (.invokespecial 37, 3) := by decide +kernel
theorem dX7_init_51 : decode cX7_init 51 = .ok (.putfield 38, 3) := by decide +kernel
theorem dX7_init_54 : decode cX7_init 54 = .ok (.aload_n 0, 1) := by decide +kernel
theorem dX7_init_55 : decode cX7_init 55 = .ok (.new 42, 3) := by decide +kernel
theorem dX7_init_58 : decode cX7_init 58 = .ok (.dup, 1) := by decide +kernel
theorem dX7_init_59 : decode cX7_init 59 = .ok (.invokespecial 44, 3) := by decide +kernel
theorem dX7_init_62 : decode cX7_init 62 = .ok (.putfield 45, 3) := by decide +kernel
theorem dX7_init_65 : decode cX7_init 65 = .ok (.return_, 1) := by decide +kernel
set_option maxRecDepth 20000 in
theorem ggX7_machine_X7_isWithin : GoodIn wsX7_machine wsX7_isWithin := goodIn_r _ [7] (by decide +kernel) (by decide +kernel)
set_option maxRecDepth 20000 in
theorem gX7_machine_X7_isWithin : GoodIn wsX7_machine (va_wsS RX7 49 yX7_isWithin wsX7_isWithin) := goodIn_app (goodIn_of _ (by decide +kernel)) ggX7_machine_X7_isWithin
set_option maxRecDepth 20000 in
theorem ggX7_machine_X7_require : GoodIn wsX7_machine wsX7_require := goodIn_ca (goodIn_r _ [10, 11, 12] (by decide +kernel) (by decide +kernel)) (goodIn_sub (fun _ h => List.mem_cons_of_mem _ (List.mem_append_left _ (List.mem_append_right _ h))) (by decide +kernel))
set_option maxRecDepth 20000 in
theorem gX7_machine_X7_require : GoodIn wsX7_machine (va_wsS RX7 53 yX7_require wsX7_require) := goodIn_app (goodIn_of _ (by decide +kernel)) ggX7_machine_X7_require
set_option maxRecDepth 20000 in
theorem ggX7_machine_X7_requireRoomForMachine : GoodIn wsX7_machine wsX7_requireRoomForMachine := goodIn_ca (goodIn_r _ [16, 17, 18, 19, 46, 47, 48, 49, 50, 51, 52, 53, 54, 55, 56] (by decide +kernel) (by decide +kernel)) (goodIn_sub (fun _ h => List.mem_cons_of_mem _ (List.mem_append_right _ h)) (by decide +kernel))
set_option maxRecDepth 20000 in
theorem gX7_machine_X7_requireRoomForMachine : GoodIn wsX7_machine (wsV RX7 57 RX7 yX7_requireRoomForMachine wsX7_requireRoomForMachine) := goodIn_app (goodIn_of _ (by decide +kernel)) ggX7_machine_X7_requireRoomForMachine
set_option maxRecDepth 20000 in
theorem ggX7_machine_X3_init : GoodIn wsX7_machine wsX3_init := goodIn_r _ [22, 23, 24, 25, 26, 27, 28, 29, 30, 31, 32, 33, 39, 40, 41, 42, 43, 44, 45] (by decide +kernel) (by decide +kernel)
set_option maxRecDepth 20000 in
theorem gX7_machine_X3_init : GoodIn wsX7_machine (wsX3_init) := ggX7_machine_X3_init
set_option maxRecDepth 20000 in
theorem ggX7_machine_X7_append : GoodIn wsX7_machine wsX7_append := goodIn_r _ [37, 19, 38, 46, 47, 48, 49, 50, 51, 52, 53, 54, 55, 56] (by decide +kernel) (by decide +kernel)
set_option maxRecDepth 20000 in
theorem gX7_machine_X7_append : GoodIn wsX7_machine (wsV RX7 63 RX7 yX7_append wsX7_append) := goodIn_app (goodIn_of _ (by decide +kernel)) ggX7_machine_X7_append
theorem dX7_machine_0 : decode cX7_machine 0 = .ok (.iload_n 1, 1) := by decide +kernel
theorem dX7_machine_1 : decode cX7_machine 1 = .ok (.iconst 2, 1) := by decide +kernel
theorem dX7_machine_2 : decode cX7_machine 2 = .ok (.iconst 4, 1) := by decide +kernel
theorem dX7_machine_3 : decode cX7_machine 3 = .ok (.invokestatic 49, 3) := by decide +kernel
theorem dX7_machine_6 : decode cX7_machine 6 = .ok (.invokestatic 53, 3) := by decide +kernel
theorem dX7_machine_9 : decode cX7_machine 9 = .ok (.aload_n 0, 1) := by decide +kernel
theorem dX7_machine_10 : decode cX7_machine 10 = .ok (.invokevirtual 57, 3) := by decide +kernel
theorem dX7_machine_13 : decode cX7_machine 13 = .ok (.aload_n 0, 1) := by decide +kernel
theorem dX7_machine_14 : decode cX7_machine 14 = .ok (.new 9, 3) := by decide +kernel
theorem dX7_machine_17 : decode cX7_machine 17 = .ok (.dup, 1) := by decide +kernel
theorem dX7_machine_18 : decode cX7_machine 18 = .ok (.iload_n 1, 1) := by decide +kernel
theorem dX7_machine_19 : decode cX7_machine 19 = .ok (.invokespecial 60, 3) := by decide +kernel
theorem dX7_machine_22 : decode cX7_machine 22 = .ok (.invokevirtual 63, 3) := by decide +kernel
theorem dX7_machine_25 : decode cX7_machine 25 = .ok (.ireturn, 1) := by decide +kernel
set_option maxRecDepth 20000 in
theorem ggX7_tell_X7_find : GoodIn wsX7_tell wsX7_find := goodIn_ca (goodIn_r _ [7, 8, 9, 10, 11, 62, 63, 64, 65, 66, 67, 68, 69, 70, 71, 72] (by decide +kernel) (by decide +kernel)) (goodIn_sub (fun _ h => List.mem_cons_of_mem _ (List.mem_append_left _ (List.mem_append_right _ h))) (by decide +kernel))
set_option maxRecDepth 20000 in
theorem gX7_tell_X7_find : GoodIn wsX7_tell (wsV RX7 67 RX7 yX7_find wsX7_find) := goodIn_app (goodIn_of _ (by decide +kernel)) ggX7_tell_X7_find
set_option maxRecDepth 20000 in
theorem ggX7_tell_X7_require : GoodIn wsX7_tell wsX7_require := goodIn_ca (goodIn_r _ [24, 25, 26] (by decide +kernel) (by decide +kernel)) (goodIn_sub (fun _ h => List.mem_cons_of_mem _ (List.mem_append_right _ h)) (by decide +kernel))
set_option maxRecDepth 20000 in
theorem gX7_tell_X7_require : GoodIn wsX7_tell (va_wsS RX7 53 yX7_require wsX7_require) := goodIn_app (goodIn_of _ (by decide +kernel)) ggX7_tell_X7_require
theorem dX7_tell_0 : decode cX7_tell 0 = .ok (.aload_n 0, 1) := by decide +kernel
theorem dX7_tell_1 : decode cX7_tell 1 = .ok (.iload_n 1, 1) := by decide +kernel
theorem dX7_tell_2 : decode cX7_tell 2 = .ok (.invokevirtual 67, 3) := by decide +kernel
theorem dX7_tell_5 : decode cX7_tell 5 = .ok (.astore 7, 2) := by decide +kernel
theorem dX7_tell_7 : decode cX7_tell 7 = .ok (.aload 7, 2) := by decide +kernel
theorem dX7_tell_9 : decode cX7_tell 9 = .ok (.iload_n 2, 1) := by decide +kernel
theorem dX7_tell_10 : decode cX7_tell 10 = .ok (.iload_n 3, 1) := by decide +kernel
theorem dX7_tell_11 : decode cX7_tell 11 = .ok (.invokestatic 71, 3) := by decide +kernel
theorem dX7_tell_14 : decode cX7_tell 14 = .ok (.istore 8, 2) := by decide +kernel
theorem dX7_tell_16 : decode cX7_tell 16 = .ok (.aload 7, 2) := by decide +kernel
theorem dX7_tell_18 : decode cX7_tell 18 = .ok (.iload 4, 2) := by decide +kernel
theorem dX7_tell_20 : decode cX7_tell 20 = .ok (.iload 5, 2) := by decide +kernel
theorem dX7_tell_22 : decode cX7_tell 22 = .ok (.iload 6, 2) := by decide +kernel
theorem dX7_tell_24 : decode cX7_tell 24 = .ok (.invokestatic 75, 3) := by decide +kernel
theorem dX7_tell_27 : decode cX7_tell 27 = .ok (.invokestatic 53, 3) := by decide +kernel
theorem dX7_tell_30 : decode cX7_tell 30 = .ok (.aload 7, 2) := by decide +kernel
theorem dX7_tell_32 : decode cX7_tell 32 = .ok (.iload 8, 2) := by decide +kernel
theorem dX7_tell_34 : decode cX7_tell 34 = .ok (.invokevirtual 79, 3) := by decide +kernel
theorem dX7_tell_37 : decode cX7_tell 37 = .ok (.ifCond .ne 13, 3) := by decide +kernel
theorem dX7_tell_40 : decode cX7_tell 40 = .ok (.new 83, 3) := by decide +kernel
theorem dX7_tell_43 : decode cX7_tell 43 = .ok (.dup, 1) := by decide +kernel
theorem dX7_tell_44 : decode cX7_tell 44 = .ok (.ldc 85, 2) := by decide +kernel
theorem dX7_tell_46 : decode cX7_tell 46 = .ok (.invokespecial 87, 3) := by decide +kernel
theorem dX7_tell_49 : decode cX7_tell 49 = .ok (.athrow, 1) := by decide +kernel
theorem dX7_tell_50 : decode cX7_tell 50 = .ok (.aload 7, 2) := by decide +kernel
theorem dX7_tell_52 : decode cX7_tell 52 = .ok (.iload 8, 2) := by decide +kernel
theorem dX7_tell_54 : decode cX7_tell 54 = .ok (.iload 4, 2) := by decide +kernel
theorem dX7_tell_56 : decode cX7_tell 56 = .ok (.iload 5, 2) := by decide +kernel
theorem dX7_tell_58 : decode cX7_tell 58 = .ok (.iload 6, 2) := by decide +kernel
theorem dX7_tell_60 : decode cX7_tell 60 = .ok (.invokevirtual 90, 3) := by decide +kernel
theorem dX7_tell_63 : decode cX7_tell 63 = .ok (.aload_n 0, 1) := by decide +kernel
theorem dX7_tell_64 : decode cX7_tell 64 = .ok (.aload 7, 2) := by decide +kernel
theorem dX7_tell_66 : decode cX7_tell 66 = .ok (.invokevirtual 94, 3) := by decide +kernel
theorem dX7_tell_69 : decode cX7_tell 69 = .ok (.pop, 1) := by decide +kernel
theorem dX7_tell_70 : decode cX7_tell 70 = .ok (.aload 7, 2) := by decide +kernel
theorem dX7_tell_72 : decode cX7_tell 72 = .ok (.invokevirtual 98, 3) := by decide +kernel
theorem dX7_tell_75 : decode cX7_tell 75 = .ok (.ireturn, 1) := by decide +kernel
set_option maxRecDepth 20000 in
theorem ggX7_amend_X7_find : GoodIn wsX7_amend wsX7_find := goodIn_ca (goodIn_r _ [7, 8, 9, 10, 11, 52, 53, 54, 55, 56, 57, 58, 59, 60, 61, 62] (by decide +kernel) (by decide +kernel)) (goodIn_sub (fun _ h => List.mem_cons_of_mem _ (List.mem_append_left _ (List.mem_append_right _ h))) (by decide +kernel))
set_option maxRecDepth 20000 in
theorem gX7_amend_X7_find : GoodIn wsX7_amend (wsV RX7 67 RX7 yX7_find wsX7_find) := goodIn_app (goodIn_of _ (by decide +kernel)) ggX7_amend_X7_find
set_option maxRecDepth 20000 in
theorem ggX7_amend_X7_require : GoodIn wsX7_amend wsX7_require := goodIn_ca (goodIn_r _ [24, 25, 26] (by decide +kernel) (by decide +kernel)) (goodIn_sub (fun _ h => List.mem_cons_of_mem _ (List.mem_append_right _ h)) (by decide +kernel))
set_option maxRecDepth 20000 in
theorem gX7_amend_X7_require : GoodIn wsX7_amend (va_wsS RX7 53 yX7_require wsX7_require) := goodIn_app (goodIn_of _ (by decide +kernel)) ggX7_amend_X7_require
theorem dX7_amend_0 : decode cX7_amend 0 = .ok (.aload_n 0, 1) := by decide +kernel
theorem dX7_amend_1 : decode cX7_amend 1 = .ok (.iload_n 1, 1) := by decide +kernel
theorem dX7_amend_2 : decode cX7_amend 2 = .ok (.invokevirtual 67, 3) := by decide +kernel
theorem dX7_amend_5 : decode cX7_amend 5 = .ok (.astore 7, 2) := by decide +kernel
theorem dX7_amend_7 : decode cX7_amend 7 = .ok (.aload 7, 2) := by decide +kernel
theorem dX7_amend_9 : decode cX7_amend 9 = .ok (.iload_n 2, 1) := by decide +kernel
theorem dX7_amend_10 : decode cX7_amend 10 = .ok (.iload_n 3, 1) := by decide +kernel
theorem dX7_amend_11 : decode cX7_amend 11 = .ok (.invokestatic 71, 3) := by decide +kernel
theorem dX7_amend_14 : decode cX7_amend 14 = .ok (.istore 8, 2) := by decide +kernel
theorem dX7_amend_16 : decode cX7_amend 16 = .ok (.aload 7, 2) := by decide +kernel
theorem dX7_amend_18 : decode cX7_amend 18 = .ok (.iload 4, 2) := by decide +kernel
theorem dX7_amend_20 : decode cX7_amend 20 = .ok (.iload 5, 2) := by decide +kernel
theorem dX7_amend_22 : decode cX7_amend 22 = .ok (.iload 6, 2) := by decide +kernel
theorem dX7_amend_24 : decode cX7_amend 24 = .ok (.invokestatic 75, 3) := by decide +kernel
theorem dX7_amend_27 : decode cX7_amend 27 = .ok (.invokestatic 53, 3) := by decide +kernel
theorem dX7_amend_30 : decode cX7_amend 30 = .ok (.aload 7, 2) := by decide +kernel
theorem dX7_amend_32 : decode cX7_amend 32 = .ok (.iload 8, 2) := by decide +kernel
theorem dX7_amend_34 : decode cX7_amend 34 = .ok (.invokevirtual 79, 3) := by decide +kernel
theorem dX7_amend_37 : decode cX7_amend 37 = .ok (.ifCond .eq 13, 3) := by decide +kernel
theorem dX7_amend_40 : decode cX7_amend 40 = .ok (.new 83, 3) := by decide +kernel
theorem dX7_amend_43 : decode cX7_amend 43 = .ok (.dup, 1) := by decide +kernel
theorem dX7_amend_44 : decode cX7_amend 44 = .ok (.ldc 102, 2) := by decide +kernel
theorem dX7_amend_46 : decode cX7_amend 46 = .ok (.invokespecial 87, 3) := by decide +kernel
theorem dX7_amend_49 : decode cX7_amend 49 = .ok (.athrow, 1) := by decide +kernel
theorem dX7_amend_50 : decode cX7_amend 50 = .ok (.aload 7, 2) := by decide +kernel
theorem dX7_amend_52 : decode cX7_amend 52 = .ok (.iload 8, 2) := by decide +kernel
theorem dX7_amend_54 : decode cX7_amend 54 = .ok (.iload 4, 2) := by decide +kernel
theorem dX7_amend_56 : decode cX7_amend 56 = .ok (.iload 5, 2) := by decide +kernel
theorem dX7_amend_58 : decode cX7_amend 58 = .ok (.iload 6, 2) := by decide +kernel
theorem dX7_amend_60 : decode cX7_amend 60 = .ok (.invokevirtual 90, 3) := by decide +kernel
theorem dX7_amend_63 : decode cX7_amend 63 = .ok (.aload_n 0, 1) := by decide +kernel
theorem dX7_amend_64 : decode cX7_amend 64 = .ok (.aload 7, 2) := by decide +kernel
theorem dX7_amend_66 : decode cX7_amend 66 = .ok (.invokevirtual 94, 3) := by decide +kernel
theorem dX7_amend_69 : decode cX7_amend 69 = .ok (.ireturn, 1) := by decide +kernel
set_option maxRecDepth 20000 in
theorem ggX7_child_X7_find : GoodIn wsX7_child wsX7_find := goodIn_ca (goodIn_r _ [10, 11, 12, 13, 14, 150, 151, 152, 153, 154, 155, 156, 157, 158, 159, 160] (by decide +kernel) (by decide +kernel)) (goodIn_sub (fun _ h => List.mem_cons_of_mem _ (List.mem_append_left _ (List.mem_append_left _ (List.mem_append_right _ h)))) (by decide +kernel))
set_option maxRecDepth 20000 in
theorem gX7_child_X7_find : GoodIn wsX7_child (wsV RX7 67 RX7 yX7_find wsX7_find) := goodIn_app (goodIn_of _ (by decide +kernel)) ggX7_child_X7_find
set_option maxRecDepth 20000 in
theorem ggX7_child_X7_isWithin : GoodIn wsX7_child wsX7_isWithin := goodIn_r _ [104] (by decide +kernel) (by decide +kernel)
set_option maxRecDepth 20000 in
theorem gX7_child_X7_isWithin : GoodIn wsX7_child (va_wsS RX7 49 yX7_isWithin wsX7_isWithin) := goodIn_app (goodIn_of _ (by decide +kernel)) ggX7_child_X7_isWithin
set_option maxRecDepth 20000 in
theorem ggX7_child_X7_require : GoodIn wsX7_child wsX7_require := goodIn_ca (goodIn_r _ [107, 108, 109] (by decide +kernel) (by decide +kernel)) (goodIn_sub (fun _ h => List.mem_cons_of_mem _ (List.mem_append_left _ (List.mem_append_right _ h))) (by decide +kernel))
set_option maxRecDepth 20000 in
theorem gX7_child_X7_require : GoodIn wsX7_child (va_wsS RX7 53 yX7_require wsX7_require) := goodIn_app (goodIn_of _ (by decide +kernel)) ggX7_child_X7_require
set_option maxRecDepth 20000 in
theorem ggX7_child_X7_requireRoomForMachine : GoodIn wsX7_child wsX7_requireRoomForMachine := goodIn_ca (goodIn_r _ [113, 114, 115, 13, 150, 151, 152, 153, 154, 155, 156, 157, 158, 159, 160] (by decide +kernel) (by decide +kernel)) (goodIn_sub (fun _ h => List.mem_cons_of_mem _ (List.mem_append_right _ h)) (by decide +kernel))
set_option maxRecDepth 20000 in
theorem gX7_child_X7_requireRoomForMachine : GoodIn wsX7_child (wsV RX7 57 RX7 yX7_requireRoomForMachine wsX7_requireRoomForMachine) := goodIn_app (goodIn_of _ (by decide +kernel)) ggX7_child_X7_requireRoomForMachine
set_option maxRecDepth 20000 in
theorem ggX7_child_X3_init : GoodIn wsX7_child wsX3_init := goodIn_r _ [118, 119, 120, 121, 90, 122, 62, 71, 76, 123, 124, 125, 143, 144, 145, 146, 147, 148, 149] (by decide +kernel) (by decide +kernel)
set_option maxRecDepth 20000 in
theorem gX7_child_X3_init : GoodIn wsX7_child (wsX3_init) := ggX7_child_X3_init
set_option maxRecDepth 20000 in
theorem ggX7_child_X7_append : GoodIn wsX7_child wsX7_append := goodIn_r _ [142, 13, 14, 150, 151, 152, 153, 154, 155, 156, 157, 158, 159, 160] (by decide +kernel) (by decide +kernel)
set_option maxRecDepth 20000 in
theorem gX7_child_X7_append : GoodIn wsX7_child (wsV RX7 63 RX7 yX7_append wsX7_append) := goodIn_app (goodIn_of _ (by decide +kernel)) ggX7_child_X7_append
theorem dX7_child_0 : decode cX7_child 0 = .ok (.aload_n 0, 1) := by decide +kernel
theorem dX7_child_1 : decode cX7_child 1 = .ok (.iload_n 1, 1) := by decide +kernel
theorem dX7_child_2 : decode cX7_child 2 = .ok (.invokevirtual 67, 3) := by decide +kernel
theorem dX7_child_5 : decode cX7_child 5 = .ok (.astore_n 3, 1) := by decide +kernel
theorem dX7_child_6 : decode cX7_child 6 = .ok (.iload_n 2, 1) := by decide +kernel
theorem dX7_child_7 : decode cX7_child 7 = .ok (.iconst 0, 1) := by decide +kernel
theorem dX7_child_8 : decode cX7_child 8 = .ok (.aload_n 0, 1) := by decide +kernel
theorem dX7_child_9 : decode cX7_child 9 = .ok (.aload_n 3, 1) := by decide +kernel
theorem dX7_child_10 : decode cX7_child 10 = .ok (.invokevirtual 104, 3) := by decide +kernel
theorem dX7_child_13 : decode cX7_child 13 = .ok (.iconst 1, 1) := by decide +kernel
theorem dX7_child_14 : decode cX7_child 14 = .ok (.isub, 1) := by decide +kernel
theorem dX7_child_15 : decode cX7_child 15 = .ok (.invokestatic 49, 3) := by decide +kernel
theorem dX7_child_18 : decode cX7_child 18 = .ok (.invokestatic 53, 3) := by decide +kernel
theorem dX7_child_21 : decode cX7_child 21 = .ok (.aload_n 0, 1) := by decide +kernel
theorem dX7_child_22 : decode cX7_child 22 = .ok (.invokevirtual 57, 3) := by decide +kernel
theorem dX7_child_25 : decode cX7_child 25 = .ok (.new 9, 3) := by decide +kernel
theorem dX7_child_28 : decode cX7_child 28 = .ok (.dup, 1) := by decide +kernel
theorem dX7_child_29 : decode cX7_child 29 = .ok (.aload_n 3, 1) := by decide +kernel
theorem dX7_child_30 : decode cX7_child 30 = .ok (.getfield 107, 3) := by decide +kernel
theorem dX7_child_33 : decode cX7_child 33 = .ok (.invokespecial 60, 3) := by decide +kernel
theorem dX7_child_36 : decode cX7_child 36 = .ok (.astore 4, 2) := by decide +kernel
theorem dX7_child_38 : decode cX7_child 38 = .ok (.aload 4, 2) := by decide +kernel
theorem dX7_child_40 : decode cX7_child 40 = .ok (.aload_n 3, 1) := by decide +kernel
theorem dX7_child_41 : decode cX7_child 41 = .ok (.invokevirtual 111, 3) := by decide +kernel
theorem dX7_child_44 : decode cX7_child 44 = .ok (.aload 4, 2) := by decide +kernel
theorem dX7_child_46 : decode cX7_child 46 = .ok (.aload_n 0, 1) := by decide +kernel
theorem dX7_child_47 : decode cX7_child 47 = .ok (.getfield 24, 3) := by decide +kernel
theorem dX7_child_50 : decode cX7_child 50 = .ok (.invokevirtual 115, 3) := by decide +kernel
theorem dX7_child_53 : decode cX7_child 53 = .ok (.iload_n 2, 1) := by decide +kernel
theorem dX7_child_54 : decode cX7_child 54 = .ok (.invokevirtual 118, 3) := by decide +kernel
theorem dX7_child_57 : decode cX7_child 57 = .ok (.aload_n 0, 1) := by decide +kernel
theorem dX7_child_58 : decode cX7_child 58 = .ok (.aload 4, 2) := by decide +kernel
theorem dX7_child_60 : decode cX7_child 60 = .ok (.invokevirtual 63, 3) := by decide +kernel
theorem dX7_child_63 : decode cX7_child 63 = .ok (.ireturn, 1) := by decide +kernel
set_option maxRecDepth 20000 in
theorem ggX7_tag_X7_isWithin : GoodIn wsX7_tag wsX7_isWithin := goodIn_r _ [11] (by decide +kernel) (by decide +kernel)
set_option maxRecDepth 20000 in
theorem gX7_tag_X7_isWithin : GoodIn wsX7_tag (va_wsS RX7 49 yX7_isWithin wsX7_isWithin) := goodIn_app (goodIn_of _ (by decide +kernel)) ggX7_tag_X7_isWithin
set_option maxRecDepth 20000 in
theorem ggX7_tag_X7_require : GoodIn wsX7_tag wsX7_require := goodIn_ca (goodIn_r _ [14, 15, 16] (by decide +kernel) (by decide +kernel)) (goodIn_sub (fun _ h => List.mem_cons_of_mem _ (List.mem_append_right _ h)) (by decide +kernel))
set_option maxRecDepth 20000 in
theorem gX7_tag_X7_require : GoodIn wsX7_tag (va_wsS RX7 53 yX7_require wsX7_require) := goodIn_app (goodIn_of _ (by decide +kernel)) ggX7_tag_X7_require
set_option maxRecDepth 20000 in
theorem ggX7_tag_X5_init : GoodIn wsX7_tag wsX5_init := goodIn_r _ [19, 20, 21, 22, 23, 24, 25, 37, 38, 39] (by decide +kernel) (by decide +kernel)
set_option maxRecDepth 20000 in
theorem gX7_tag_X5_init : GoodIn wsX7_tag (wsX5_init) := ggX7_tag_X5_init
theorem dX7_tag_0 : decode cX7_tag 0 = .ok (.iload_n 1, 1) := by decide +kernel
theorem dX7_tag_1 : decode cX7_tag 1 = .ok (.iconst 1, 1) := by decide +kernel
theorem dX7_tag_2 : decode cX7_tag 2 = .ok (.iconst 3, 1) := by decide +kernel
theorem dX7_tag_3 : decode cX7_tag 3 = .ok (.invokestatic 49, 3) := by decide +kernel
theorem dX7_tag_6 : decode cX7_tag 6 = .ok (.invokestatic 53, 3) := by decide +kernel
theorem dX7_tag_9 : decode cX7_tag 9 = .ok (.iload_n 2, 1) := by decide +kernel
theorem dX7_tag_10 : decode cX7_tag 10 = .ok (.iconst 1, 1) := by decide +kernel
theorem dX7_tag_11 : decode cX7_tag 11 = .ok (.bipush 63, 2) := by decide +kernel
theorem dX7_tag_13 : decode cX7_tag 13 = .ok (.invokestatic 49, 3) := by decide +kernel
theorem dX7_tag_16 : decode cX7_tag 16 = .ok (.ifCond .eq 17, 3) := by decide +kernel
theorem dX7_tag_19 : decode cX7_tag 19 = .ok (.iload_n 3, 1) := by decide +kernel
theorem dX7_tag_20 : decode cX7_tag 20 = .ok (.iconst 1, 1) := by decide +kernel
theorem dX7_tag_21 : decode cX7_tag 21 = .ok (.bipush 63, 2) := by decide +kernel
theorem dX7_tag_23 : decode cX7_tag 23 = .ok (.invokestatic 49, 3) := by decide +kernel
theorem dX7_tag_26 : decode cX7_tag 26 = .ok (.ifCond .eq 7, 3) := by decide +kernel
theorem dX7_tag_29 : decode cX7_tag 29 = .ok (.iconst 1, 1) := by decide +kernel
theorem dX7_tag_30 : decode cX7_tag 30 = .ok (.goto 4, 3) := by decide +kernel
theorem dX7_tag_33 : decode cX7_tag 33 = .ok (.iconst 0, 1) := by decide +kernel
theorem dX7_tag_34 : decode cX7_tag 34 = .ok (.invokestatic 53, 3) := by decide +kernel
theorem dX7_tag_37 : decode cX7_tag 37 = .ok (.aload_n 0, 1) := by decide +kernel
theorem dX7_tag_38 : decode cX7_tag 38 = .ok (.getfield 122, 3) := by decide +kernel
theorem dX7_tag_41 : decode cX7_tag 41 = .ok (.ifCond .lt 11, 3) := by decide +kernel
theorem dX7_tag_44 : decode cX7_tag 44 = .ok (.aload_n 0, 1) := by decide +kernel
theorem dX7_tag_45 : decode cX7_tag 45 = .ok (.getfield 122, 3) := by decide +kernel
theorem dX7_tag_48 : decode cX7_tag 48 = .ok (.iconst 4, 1) := by decide +kernel
theorem dX7_tag_49 : decode cX7_tag 49 = .ok (.if_icmp .lt 13, 3) := by decide +kernel
theorem dX7_tag_52 : decode cX7_tag 52 = .ok (.new 83, 3) := by decide +kernel
theorem dX7_tag_55 : decode cX7_tag 55 = .ok (.dup, 1) := by decide +kernel
theorem dX7_tag_56 : decode cX7_tag 56 = .ok (.ldc 125, 2) := by decide +kernel
theorem dX7_tag_58 : decode cX7_tag 58 = .ok (.invokespecial 87, 3) := by decide +kernel
theorem dX7_tag_61 : decode cX7_tag 61 = .ok (.athrow, 1) := by decide +kernel
theorem dX7_tag_62 : decode cX7_tag 62 = .ok (.aload_n 0, 1) := by decide +kernel
theorem dX7_tag_63 : decode cX7_tag 63 = .ok (.getfield 17, 3) := by decide +kernel
theorem dX7_tag_66 : decode cX7_tag 66 = .ok (.aload_n 0, 1) := by decide +kernel
theorem dX7_tag_67 : decode cX7_tag 67 = .ok (.getfield 122, 3) := by decide +kernel
theorem dX7_tag_70 : decode cX7_tag 70 = .ok (.new 15, 3) := by decide +kernel
theorem dX7_tag_73 : decode cX7_tag 73 = .ok (.dup, 1) := by decide +kernel
theorem dX7_tag_74 : decode cX7_tag 74 = .ok (.iload_n 1, 1) := by decide +kernel
theorem dX7_tag_75 : decode cX7_tag 75 = .ok (.iload_n 2, 1) := by decide +kernel
theorem dX7_tag_76 : decode cX7_tag 76 = .ok (.iload_n 3, 1) := by decide +kernel
theorem dX7_tag_77 : decode cX7_tag 77 = .ok (.invokespecial 127, 3) := by decide +kernel
theorem dX7_tag_80 : decode cX7_tag 80 = .ok (.aastore, 1) := by decide +kernel
theorem dX7_tag_81 : decode cX7_tag 81 = .ok (.aload_n 0, 1) := by decide +kernel
theorem dX7_tag_82 : decode cX7_tag 82 = .ok (.dup, 1) := by decide +kernel
theorem dX7_tag_83 : decode cX7_tag 83 = .ok (.getfield 122, 3) := by decide +kernel
theorem dX7_tag_86 : decode cX7_tag 86 = .ok (.iconst 1, 1) := by decide +kernel
theorem dX7_tag_87 : decode cX7_tag 87 = .ok (.iadd, 1) := by decide +kernel
theorem dX7_tag_88 : decode cX7_tag 88 = .ok (.putfield 122, 3) := by decide +kernel
theorem dX7_tag_91 : decode cX7_tag 91 = .ok (.aload_n 0, 1) := by decide +kernel
theorem dX7_tag_92 : decode cX7_tag 92 = .ok (.getfield 122, 3) := by decide +kernel
theorem dX7_tag_95 : decode cX7_tag 95 = .ok (.iconst 1, 1) := by decide +kernel
theorem dX7_tag_96 : decode cX7_tag 96 = .ok (.isub, 1) := by decide +kernel
theorem dX7_tag_97 : decode cX7_tag 97 = .ok (.ireturn, 1) := by decide +kernel
set_option maxRecDepth 20000 in
theorem ggX7_prove_X7_find : GoodIn wsX7_prove wsX7_find := goodIn_ca (goodIn_r _ [7, 8, 9, 10, 11, 234, 235, 236, 237, 238, 239, 240, 241, 242, 243, 244] (by decide +kernel) (by decide +kernel)) (goodIn_sub (fun _ h => List.mem_cons_of_mem _ (List.mem_append_left _ (List.mem_append_left _ (List.mem_append_right _ h)))) (by decide +kernel))
set_option maxRecDepth 20000 in
theorem gX7_prove_X7_find : GoodIn wsX7_prove (wsV RX7 67 RX7 yX7_find wsX7_find) := goodIn_app (goodIn_of _ (by decide +kernel)) ggX7_prove_X7_find
set_option maxRecDepth 20000 in
theorem ggX7_prove_X7_require : GoodIn wsX7_prove wsX7_require := goodIn_ca (goodIn_r _ [20, 21, 22] (by decide +kernel) (by decide +kernel)) (goodIn_sub (fun _ h => List.mem_cons_of_mem _ (List.mem_append_left _ (List.mem_append_right _ h))) (by decide +kernel))
set_option maxRecDepth 20000 in
theorem gX7_prove_X7_require : GoodIn wsX7_prove (va_wsS RX7 53 yX7_require wsX7_require) := goodIn_app (goodIn_of _ (by decide +kernel)) ggX7_prove_X7_require
theorem dX7_prove_0 : decode cX7_prove 0 = .ok (.aload_n 0, 1) := by decide +kernel
theorem dX7_prove_1 : decode cX7_prove 1 = .ok (.iload_n 1, 1) := by decide +kernel
theorem dX7_prove_2 : decode cX7_prove 2 = .ok (.invokevirtual 67, 3) := by decide +kernel
theorem dX7_prove_5 : decode cX7_prove 5 = .ok (.astore 5, 2) := by decide +kernel
theorem dX7_prove_7 : decode cX7_prove 7 = .ok (.iload_n 2, 1) := by decide +kernel
theorem dX7_prove_8 : decode cX7_prove 8 = .ok (.iload_n 3, 1) := by decide +kernel
theorem dX7_prove_9 : decode cX7_prove 9 = .ok (.iload 4, 2) := by decide +kernel
theorem dX7_prove_11 : decode cX7_prove 11 = .ok (.invokestatic 130, 3) := by decide +kernel
theorem dX7_prove_14 : decode cX7_prove 14 = .ok (.invokestatic 53, 3) := by decide +kernel
theorem dX7_prove_17 : decode cX7_prove 17 = .ok (.aload 5, 2) := by decide +kernel
theorem dX7_prove_19 : decode cX7_prove 19 = .ok (.invokestatic 133, 3) := by decide +kernel
theorem dX7_prove_22 : decode cX7_prove 22 = .ok (.aload_n 0, 1) := by decide +kernel
theorem dX7_prove_23 : decode cX7_prove 23 = .ok (.dup, 1) := by decide +kernel
theorem dX7_prove_24 : decode cX7_prove 24 = .ok (.getfield 136, 3) := by decide +kernel
theorem dX7_prove_27 : decode cX7_prove 27 = .ok (.iconst 1, 1) := by decide +kernel
theorem dX7_prove_28 : decode cX7_prove 28 = .ok (.iadd, 1) := by decide +kernel
theorem dX7_prove_29 : decode cX7_prove 29 = .ok (.putfield 136, 3) := by decide +kernel
theorem dX7_prove_32 : decode cX7_prove 32 = .ok (.aload_n 0, 1) := by decide +kernel
theorem dX7_prove_33 : decode cX7_prove 33 = .ok (.aload 5, 2) := by decide +kernel
theorem dX7_prove_35 : decode cX7_prove 35 = .ok (.iload_n 2, 1) := by decide +kernel
theorem dX7_prove_36 : decode cX7_prove 36 = .ok (.iload_n 3, 1) := by decide +kernel
theorem dX7_prove_37 : decode cX7_prove 37 = .ok (.iload 4, 2) := by decide +kernel
theorem dX7_prove_39 : decode cX7_prove 39 = .ok (.invokevirtual 139, 3) := by decide +kernel
theorem dX7_prove_42 : decode cX7_prove 42 = .ok (.ifCond .ne 5, 3) := by decide +kernel
theorem dX7_prove_45 : decode cX7_prove 45 = .ok (.iconst 0, 1) := by decide +kernel
theorem dX7_prove_46 : decode cX7_prove 46 = .ok (.ireturn, 1) := by decide +kernel
theorem dX7_prove_47 : decode cX7_prove 47 = .ok (.aload_n 0, 1) := by decide +kernel
theorem dX7_prove_48 : decode cX7_prove 48 = .ok (.dup, 1) := by decide +kernel
theorem dX7_prove_49 : decode cX7_prove 49 = .ok (.getfield 142, 3) := by decide +kernel
theorem dX7_prove_52 : decode cX7_prove 52 = .ok (.iconst 1, 1) := by decide +kernel
theorem dX7_prove_53 : decode cX7_prove 53 = .ok (.iadd, 1) := by decide +kernel
theorem dX7_prove_54 : decode cX7_prove 54 = .ok (.putfield 142, 3) := by decide +kernel
theorem dX7_prove_57 : decode cX7_prove 57 = .ok (.aload 5, 2) := by decide +kernel
theorem dX7_prove_59 : decode cX7_prove 59 = .ok (.iload_n 2, 1) := by decide +kernel
theorem dX7_prove_60 : decode cX7_prove 60 = .ok (.iload_n 3, 1) := by decide +kernel
theorem dX7_prove_61 : decode cX7_prove 61 = .ok (.iload 4, 2) := by decide +kernel
theorem dX7_prove_63 : decode cX7_prove 63 = .ok (.invokevirtual 145, 3) := by decide +kernel
theorem dX7_prove_66 : decode cX7_prove 66 = .ok (.iconst 1, 1) := by decide +kernel
theorem dX7_prove_67 : decode cX7_prove 67 = .ok (.ireturn, 1) := by decide +kernel
set_option maxRecDepth 20000 in
theorem ggX7_doubt_X7_isWithin : GoodIn wsX7_doubt wsX7_isWithin := goodIn_r _ [6] (by decide +kernel) (by decide +kernel)
set_option maxRecDepth 20000 in
theorem gX7_doubt_X7_isWithin : GoodIn wsX7_doubt (va_wsS RX7 49 yX7_isWithin wsX7_isWithin) := goodIn_app (goodIn_of _ (by decide +kernel)) ggX7_doubt_X7_isWithin
set_option maxRecDepth 20000 in
theorem ggX7_doubt_X7_require : GoodIn wsX7_doubt wsX7_require := goodIn_ca (goodIn_r _ [9, 10, 11] (by decide +kernel) (by decide +kernel)) (goodIn_sub (fun _ h => List.mem_cons_of_mem _ (List.mem_append_left _ (List.mem_append_right _ h))) (by decide +kernel))
set_option maxRecDepth 20000 in
theorem gX7_doubt_X7_require : GoodIn wsX7_doubt (va_wsS RX7 53 yX7_require wsX7_require) := goodIn_app (goodIn_of _ (by decide +kernel)) ggX7_doubt_X7_require
set_option maxRecDepth 20000 in
theorem ggX7_doubt_X7_find : GoodIn wsX7_doubt wsX7_find := goodIn_ca (goodIn_r _ [15, 16, 17, 1, 18, 32, 33, 34, 35, 36, 37, 38, 39, 40, 41, 42] (by decide +kernel) (by decide +kernel)) (goodIn_sub (fun _ h => List.mem_cons_of_mem _ (List.mem_append_right _ h)) (by decide +kernel))
set_option maxRecDepth 20000 in
theorem gX7_doubt_X7_find : GoodIn wsX7_doubt (wsV RX7 67 RX7 yX7_find wsX7_find) := goodIn_app (goodIn_of _ (by decide +kernel)) ggX7_doubt_X7_find
theorem dX7_doubt_0 : decode cX7_doubt 0 = .ok (.iload_n 1, 1) := by decide +kernel
theorem dX7_doubt_1 : decode cX7_doubt 1 = .ok (.iconst 0, 1) := by decide +kernel
theorem dX7_doubt_2 : decode cX7_doubt 2 = .ok (.iconst 3, 1) := by decide +kernel
theorem dX7_doubt_3 : decode cX7_doubt 3 = .ok (.invokestatic 49, 3) := by decide +kernel
theorem dX7_doubt_6 : decode cX7_doubt 6 = .ok (.invokestatic 53, 3) := by decide +kernel
theorem dX7_doubt_9 : decode cX7_doubt 9 = .ok (.iconst 0, 1) := by decide +kernel
theorem dX7_doubt_10 : decode cX7_doubt 10 = .ok (.istore_n 2, 1) := by decide +kernel
theorem dX7_doubt_11 : decode cX7_doubt 11 = .ok (.iconst 0, 1) := by decide +kernel
theorem dX7_doubt_12 : decode cX7_doubt 12 = .ok (.istore_n 3, 1) := by decide +kernel
theorem dX7_doubt_13 : decode cX7_doubt 13 = .ok (.iload_n 3, 1) := by decide +kernel
theorem dX7_doubt_14 : decode cX7_doubt 14 = .ok (.aload_n 0, 1) := by decide +kernel
theorem dX7_doubt_15 : decode cX7_doubt 15 = .ok (.getfield 148, 3) := by decide +kernel
theorem dX7_doubt_18 : decode cX7_doubt 18 = .ok (.if_icmp .ge 35, 3) := by decide +kernel
theorem dX7_doubt_21 : decode cX7_doubt 21 = .ok (.aload_n 0, 1) := by decide +kernel
theorem dX7_doubt_22 : decode cX7_doubt 22 = .ok (.iload_n 3, 1) := by decide +kernel
theorem dX7_doubt_23 : decode cX7_doubt 23 = .ok (.invokevirtual 67, 3) := by decide +kernel
theorem dX7_doubt_26 : decode cX7_doubt 26 = .ok (.astore 4, 2) := by decide +kernel
theorem dX7_doubt_28 : decode cX7_doubt 28 = .ok (.aload 4, 2) := by decide +kernel
theorem dX7_doubt_30 : decode cX7_doubt 30 = .ok (.getfield 151, 3) := by decide +kernel
theorem dX7_doubt_33 : decode cX7_doubt 33 = .ok (.iload_n 1, 1) := by decide +kernel
theorem dX7_doubt_34 : decode cX7_doubt 34 = .ok (.if_icmp .ne 13, 3) := by decide +kernel
theorem dX7_doubt_37 : decode cX7_doubt 37 = .ok (.aload_n 0, 1) := by decide +kernel
theorem dX7_doubt_38 : decode cX7_doubt 38 = .ok (.aload 4, 2) := by decide +kernel
theorem dX7_doubt_40 : decode cX7_doubt 40 = .ok (.invokevirtual 94, 3) := by decide +kernel
theorem dX7_doubt_43 : decode cX7_doubt 43 = .ok (.pop, 1) := by decide +kernel
theorem dX7_doubt_44 : decode cX7_doubt 44 = .ok (.iinc 2 1, 3) := by decide +kernel
theorem dX7_doubt_47 : decode cX7_doubt 47 = .ok (.iinc 3 1, 3) := by decide +kernel
theorem dX7_doubt_50 : decode cX7_doubt 50 = .ok (.goto (-37), 3) := by decide +kernel
theorem dX7_doubt_53 : decode cX7_doubt 53 = .ok (.iload_n 2, 1) := by decide +kernel
theorem dX7_doubt_54 : decode cX7_doubt 54 = .ok (.ireturn, 1) := by decide +kernel
set_option maxRecDepth 20000 in
theorem ggX7_decide_X7_find : GoodIn wsX7_decide wsX7_find := goodIn_ca (goodIn_r _ [9, 10, 11, 12, 13, 224, 225, 226, 227, 228, 229, 230, 231, 232, 233, 234] (by decide +kernel) (by decide +kernel)) (goodIn_sub (fun _ h => List.mem_cons_of_mem _ (List.mem_append_left _ (List.mem_append_right _ h))) (by decide +kernel))
set_option maxRecDepth 20000 in
theorem gX7_decide_X7_find : GoodIn wsX7_decide (wsV RX7 67 RX7 yX7_find wsX7_find) := goodIn_app (goodIn_of _ (by decide +kernel)) ggX7_decide_X7_find
theorem dX7_decide_0 : decode cX7_decide 0 = .ok (.aload_n 0, 1) := by decide +kernel
theorem dX7_decide_1 : decode cX7_decide 1 = .ok (.iload_n 1, 1) := by decide +kernel
theorem dX7_decide_2 : decode cX7_decide 2 = .ok (.invokevirtual 67, 3) := by decide +kernel
theorem dX7_decide_5 : decode cX7_decide 5 = .ok (.astore_n 2, 1) := by decide +kernel
theorem dX7_decide_6 : decode cX7_decide 6 = .ok (.aload_n 2, 1) := by decide +kernel
theorem dX7_decide_7 : decode cX7_decide 7 = .ok (.invokestatic 133, 3) := by decide +kernel
theorem dX7_decide_10 : decode cX7_decide 10 = .ok (.aload_n 0, 1) := by decide +kernel
theorem dX7_decide_11 : decode cX7_decide 11 = .ok (.getfield 24, 3) := by decide +kernel
theorem dX7_decide_14 : decode cX7_decide 14 = .ok (.aload_n 2, 1) := by decide +kernel
theorem dX7_decide_15 : decode cX7_decide 15 = .ok (.sipush 500, 3) := by decide +kernel
theorem dX7_decide_18 : decode cX7_decide 18 = .ok (.invokevirtual 154, 3) := by decide +kernel
theorem dX7_decide_21 : decode cX7_decide 21 = .ok (.aload_n 0, 1) := by decide +kernel
theorem dX7_decide_22 : decode cX7_decide 22 = .ok (.getfield 24, 3) := by decide +kernel
theorem dX7_decide_25 : decode cX7_decide 25 = .ok (.aload_n 2, 1) := by decide +kernel
theorem dX7_decide_26 : decode cX7_decide 26 = .ok (.invokevirtual 158, 3) := by decide +kernel
theorem dX7_decide_29 : decode cX7_decide 29 = .ok (.ifCond .eq 17, 3) := by decide +kernel
theorem dX7_decide_32 : decode cX7_decide 32 = .ok (.aload_n 2, 1) := by decide +kernel
theorem dX7_decide_33 : decode cX7_decide 33 = .ok (.iconst 0, 1) := by decide +kernel
theorem dX7_decide_34 : decode cX7_decide 34 = .ok (.aload_n 0, 1) := by decide +kernel
theorem dX7_decide_35 : decode cX7_decide 35 = .ok (.getfield 24, 3) := by decide +kernel
theorem dX7_decide_38 : decode cX7_decide 38 = .ok (.getfield 161, 3) := by decide +kernel
theorem dX7_decide_41 : decode cX7_decide 41 = .ok (.iconst 0, 1) := by decide +kernel
theorem dX7_decide_42 : decode cX7_decide 42 = .ok (.invokestatic 164, 3) := by decide +kernel
theorem dX7_decide_45 : decode cX7_decide 45 = .ok (.ireturn, 1) := by decide +kernel
theorem dX7_decide_46 : decode cX7_decide 46 = .ok (.aload_n 0, 1) := by decide +kernel
theorem dX7_decide_47 : decode cX7_decide 47 = .ok (.getfield 31, 3) := by decide +kernel
theorem dX7_decide_50 : decode cX7_decide 50 = .ok (.aload_n 2, 1) := by decide +kernel
theorem dX7_decide_51 : decode cX7_decide 51 = .ok (.bipush 30, 2) := by decide +kernel
theorem dX7_decide_53 : decode cX7_decide 53 = .ok (.invokevirtual 168, 3) := by decide +kernel
theorem dX7_decide_56 : decode cX7_decide 56 = .ok (.istore_n 3, 1) := by decide +kernel
theorem dX7_decide_57 : decode cX7_decide 57 = .ok (.iload_n 3, 1) := by decide +kernel
theorem dX7_decide_58 : decode cX7_decide 58 = .ok (.iconst (-1), 1) := by decide +kernel
theorem dX7_decide_59 : decode cX7_decide 59 = .ok (.if_icmp .eq 19, 3) := by decide +kernel
theorem dX7_decide_62 : decode cX7_decide 62 = .ok (.aload_n 2, 1) := by decide +kernel
theorem dX7_decide_63 : decode cX7_decide 63 = .ok (.iconst 1, 1) := by decide +kernel
theorem dX7_decide_64 : decode cX7_decide 64 = .ok (.iload_n 3, 1) := by decide +kernel
theorem dX7_decide_65 : decode cX7_decide 65 = .ok (.sipush 200, 3) := by decide +kernel
theorem dX7_decide_68 : decode cX7_decide 68 = .ok (.idiv, 1) := by decide +kernel
theorem dX7_decide_69 : decode cX7_decide 69 = .ok (.iload_n 3, 1) := by decide +kernel
theorem dX7_decide_70 : decode cX7_decide 70 = .ok (.sipush 200, 3) := by decide +kernel
theorem dX7_decide_73 : decode cX7_decide 73 = .ok (.irem, 1) := by decide +kernel
theorem dX7_decide_74 : decode cX7_decide 74 = .ok (.invokestatic 164, 3) := by decide +kernel
theorem dX7_decide_77 : decode cX7_decide 77 = .ok (.ireturn, 1) := by decide +kernel
theorem dX7_decide_78 : decode cX7_decide 78 = .ok (.aload_n 0, 1) := by decide +kernel
theorem dX7_decide_79 : decode cX7_decide 79 = .ok (.aload_n 2, 1) := by decide +kernel
theorem dX7_decide_80 : decode cX7_decide 80 = .ok (.invokevirtual 172, 3) := by decide +kernel
theorem dX7_decide_83 : decode cX7_decide 83 = .ok (.istore 4, 2) := by decide +kernel
theorem dX7_decide_85 : decode cX7_decide 85 = .ok (.iload 4, 2) := by decide +kernel
theorem dX7_decide_87 : decode cX7_decide 87 = .ok (.iconst (-1), 1) := by decide +kernel
theorem dX7_decide_88 : decode cX7_decide 88 = .ok (.if_icmp .eq 12, 3) := by decide +kernel
theorem dX7_decide_91 : decode cX7_decide 91 = .ok (.aload_n 2, 1) := by decide +kernel
theorem dX7_decide_92 : decode cX7_decide 92 = .ok (.iconst 2, 1) := by decide +kernel
theorem dX7_decide_93 : decode cX7_decide 93 = .ok (.iload 4, 2) := by decide +kernel
theorem dX7_decide_95 : decode cX7_decide 95 = .ok (.iconst 0, 1) := by decide +kernel
theorem dX7_decide_96 : decode cX7_decide 96 = .ok (.invokestatic 164, 3) := by decide +kernel
theorem dX7_decide_99 : decode cX7_decide 99 = .ok (.ireturn, 1) := by decide +kernel
theorem dX7_decide_100 : decode cX7_decide 100 = .ok (.aload_n 0, 1) := by decide +kernel
theorem dX7_decide_101 : decode cX7_decide 101 = .ok (.getfield 45, 3) := by decide +kernel
theorem dX7_decide_104 : decode cX7_decide 104 = .ok (.aload_n 2, 1) := by decide +kernel
theorem dX7_decide_105 : decode cX7_decide 105 = .ok (.invokevirtual 175, 3) := by decide +kernel
theorem dX7_decide_108 : decode cX7_decide 108 = .ok (.istore 5, 2) := by decide +kernel
theorem dX7_decide_110 : decode cX7_decide 110 = .ok (.iload 5, 2) := by decide +kernel
theorem dX7_decide_112 : decode cX7_decide 112 = .ok (.iconst (-1), 1) := by decide +kernel
theorem dX7_decide_113 : decode cX7_decide 113 = .ok (.if_icmp .eq 12, 3) := by decide +kernel
theorem dX7_decide_116 : decode cX7_decide 116 = .ok (.aload_n 2, 1) := by decide +kernel
theorem dX7_decide_117 : decode cX7_decide 117 = .ok (.iconst 3, 1) := by decide +kernel
theorem dX7_decide_118 : decode cX7_decide 118 = .ok (.iload 5, 2) := by decide +kernel
theorem dX7_decide_120 : decode cX7_decide 120 = .ok (.iconst 0, 1) := by decide +kernel
theorem dX7_decide_121 : decode cX7_decide 121 = .ok (.invokestatic 164, 3) := by decide +kernel
theorem dX7_decide_124 : decode cX7_decide 124 = .ok (.ireturn, 1) := by decide +kernel
theorem dX7_decide_125 : decode cX7_decide 125 = .ok (.iconst (-1), 1) := by decide +kernel
theorem dX7_decide_126 : decode cX7_decide 126 = .ok (.ireturn, 1) := by decide +kernel
set_option maxRecDepth 20000 in
theorem ggX7_cell_X7_find : GoodIn wsX7_cell wsX7_find := goodIn_ca (goodIn_r _ [9, 10, 11, 12, 13, 46, 47, 48, 49, 50, 51, 52, 53, 54, 55, 56] (by decide +kernel) (by decide +kernel)) (goodIn_sub (fun _ h => List.mem_cons_of_mem _ (List.mem_append_left _ (List.mem_append_right _ h))) (by decide +kernel))
set_option maxRecDepth 20000 in
theorem gX7_cell_X7_find : GoodIn wsX7_cell (wsV RX7 67 RX7 yX7_find wsX7_find) := goodIn_app (goodIn_of _ (by decide +kernel)) ggX7_cell_X7_find
set_option maxRecDepth 20000 in
theorem ggX7_cell_X7_isWithin : GoodIn wsX7_cell wsX7_isWithin := goodIn_r _ [20] (by decide +kernel) (by decide +kernel)
set_option maxRecDepth 20000 in
theorem gX7_cell_X7_isWithin : GoodIn wsX7_cell (va_wsS RX7 49 yX7_isWithin wsX7_isWithin) := goodIn_app (goodIn_of _ (by decide +kernel)) ggX7_cell_X7_isWithin
set_option maxRecDepth 20000 in
theorem ggX7_cell_X7_require : GoodIn wsX7_cell wsX7_require := goodIn_ca (goodIn_r _ [23, 24, 25] (by decide +kernel) (by decide +kernel)) (goodIn_sub (fun _ h => List.mem_cons_of_mem _ (List.mem_append_right _ h)) (by decide +kernel))
set_option maxRecDepth 20000 in
theorem gX7_cell_X7_require : GoodIn wsX7_cell (va_wsS RX7 53 yX7_require wsX7_require) := goodIn_app (goodIn_of _ (by decide +kernel)) ggX7_cell_X7_require
theorem dX7_cell_0 : decode cX7_cell 0 = .ok (.aload_n 0, 1) := by decide +kernel
theorem dX7_cell_1 : decode cX7_cell 1 = .ok (.iload_n 1, 1) := by decide +kernel
theorem dX7_cell_2 : decode cX7_cell 2 = .ok (.invokevirtual 67, 3) := by decide +kernel
theorem dX7_cell_5 : decode cX7_cell 5 = .ok (.astore 5, 2) := by decide +kernel
theorem dX7_cell_7 : decode cX7_cell 7 = .ok (.aload 5, 2) := by decide +kernel
theorem dX7_cell_9 : decode cX7_cell 9 = .ok (.iload_n 2, 1) := by decide +kernel
theorem dX7_cell_10 : decode cX7_cell 10 = .ok (.iload_n 3, 1) := by decide +kernel
theorem dX7_cell_11 : decode cX7_cell 11 = .ok (.invokestatic 71, 3) := by decide +kernel
theorem dX7_cell_14 : decode cX7_cell 14 = .ok (.istore 6, 2) := by decide +kernel
theorem dX7_cell_16 : decode cX7_cell 16 = .ok (.iload 4, 2) := by decide +kernel
theorem dX7_cell_18 : decode cX7_cell 18 = .ok (.iconst 0, 1) := by decide +kernel
theorem dX7_cell_19 : decode cX7_cell 19 = .ok (.iconst 2, 1) := by decide +kernel
theorem dX7_cell_20 : decode cX7_cell 20 = .ok (.invokestatic 49, 3) := by decide +kernel
theorem dX7_cell_23 : decode cX7_cell 23 = .ok (.invokestatic 53, 3) := by decide +kernel
theorem dX7_cell_26 : decode cX7_cell 26 = .ok (.aload 5, 2) := by decide +kernel
theorem dX7_cell_28 : decode cX7_cell 28 = .ok (.iload 6, 2) := by decide +kernel
theorem dX7_cell_30 : decode cX7_cell 30 = .ok (.invokevirtual 79, 3) := by decide +kernel
theorem dX7_cell_33 : decode cX7_cell 33 = .ok (.ifCond .eq 5, 3) := by decide +kernel
theorem dX7_cell_36 : decode cX7_cell 36 = .ok (.iconst (-1), 1) := by decide +kernel
theorem dX7_cell_37 : decode cX7_cell 37 = .ok (.ireturn, 1) := by decide +kernel
theorem dX7_cell_38 : decode cX7_cell 38 = .ok (.iload 4, 2) := by decide +kernel
theorem dX7_cell_40 : decode cX7_cell 40 = .ok (.lookupswitch 48 #[(0, 28), (1, 36)], 28) := by decide +kernel
theorem dX7_cell_68 : decode cX7_cell 68 = .ok (.aload 5, 2) := by decide +kernel
theorem dX7_cell_70 : decode cX7_cell 70 = .ok (.iload 6, 2) := by decide +kernel
theorem dX7_cell_72 : decode cX7_cell 72 = .ok (.invokevirtual 178, 3) := by decide +kernel
theorem dX7_cell_75 : decode cX7_cell 75 = .ok (.ireturn, 1) := by decide +kernel
theorem dX7_cell_76 : decode cX7_cell 76 = .ok (.aload 5, 2) := by decide +kernel
theorem dX7_cell_78 : decode cX7_cell 78 = .ok (.iload 6, 2) := by decide +kernel
theorem dX7_cell_80 : decode cX7_cell 80 = .ok (.invokevirtual 182, 3) := by decide +kernel
theorem dX7_cell_83 : decode cX7_cell 83 = .ok (.iconst 0, 1) := by decide +kernel
theorem dX7_cell_84 : decode cX7_cell 84 = .ok (.invokestatic 185, 3) := by decide +kernel
theorem dX7_cell_87 : decode cX7_cell 87 = .ok (.ireturn, 1) := by decide +kernel
theorem dX7_cell_88 : decode cX7_cell 88 = .ok (.aload 5, 2) := by decide +kernel
theorem dX7_cell_90 : decode cX7_cell 90 = .ok (.iload 6, 2) := by decide +kernel
theorem dX7_cell_92 : decode cX7_cell 92 = .ok (.invokevirtual 191, 3) := by decide +kernel
theorem dX7_cell_95 : decode cX7_cell 95 = .ok (.ireturn, 1) := by decide +kernel
set_option maxRecDepth 20000 in
theorem ggX7_ofMachine_X7_find : GoodIn wsX7_ofMachine wsX7_find := goodIn_ca (goodIn_r _ [9, 10, 11, 12, 13, 136, 137, 138, 139, 140, 141, 142, 143, 144, 145, 146] (by decide +kernel) (by decide +kernel)) (goodIn_sub (fun _ h => List.mem_cons_of_mem _ (List.mem_append_left _ (List.mem_append_right _ h))) (by decide +kernel))
set_option maxRecDepth 20000 in
theorem gX7_ofMachine_X7_find : GoodIn wsX7_ofMachine (wsV RX7 67 RX7 yX7_find wsX7_find) := goodIn_app (goodIn_of _ (by decide +kernel)) ggX7_ofMachine_X7_find
set_option maxRecDepth 20000 in
theorem ggX7_ofMachine_X7_isWithin : GoodIn wsX7_ofMachine wsX7_isWithin := goodIn_r _ [16] (by decide +kernel) (by decide +kernel)
set_option maxRecDepth 20000 in
theorem gX7_ofMachine_X7_isWithin : GoodIn wsX7_ofMachine (va_wsS RX7 49 yX7_isWithin wsX7_isWithin) := goodIn_app (goodIn_of _ (by decide +kernel)) ggX7_ofMachine_X7_isWithin
set_option maxRecDepth 20000 in
theorem ggX7_ofMachine_X7_require : GoodIn wsX7_ofMachine wsX7_require := goodIn_ca (goodIn_r _ [19, 20, 21] (by decide +kernel) (by decide +kernel)) (goodIn_sub (fun _ h => List.mem_cons_of_mem _ (List.mem_append_right _ h)) (by decide +kernel))
set_option maxRecDepth 20000 in
theorem gX7_ofMachine_X7_require : GoodIn wsX7_ofMachine (va_wsS RX7 53 yX7_require wsX7_require) := goodIn_app (goodIn_of _ (by decide +kernel)) ggX7_ofMachine_X7_require
theorem dX7_ofMachine_0 : decode cX7_ofMachine 0 = .ok (.aload_n 0, 1) := by decide +kernel
theorem dX7_ofMachine_1 : decode cX7_ofMachine 1 = .ok (.iload_n 1, 1) := by decide +kernel
theorem dX7_ofMachine_2 : decode cX7_ofMachine 2 = .ok (.invokevirtual 67, 3) := by decide +kernel
theorem dX7_ofMachine_5 : decode cX7_ofMachine 5 = .ok (.astore_n 3, 1) := by decide +kernel
theorem dX7_ofMachine_6 : decode cX7_ofMachine 6 = .ok (.iload_n 2, 1) := by decide +kernel
theorem dX7_ofMachine_7 : decode cX7_ofMachine 7 = .ok (.iconst 0, 1) := by decide +kernel
theorem dX7_ofMachine_8 : decode cX7_ofMachine 8 = .ok (.bipush 8, 2) := by decide +kernel
theorem dX7_ofMachine_10 : decode cX7_ofMachine 10 = .ok (.invokestatic 49, 3) := by decide +kernel
theorem dX7_ofMachine_13 : decode cX7_ofMachine 13 = .ok (.invokestatic 53, 3) := by decide +kernel
theorem dX7_ofMachine_16 : decode cX7_ofMachine 16 = .ok (.iload_n 2, 1) := by decide +kernel
theorem dX7_ofMachine_17 : decode cX7_ofMachine 17 = .ok (.tableswitch 70 0 5 #[39, 44, 49, 54, 59, 64], 39) := by decide +kernel
theorem dX7_ofMachine_56 : decode cX7_ofMachine 56 = .ok (.aload_n 3, 1) := by decide +kernel
theorem dX7_ofMachine_57 : decode cX7_ofMachine 57 = .ok (.getfield 107, 3) := by decide +kernel
theorem dX7_ofMachine_60 : decode cX7_ofMachine 60 = .ok (.ireturn, 1) := by decide +kernel
theorem dX7_ofMachine_61 : decode cX7_ofMachine 61 = .ok (.aload_n 3, 1) := by decide +kernel
theorem dX7_ofMachine_62 : decode cX7_ofMachine 62 = .ok (.invokevirtual 98, 3) := by decide +kernel
theorem dX7_ofMachine_65 : decode cX7_ofMachine 65 = .ok (.ireturn, 1) := by decide +kernel
theorem dX7_ofMachine_66 : decode cX7_ofMachine 66 = .ok (.aload_n 3, 1) := by decide +kernel
theorem dX7_ofMachine_67 : decode cX7_ofMachine 67 = .ok (.getfield 151, 3) := by decide +kernel
theorem dX7_ofMachine_70 : decode cX7_ofMachine 70 = .ok (.ireturn, 1) := by decide +kernel
theorem dX7_ofMachine_71 : decode cX7_ofMachine 71 = .ok (.aload_n 3, 1) := by decide +kernel
theorem dX7_ofMachine_72 : decode cX7_ofMachine 72 = .ok (.getfield 194, 3) := by decide +kernel
theorem dX7_ofMachine_75 : decode cX7_ofMachine 75 = .ok (.ireturn, 1) := by decide +kernel
theorem dX7_ofMachine_76 : decode cX7_ofMachine 76 = .ok (.aload_n 3, 1) := by decide +kernel
theorem dX7_ofMachine_77 : decode cX7_ofMachine 77 = .ok (.getfield 197, 3) := by decide +kernel
theorem dX7_ofMachine_80 : decode cX7_ofMachine 80 = .ok (.ireturn, 1) := by decide +kernel
theorem dX7_ofMachine_81 : decode cX7_ofMachine 81 = .ok (.aload_n 0, 1) := by decide +kernel
theorem dX7_ofMachine_82 : decode cX7_ofMachine 82 = .ok (.aload_n 3, 1) := by decide +kernel
theorem dX7_ofMachine_83 : decode cX7_ofMachine 83 = .ok (.invokevirtual 104, 3) := by decide +kernel
theorem dX7_ofMachine_86 : decode cX7_ofMachine 86 = .ok (.ireturn, 1) := by decide +kernel
theorem dX7_ofMachine_87 : decode cX7_ofMachine 87 = .ok (.aload_n 0, 1) := by decide +kernel
theorem dX7_ofMachine_88 : decode cX7_ofMachine 88 = .ok (.aload_n 3, 1) := by decide +kernel
theorem dX7_ofMachine_89 : decode cX7_ofMachine 89 = .ok (.iload_n 2, 1) := by decide +kernel
theorem dX7_ofMachine_90 : decode cX7_ofMachine 90 = .ok (.invokevirtual 200, 3) := by decide +kernel
theorem dX7_ofMachine_93 : decode cX7_ofMachine 93 = .ok (.ireturn, 1) := by decide +kernel
set_option maxRecDepth 20000 in
theorem ggX7_at_X7_find : GoodIn wsX7_at wsX7_find := goodIn_ca (goodIn_r _ [11, 12, 13, 14, 15, 96, 97, 98, 99, 100, 101, 102, 103, 104, 105, 106] (by decide +kernel) (by decide +kernel)) (goodIn_sub (fun _ h => List.mem_cons_of_mem _ (List.mem_append_left _ (List.mem_append_right _ h))) (by decide +kernel))
set_option maxRecDepth 20000 in
theorem gX7_at_X7_find : GoodIn wsX7_at (wsV RX7 67 RX7 yX7_find wsX7_find) := goodIn_app (goodIn_of _ (by decide +kernel)) ggX7_at_X7_find
set_option maxRecDepth 20000 in
theorem ggX7_at_X7_isWithin : GoodIn wsX7_at wsX7_isWithin := goodIn_r _ [18] (by decide +kernel) (by decide +kernel)
set_option maxRecDepth 20000 in
theorem gX7_at_X7_isWithin : GoodIn wsX7_at (va_wsS RX7 49 yX7_isWithin wsX7_isWithin) := goodIn_app (goodIn_of _ (by decide +kernel)) ggX7_at_X7_isWithin
set_option maxRecDepth 20000 in
theorem ggX7_at_X7_require : GoodIn wsX7_at wsX7_require := goodIn_ca (goodIn_r _ [21, 22, 23] (by decide +kernel) (by decide +kernel)) (goodIn_sub (fun _ h => List.mem_cons_of_mem _ (List.mem_append_right _ h)) (by decide +kernel))
set_option maxRecDepth 20000 in
theorem gX7_at_X7_require : GoodIn wsX7_at (va_wsS RX7 53 yX7_require wsX7_require) := goodIn_app (goodIn_of _ (by decide +kernel)) ggX7_at_X7_require
theorem dX7_at_0 : decode cX7_at 0 = .ok (.aload_n 0, 1) := by decide +kernel
theorem dX7_at_1 : decode cX7_at 1 = .ok (.iload_n 1, 1) := by decide +kernel
theorem dX7_at_2 : decode cX7_at 2 = .ok (.invokevirtual 67, 3) := by decide +kernel
theorem dX7_at_5 : decode cX7_at 5 = .ok (.astore 4, 2) := by decide +kernel
theorem dX7_at_7 : decode cX7_at 7 = .ok (.iload_n 2, 1) := by decide +kernel
theorem dX7_at_8 : decode cX7_at 8 = .ok (.iconst 0, 1) := by decide +kernel
theorem dX7_at_9 : decode cX7_at 9 = .ok (.sipush 500, 3) := by decide +kernel
theorem dX7_at_12 : decode cX7_at 12 = .ok (.invokestatic 49, 3) := by decide +kernel
theorem dX7_at_15 : decode cX7_at 15 = .ok (.invokestatic 53, 3) := by decide +kernel
theorem dX7_at_18 : decode cX7_at 18 = .ok (.iload_n 3, 1) := by decide +kernel
theorem dX7_at_19 : decode cX7_at 19 = .ok (.iconst 0, 1) := by decide +kernel
theorem dX7_at_20 : decode cX7_at 20 = .ok (.bipush 7, 2) := by decide +kernel
theorem dX7_at_22 : decode cX7_at 22 = .ok (.invokestatic 49, 3) := by decide +kernel
theorem dX7_at_25 : decode cX7_at 25 = .ok (.invokestatic 53, 3) := by decide +kernel
theorem dX7_at_28 : decode cX7_at 28 = .ok (.aload_n 0, 1) := by decide +kernel
theorem dX7_at_29 : decode cX7_at 29 = .ok (.getfield 24, 3) := by decide +kernel
theorem dX7_at_32 : decode cX7_at 32 = .ok (.aload 4, 2) := by decide +kernel
theorem dX7_at_34 : decode cX7_at 34 = .ok (.iload_n 2, 1) := by decide +kernel
theorem dX7_at_35 : decode cX7_at 35 = .ok (.invokevirtual 154, 3) := by decide +kernel
theorem dX7_at_38 : decode cX7_at 38 = .ok (.iload_n 3, 1) := by decide +kernel
theorem dX7_at_39 : decode cX7_at 39 = .ok (.tableswitch 97 0 6 #[41, 49, 57, 65, 73, 81, 89], 41) := by decide +kernel
theorem dX7_at_80 : decode cX7_at 80 = .ok (.aload_n 0, 1) := by decide +kernel
theorem dX7_at_81 : decode cX7_at 81 = .ok (.getfield 24, 3) := by decide +kernel
theorem dX7_at_84 : decode cX7_at 84 = .ok (.getfield 161, 3) := by decide +kernel
theorem dX7_at_87 : decode cX7_at 87 = .ok (.ireturn, 1) := by decide +kernel
theorem dX7_at_88 : decode cX7_at 88 = .ok (.aload_n 0, 1) := by decide +kernel
theorem dX7_at_89 : decode cX7_at 89 = .ok (.getfield 24, 3) := by decide +kernel
theorem dX7_at_92 : decode cX7_at 92 = .ok (.getfield 203, 3) := by decide +kernel
theorem dX7_at_95 : decode cX7_at 95 = .ok (.ireturn, 1) := by decide +kernel
theorem dX7_at_96 : decode cX7_at 96 = .ok (.aload_n 0, 1) := by decide +kernel
theorem dX7_at_97 : decode cX7_at 97 = .ok (.getfield 24, 3) := by decide +kernel
theorem dX7_at_100 : decode cX7_at 100 = .ok (.getfield 206, 3) := by decide +kernel
theorem dX7_at_103 : decode cX7_at 103 = .ok (.ireturn, 1) := by decide +kernel
theorem dX7_at_104 : decode cX7_at 104 = .ok (.aload_n 0, 1) := by decide +kernel
theorem dX7_at_105 : decode cX7_at 105 = .ok (.getfield 24, 3) := by decide +kernel
theorem dX7_at_108 : decode cX7_at 108 = .ok (.invokevirtual 209, 3) := by decide +kernel
theorem dX7_at_111 : decode cX7_at 111 = .ok (.ireturn, 1) := by decide +kernel
theorem dX7_at_112 : decode cX7_at 112 = .ok (.aload_n 0, 1) := by decide +kernel
theorem dX7_at_113 : decode cX7_at 113 = .ok (.getfield 24, 3) := by decide +kernel
theorem dX7_at_116 : decode cX7_at 116 = .ok (.invokevirtual 212, 3) := by decide +kernel
theorem dX7_at_119 : decode cX7_at 119 = .ok (.ireturn, 1) := by decide +kernel
theorem dX7_at_120 : decode cX7_at 120 = .ok (.aload_n 0, 1) := by decide +kernel
theorem dX7_at_121 : decode cX7_at 121 = .ok (.getfield 24, 3) := by decide +kernel
theorem dX7_at_124 : decode cX7_at 124 = .ok (.getfield 215, 3) := by decide +kernel
theorem dX7_at_127 : decode cX7_at 127 = .ok (.ireturn, 1) := by decide +kernel
theorem dX7_at_128 : decode cX7_at 128 = .ok (.aload_n 0, 1) := by decide +kernel
theorem dX7_at_129 : decode cX7_at 129 = .ok (.getfield 24, 3) := by decide +kernel
theorem dX7_at_132 : decode cX7_at 132 = .ok (.getfield 218, 3) := by decide +kernel
theorem dX7_at_135 : decode cX7_at 135 = .ok (.ireturn, 1) := by decide +kernel
theorem dX7_at_136 : decode cX7_at 136 = .ok (.aload_n 0, 1) := by decide +kernel
theorem dX7_at_137 : decode cX7_at 137 = .ok (.getfield 24, 3) := by decide +kernel
theorem dX7_at_140 : decode cX7_at 140 = .ok (.invokevirtual 221, 3) := by decide +kernel
theorem dX7_at_143 : decode cX7_at 143 = .ok (.ireturn, 1) := by decide +kernel
set_option maxRecDepth 20000 in
theorem ggX7_symbol_X7_find : GoodIn wsX7_symbol wsX7_find := goodIn_ca (goodIn_r _ [6, 7, 8, 9, 10, 79, 80, 81, 82, 83, 84, 85, 86, 87, 88, 89] (by decide +kernel) (by decide +kernel)) (goodIn_sub (fun _ h => List.mem_cons_of_mem _ (List.mem_append_left _ (List.mem_append_right _ h))) (by decide +kernel))
set_option maxRecDepth 20000 in
theorem gX7_symbol_X7_find : GoodIn wsX7_symbol (wsV RX7 67 RX7 yX7_find wsX7_find) := goodIn_app (goodIn_of _ (by decide +kernel)) ggX7_symbol_X7_find
set_option maxRecDepth 20000 in
theorem ggX7_symbol_X7_isWithin : GoodIn wsX7_symbol wsX7_isWithin := goodIn_r _ [13] (by decide +kernel) (by decide +kernel)
set_option maxRecDepth 20000 in
theorem gX7_symbol_X7_isWithin : GoodIn wsX7_symbol (va_wsS RX7 49 yX7_isWithin wsX7_isWithin) := goodIn_app (goodIn_of _ (by decide +kernel)) ggX7_symbol_X7_isWithin
set_option maxRecDepth 20000 in
theorem ggX7_symbol_X7_require : GoodIn wsX7_symbol wsX7_require := goodIn_ca (goodIn_r _ [16, 17, 18] (by decide +kernel) (by decide +kernel)) (goodIn_sub (fun _ h => List.mem_cons_of_mem _ (List.mem_append_right _ h)) (by decide +kernel))
set_option maxRecDepth 20000 in
theorem gX7_symbol_X7_require : GoodIn wsX7_symbol (va_wsS RX7 53 yX7_require wsX7_require) := goodIn_app (goodIn_of _ (by decide +kernel)) ggX7_symbol_X7_require
theorem dX7_symbol_0 : decode cX7_symbol 0 = .ok (.aload_n 0, 1) := by decide +kernel
theorem dX7_symbol_1 : decode cX7_symbol 1 = .ok (.iload_n 1, 1) := by decide +kernel
theorem dX7_symbol_2 : decode cX7_symbol 2 = .ok (.invokevirtual 67, 3) := by decide +kernel
theorem dX7_symbol_5 : decode cX7_symbol 5 = .ok (.astore 4, 2) := by decide +kernel
theorem dX7_symbol_7 : decode cX7_symbol 7 = .ok (.iload_n 2, 1) := by decide +kernel
theorem dX7_symbol_8 : decode cX7_symbol 8 = .ok (.iconst 0, 1) := by decide +kernel
theorem dX7_symbol_9 : decode cX7_symbol 9 = .ok (.sipush 500, 3) := by decide +kernel
theorem dX7_symbol_12 : decode cX7_symbol 12 = .ok (.invokestatic 49, 3) := by decide +kernel
theorem dX7_symbol_15 : decode cX7_symbol 15 = .ok (.invokestatic 53, 3) := by decide +kernel
theorem dX7_symbol_18 : decode cX7_symbol 18 = .ok (.iload_n 3, 1) := by decide +kernel
theorem dX7_symbol_19 : decode cX7_symbol 19 = .ok (.sipush (-501), 3) := by decide +kernel
theorem dX7_symbol_22 : decode cX7_symbol 22 = .ok (.sipush 501, 3) := by decide +kernel
theorem dX7_symbol_25 : decode cX7_symbol 25 = .ok (.invokestatic 49, 3) := by decide +kernel
theorem dX7_symbol_28 : decode cX7_symbol 28 = .ok (.invokestatic 53, 3) := by decide +kernel
theorem dX7_symbol_31 : decode cX7_symbol 31 = .ok (.aload_n 0, 1) := by decide +kernel
theorem dX7_symbol_32 : decode cX7_symbol 32 = .ok (.getfield 24, 3) := by decide +kernel
theorem dX7_symbol_35 : decode cX7_symbol 35 = .ok (.aload 4, 2) := by decide +kernel
theorem dX7_symbol_37 : decode cX7_symbol 37 = .ok (.iload_n 2, 1) := by decide +kernel
theorem dX7_symbol_38 : decode cX7_symbol 38 = .ok (.invokevirtual 154, 3) := by decide +kernel
theorem dX7_symbol_41 : decode cX7_symbol 41 = .ok (.aload_n 0, 1) := by decide +kernel
theorem dX7_symbol_42 : decode cX7_symbol 42 = .ok (.getfield 24, 3) := by decide +kernel
theorem dX7_symbol_45 : decode cX7_symbol 45 = .ok (.iload_n 3, 1) := by decide +kernel
theorem dX7_symbol_46 : decode cX7_symbol 46 = .ok (.invokevirtual 224, 3) := by decide +kernel
theorem dX7_symbol_49 : decode cX7_symbol 49 = .ok (.ireturn, 1) := by decide +kernel
set_option maxRecDepth 20000 in
theorem ggX7_lean_X7_find : GoodIn wsX7_lean wsX7_find := goodIn_ca (goodIn_r _ [9, 10, 11, 12, 13, 88, 89, 90, 91, 92, 93, 94, 95, 96, 97, 98] (by decide +kernel) (by decide +kernel)) (goodIn_sub (fun _ h => List.mem_cons_of_mem _ (List.mem_append_left _ (List.mem_append_right _ h))) (by decide +kernel))
set_option maxRecDepth 20000 in
theorem gX7_lean_X7_find : GoodIn wsX7_lean (wsV RX7 67 RX7 yX7_find wsX7_find) := goodIn_app (goodIn_of _ (by decide +kernel)) ggX7_lean_X7_find
set_option maxRecDepth 20000 in
theorem ggX7_lean_X7_isWithin : GoodIn wsX7_lean wsX7_isWithin := goodIn_r _ [16] (by decide +kernel) (by decide +kernel)
set_option maxRecDepth 20000 in
theorem gX7_lean_X7_isWithin : GoodIn wsX7_lean (va_wsS RX7 49 yX7_isWithin wsX7_isWithin) := goodIn_app (goodIn_of _ (by decide +kernel)) ggX7_lean_X7_isWithin
set_option maxRecDepth 20000 in
theorem ggX7_lean_X7_require : GoodIn wsX7_lean wsX7_require := goodIn_ca (goodIn_r _ [19, 20, 21] (by decide +kernel) (by decide +kernel)) (goodIn_sub (fun _ h => List.mem_cons_of_mem _ (List.mem_append_right _ h)) (by decide +kernel))
set_option maxRecDepth 20000 in
theorem gX7_lean_X7_require : GoodIn wsX7_lean (va_wsS RX7 53 yX7_require wsX7_require) := goodIn_app (goodIn_of _ (by decide +kernel)) ggX7_lean_X7_require
theorem dX7_lean_0 : decode cX7_lean 0 = .ok (.aload_n 0, 1) := by decide +kernel
theorem dX7_lean_1 : decode cX7_lean 1 = .ok (.iload_n 1, 1) := by decide +kernel
theorem dX7_lean_2 : decode cX7_lean 2 = .ok (.invokevirtual 67, 3) := by decide +kernel
theorem dX7_lean_5 : decode cX7_lean 5 = .ok (.astore_n 3, 1) := by decide +kernel
theorem dX7_lean_6 : decode cX7_lean 6 = .ok (.iload_n 2, 1) := by decide +kernel
theorem dX7_lean_7 : decode cX7_lean 7 = .ok (.iconst 0, 1) := by decide +kernel
theorem dX7_lean_8 : decode cX7_lean 8 = .ok (.sipush 500, 3) := by decide +kernel
theorem dX7_lean_11 : decode cX7_lean 11 = .ok (.invokestatic 49, 3) := by decide +kernel
theorem dX7_lean_14 : decode cX7_lean 14 = .ok (.invokestatic 53, 3) := by decide +kernel
theorem dX7_lean_17 : decode cX7_lean 17 = .ok (.aload_n 0, 1) := by decide +kernel
theorem dX7_lean_18 : decode cX7_lean 18 = .ok (.getfield 24, 3) := by decide +kernel
theorem dX7_lean_21 : decode cX7_lean 21 = .ok (.aload_n 3, 1) := by decide +kernel
theorem dX7_lean_22 : decode cX7_lean 22 = .ok (.iload_n 2, 1) := by decide +kernel
theorem dX7_lean_23 : decode cX7_lean 23 = .ok (.invokevirtual 154, 3) := by decide +kernel
theorem dX7_lean_26 : decode cX7_lean 26 = .ok (.iconst 4, 1) := by decide +kernel
theorem dX7_lean_27 : decode cX7_lean 27 = .ok (.aload_n 0, 1) := by decide +kernel
theorem dX7_lean_28 : decode cX7_lean 28 = .ok (.getfield 24, 3) := by decide +kernel
theorem dX7_lean_31 : decode cX7_lean 31 = .ok (.getfield 206, 3) := by decide +kernel
theorem dX7_lean_34 : decode cX7_lean 34 = .ok (.imul, 1) := by decide +kernel
theorem dX7_lean_35 : decode cX7_lean 35 = .ok (.aload_n 0, 1) := by decide +kernel
theorem dX7_lean_36 : decode cX7_lean 36 = .ok (.getfield 24, 3) := by decide +kernel
theorem dX7_lean_39 : decode cX7_lean 39 = .ok (.getfield 161, 3) := by decide +kernel
theorem dX7_lean_42 : decode cX7_lean 42 = .ok (.invokestatic 227, 3) := by decide +kernel
theorem dX7_lean_45 : decode cX7_lean 45 = .ok (.i2d, 1) := by decide +kernel
theorem dX7_lean_46 : decode cX7_lean 46 = .ok (.ldc2_w 230, 3) := by decide +kernel
theorem dX7_lean_49 : decode cX7_lean 49 = .ok (.ddiv, 1) := by decide +kernel
theorem dX7_lean_50 : decode cX7_lean 50 = .ok (.dreturn, 1) := by decide +kernel
