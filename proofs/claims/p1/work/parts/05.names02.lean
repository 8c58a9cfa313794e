theorem dX0_init_0 : decode cX0_init 0 = .ok (.aload_n 0, 1) := by decide +kernel
theorem dX0_init_1 : decode cX0_init 1 = .ok (.invokespecial 3, 3) := by decide +kernel
theorem dX0_init_4 : decode cX0_init 4 = .ok (.aload_n 0, 1) := by decide +kernel
theorem dX0_init_5 : decode cX0_init 5 = .ok (.bipush 32, 2) := by decide +kernel
theorem dX0_init_7 : decode cX0_init 7 = .ok (.newarray .int, 2) := by decide +kernel
theorem dX0_init_9 : decode cX0_init 9 = .ok (.putfield 9, 3) := by decide +kernel
theorem dX0_init_12 : decode cX0_init 12 = .ok (.return_, 1) := by decide +kernel
theorem dX0_add_0 : decode cX0_add 0 = .ok (.aload_n 0, 1) := by decide +kernel
theorem dX0_add_1 : decode cX0_add 1 = .ok (.getfield 9, 3) := by decide +kernel
theorem dX0_add_4 : decode cX0_add 4 = .ok (.aload_n 0, 1) := by decide +kernel
theorem dX0_add_5 : decode cX0_add 5 = .ok (.getfield 15, 3) := by decide +kernel
theorem dX0_add_8 : decode cX0_add 8 = .ok (.aload_n 0, 1) := by decide +kernel
theorem dX0_add_9 : decode cX0_add 9 = .ok (.getfield 19, 3) := by decide +kernel
theorem dX0_add_12 : decode cX0_add 12 = .ok (.iadd, 1) := by decide +kernel
theorem dX0_add_13 : decode cX0_add 13 = .ok (.bipush 31, 2) := by decide +kernel
theorem dX0_add_15 : decode cX0_add 15 = .ok (.iand, 1) := by decide +kernel
theorem dX0_add_16 : decode cX0_add 16 = .ok (.iload_n 1, 1) := by decide +kernel
theorem dX0_add_17 : decode cX0_add 17 = .ok (.iastore, 1) := by decide +kernel
theorem dX0_add_18 : decode cX0_add 18 = .ok (.aload_n 0, 1) := by decide +kernel
theorem dX0_add_19 : decode cX0_add 19 = .ok (.dup, 1) := by decide +kernel
theorem dX0_add_20 : decode cX0_add 20 = .ok (.getfield 22, 3) := by decide +kernel
theorem dX0_add_23 : decode cX0_add 23 = .ok (.iconst 1, 1) := by decide +kernel
theorem dX0_add_24 : decode cX0_add 24 = .ok (.iadd, 1) := by decide +kernel
theorem dX0_add_25 : decode cX0_add 25 = .ok (.putfield 22, 3) := by decide +kernel
theorem dX0_add_28 : decode cX0_add 28 = .ok (.aload_n 0, 1) := by decide +kernel
theorem dX0_add_29 : decode cX0_add 29 = .ok (.getfield 19, 3) := by decide +kernel
theorem dX0_add_32 : decode cX0_add 32 = .ok (.bipush 32, 2) := by decide +kernel
theorem dX0_add_34 : decode cX0_add 34 = .ok (.if_icmp .ge 16, 3) := by decide +kernel
theorem dX0_add_37 : decode cX0_add 37 = .ok (.aload_n 0, 1) := by decide +kernel
theorem dX0_add_38 : decode cX0_add 38 = .ok (.dup, 1) := by decide +kernel
theorem dX0_add_39 : decode cX0_add 39 = .ok (.getfield 19, 3) := by decide +kernel
theorem dX0_add_42 : decode cX0_add 42 = .ok (.iconst 1, 1) := by decide +kernel
theorem dX0_add_43 : decode cX0_add 43 = .ok (.iadd, 1) := by decide +kernel
theorem dX0_add_44 : decode cX0_add 44 = .ok (.putfield 19, 3) := by decide +kernel
theorem dX0_add_47 : decode cX0_add 47 = .ok (.goto 16, 3) := by decide +kernel
theorem dX0_add_63 : decode cX0_add 63 = .ok (.return_, 1) := by decide +kernel
theorem dX0_drop_0 : decode cX0_drop 0 = .ok (.iload_n 1, 1) := by decide +kernel
theorem dX0_drop_1 : decode cX0_drop 1 = .ok (.aload_n 0, 1) := by decide +kernel
theorem dX0_drop_2 : decode cX0_drop 2 = .ok (.getfield 19, 3) := by decide +kernel
theorem dX0_drop_5 : decode cX0_drop 5 = .ok (.invokestatic 25, 3) := by decide +kernel
theorem dX0_drop_8 : decode cX0_drop 8 = .ok (.istore_n 2, 1) := by decide +kernel
theorem dX0_drop_9 : decode cX0_drop 9 = .ok (.aload_n 0, 1) := by decide +kernel
theorem dX0_drop_10 : decode cX0_drop 10 = .ok (.aload_n 0, 1) := by decide +kernel
theorem dX0_drop_11 : decode cX0_drop 11 = .ok (.getfield 15, 3) := by decide +kernel
theorem dX0_drop_14 : decode cX0_drop 14 = .ok (.iload_n 2, 1) := by decide +kernel
theorem dX0_drop_15 : decode cX0_drop 15 = .ok (.iadd, 1) := by decide +kernel
theorem dX0_drop_16 : decode cX0_drop 16 = .ok (.bipush 31, 2) := by decide +kernel
theorem dX0_drop_18 : decode cX0_drop 18 = .ok (.iand, 1) := by decide +kernel
theorem dX0_drop_19 : decode cX0_drop 19 = .ok (.putfield 15, 3) := by decide +kernel
theorem dX0_drop_22 : decode cX0_drop 22 = .ok (.aload_n 0, 1) := by decide +kernel
theorem dX0_drop_23 : decode cX0_drop 23 = .ok (.dup, 1) := by decide +kernel
theorem dX0_drop_24 : decode cX0_drop 24 = .ok (.getfield 19, 3) := by decide +kernel
theorem dX0_drop_27 : decode cX0_drop 27 = .ok (.iload_n 2, 1) := by decide +kernel
theorem dX0_drop_28 : decode cX0_drop 28 = .ok (.isub, 1) := by decide +kernel
theorem dX0_drop_29 : decode cX0_drop 29 = .ok (.putfield 19, 3) := by decide +kernel
theorem dX0_drop_32 : decode cX0_drop 32 = .ok (.return_, 1) := by decide +kernel
set_option maxRecDepth 20000 in
theorem ggX1_init_X4_init : GoodIn wsX1_init wsX4_init := goodIn_r _ [20, 21, 2, 3, 22, 57, 58] (by decide +kernel) (by decide +kernel)
set_option maxRecDepth 20000 in
theorem gX1_init_X4_init_n33 : GoodIn wsX1_init (wsX4_init) := ggX1_init_X4_init
set_option maxRecDepth 20000 in
theorem ggX1_init_X2_init : GoodIn wsX1_init wsX2_init := goodIn_r _ [24, 25, 2, 3, 26, 27, 28, 29, 30, 11, 12, 31, 32, 33, 34, 35, 36, 19, 20, 21, 22, 68, 69, 70, 71, 59, 60, 61, 62, 63, 64, 65, 66, 67, 57, 58] (by decide +kernel) (by decide +kernel)
set_option maxRecDepth 20000 in
theorem gX1_init_X2_init_n47 : GoodIn wsX1_init (wsX2_init) := ggX1_init_X2_init
theorem dX1_init_0 : decode cX1_init 0 = .ok (.aload_n 0, 1) := by decide +kernel
theorem dX1_init_1 : decode cX1_init 1 = .ok (.invokespecial 3, 3) := by decide +kernel
theorem dX1_init_4 : decode cX1_init 4 = .ok (.aload_n 0, 1) := by decide +kernel
theorem dX1_init_5 : decode cX1_init 5 = .ok (.bipush 104, 2) := by decide +kernel
theorem dX1_init_7 : decode cX1_init 7 = .ok (.putfield 9, 3) := by decide +kernel
theorem dX1_init_10 : decode cX1_init 10 = .ok (.aload_n 0, 1) := by decide +kernel
theorem dX1_init_11 : decode cX1_init 11 = .ok (.bipush 117, 2) := by decide +kernel
theorem dX1_init_13 : decode cX1_init 13 = .ok (.putfield 15, 3) := by decide +kernel
theorem dX1_init_16 : decode cX1_init 16 = .ok (.aload_n 0, 1) := by decide +kernel
theorem dX1_init_17 : decode cX1_init 17 = .ok (.iconst (-1), 1) := by decide +kernel
theorem dX1_init_18 : decode cX1_init 18 = .ok (.putfield 18, 3) := by decide +kernel
theorem dX1_init_21 : decode cX1_init 21 = .ok (.aload_n 0, 1) := by decide +kernel
theorem dX1_init_22 : decode cX1_init 22 = .ok (.bipush 104, 2) := by decide +kernel
theorem dX1_init_24 : decode cX1_init 24 = .ok (.putfield 22, 3) := by decide +kernel
theorem dX1_init_27 : decode cX1_init 27 = .ok (.aload_n 0, 1) := by decide +kernel
theorem dX1_init_28 : decode cX1_init 28 = .ok (.iconst (-1), 1) := by decide +kernel
theorem dX1_init_29 : decode cX1_init 29 = .ok (.putfield 25, 3) := by decide +kernel
theorem dX1_init_32 : decode cX1_init 32 = .ok (.aload_n 0, 1) := by decide +kernel
theorem dX1_init_33 : decode cX1_init 33 = .ok (.iconst (-1), 1) := by decide +kernel
theorem dX1_init_34 : decode cX1_init 34 = .ok (.putfield 28, 3) := by decide +kernel
theorem dX1_init_37 : decode cX1_init 37 = .ok (.aload_n 0, 1) := by decide +kernel
theorem dX1_init_38 : decode cX1_init 38 = .ok (.new 31, 3) := by decide +kernel
theorem dX1_init_41 : decode cX1_init 41 = .ok (.dup, 1) := by decide +kernel
theorem dX1_init_42 : decode cX1_init 42 = .ok (.invokespecial 33, 3) := by decide +kernel
theorem dX1_init_45 : decode cX1_init 45 = .ok (.putfield 34, 3) := by decide +kernel
theorem dX1_init_48 : decode cX1_init 48 = .ok (.aload_n 0, 1) := by decide +kernel
theorem dX1_init_49 : decode cX1_init 49 = .ok (.iconst 3, 1) := by decide +kernel
theorem dX1_init_50 : decode cX1_init 50 = .ok (.anewarray 38, 3) := by decide +kernel
theorem dX1_init_53 : decode cX1_init 53 = .ok (.putfield 40, 3) := by decide +kernel
theorem dX1_init_56 : decode cX1_init 56 = .ok (.aload_n 0, 1) := by decide +kernel
theorem dX1_init_57 : decode cX1_init 57 = .ok (.iload_n 1, 1) := by decide +kernel
theorem dX1_init_58 : decode cX1_init 58 = .ok (.putfield 44, 3) := by decide +kernel
theorem dX1_init_61 : decode cX1_init 61 = .ok (.iconst 0, 1) := by decide +kernel
theorem dX1_init_62 : decode cX1_init 62 = .ok (.istore_n 2, 1) := by decide +kernel
theorem dX1_init_63 : decode cX1_init 63 = .ok (.iload_n 2, 1) := by decide +kernel
theorem dX1_init_64 : decode cX1_init 64 = .ok (.iconst 3, 1) := by decide +kernel
theorem dX1_init_65 : decode cX1_init 65 = .ok (.if_icmp .ge 22, 3) := by decide +kernel
theorem dX1_init_68 : decode cX1_init 68 = .ok (.aload_n 0, 1) := by decide +kernel
theorem dX1_init_69 : decode cX1_init 69 = .ok (.getfield 40, 3) := by decide +kernel
theorem dX1_init_72 : decode cX1_init 72 = .ok (.iload_n 2, 1) := by decide +kernel
theorem dX1_init_73 : decode cX1_init 73 = .ok (.new 38, 3) := by decide +kernel
theorem dX1_init_76 : decode cX1_init 76 = .ok (.dup, 1) := by decide +kernel
theorem dX1_init_77 : decode cX1_init 77 = .ok (.invokespecial 47, 3) := by decide +kernel
theorem dX1_init_80 : decode cX1_init 80 = .ok (.aastore, 1) := by decide +kernel
theorem dX1_init_81 : decode cX1_init 81 = .ok (.iinc 2 1, 3) := by decide +kernel
theorem dX1_init_84 : decode cX1_init 84 = .ok (.goto (-21), 3) := by decide +kernel
theorem dX1_init_87 : decode cX1_init 87 = .ok (.return_, 1) := by decide +kernel
set_option maxRecDepth 20000 in
theorem ggX2_init_X0_init : GoodIn wsX2_init wsX0_init := goodIn_r _ [13, 14, 2, 3, 15, 16, 21, 22, 23, 24] (by decide +kernel) (by decide +kernel)
set_option maxRecDepth 20000 in
theorem gX2_init_X0_init_n11 : GoodIn wsX2_init (wsX0_init) := ggX2_init_X0_init
set_option maxRecDepth 20000 in
theorem ggX2_init_X4_init : GoodIn wsX2_init wsX4_init := goodIn_r _ [18, 19, 2, 3, 20, 34, 35] (by decide +kernel) (by decide +kernel)
set_option maxRecDepth 20000 in
theorem gX2_init_X4_init_n20 : GoodIn wsX2_init (wsX4_init) := ggX2_init_X4_init
theorem dX2_init_0 : decode cX2_init 0 = .ok (.aload_n 0, 1) := by decide +kernel
theorem dX2_init_1 : decode cX2_init 1 = .ok (.invokespecial 3, 3) := by decide +kernel
theorem dX2_init_4 : decode cX2_init 4 = .ok (.aload_n 0, 1) := by decide +kernel
theorem dX2_init_5 : decode cX2_init 5 = .ok (.new 9, 3) := by decide +kernel
theorem dX2_init_8 : decode cX2_init 8 = .ok (.dup, 1) := by decide +kernel
theorem dX2_init_9 : decode cX2_init 9 = .ok (.invokespecial 11, 3) := by decide +kernel
theorem dX2_init_12 : decode cX2_init 12 = .ok (.putfield 12, 3) := by decide +kernel
theorem dX2_init_15 : decode cX2_init 15 = .ok (.aload_n 0, 1) := by decide +kernel
theorem dX2_init_16 : decode cX2_init 16 = .ok (.new 18, 3) := by decide +kernel
theorem dX2_init_19 : decode cX2_init 19 = .ok (.dup, 1) := by decide +kernel
theorem dX2_init_20 : decode cX2_init 20 = .ok (.invokespecial 20, 3) := by decide +kernel
theorem dX2_init_23 : decode cX2_init 23 = .ok (.putfield 21, 3) := by decide +kernel
theorem dX2_init_26 : decode cX2_init 26 = .ok (.return_, 1) := by decide +kernel
theorem dX3_init_0 : decode cX3_init 0 = .ok (.aload_n 0, 1) := by decide +kernel
theorem dX3_init_1 : decode cX3_init 1 = .ok (.invokespecial 3, 3) := by decide +kernel
theorem dX3_init_4 : decode cX3_init 4 = .ok (.aload_n 0, 1) := by decide +kernel
theorem dX3_init_5 : decode cX3_init 5 = .ok (.bipush 8, 2) := by decide +kernel
theorem dX3_init_7 : decode cX3_init 7 = .ok (.newarray .char, 2) := by decide +kernel
theorem dX3_init_9 : decode cX3_init 9 = .ok (.putfield 9, 3) := by decide +kernel
theorem dX3_init_12 : decode cX3_init 12 = .ok (.aload_n 0, 1) := by decide +kernel
theorem dX3_init_13 : decode cX3_init 13 = .ok (.bipush 8, 2) := by decide +kernel
theorem dX3_init_15 : decode cX3_init 15 = .ok (.newarray .int, 2) := by decide +kernel
theorem dX3_init_17 : decode cX3_init 17 = .ok (.putfield 15, 3) := by decide +kernel
theorem dX3_init_20 : decode cX3_init 20 = .ok (.aload_n 0, 1) := by decide +kernel
theorem dX3_init_21 : decode cX3_init 21 = .ok (.bipush 8, 2) := by decide +kernel
theorem dX3_init_23 : decode cX3_init 23 = .ok (.newarray .int, 2) := by decide +kernel
theorem dX3_init_25 : decode cX3_init 25 = .ok (.putfield 19, 3) := by decide +kernel
theorem dX3_init_28 : decode cX3_init 28 = .ok (.aload_n 0, 1) := by decide +kernel
theorem dX3_init_29 : decode cX3_init 29 = .ok (.iconst (-1), 1) := by decide +kernel
theorem dX3_init_30 : decode cX3_init 30 = .ok (.putfield 22, 3) := by decide +kernel
theorem dX3_init_33 : decode cX3_init 33 = .ok (.return_, 1) := by decide +kernel
theorem dX4_init_0 : decode cX4_init 0 = .ok (.aload_n 0, 1) := by decide +kernel
theorem dX4_init_1 : decode cX4_init 1 = .ok (.invokespecial 3, 3) := by decide +kernel
theorem dX4_init_4 : decode cX4_init 4 = .ok (.aload_n 0, 1) := by decide +kernel
theorem dX4_init_5 : decode cX4_init 5 = .ok (.bipush 32, 2) := by decide +kernel
theorem dX4_init_7 : decode cX4_init 7 = .ok (.putfield 9, 3) := by decide +kernel
theorem dX4_init_10 : decode cX4_init 10 = .ok (.return_, 1) := by decide +kernel
set_option maxRecDepth 20000 in
theorem ggX5_init_X7_init : GoodIn wsX5_init wsX7_init := goodIn_r _ [14, 15, 2, 3, 16, 17, 32, 33, 34, 35, 36, 37] (by decide +kernel) (by decide +kernel)
set_option maxRecDepth 20000 in
theorem gX5_init_X7_init_n34 : GoodIn wsX5_init (wsX7_init) := ggX5_init_X7_init
theorem dX5_init_0 : decode cX5_init 0 = .ok (.aload_n 0, 1) := by decide +kernel
theorem dX5_init_1 : decode cX5_init 1 = .ok (.invokespecial 3, 3) := by decide +kernel
theorem dX5_init_4 : decode cX5_init 4 = .ok (.aload_n 0, 1) := by decide +kernel
theorem dX5_init_5 : decode cX5_init 5 = .ok (.bipush 98, 2) := by decide +kernel
theorem dX5_init_7 : decode cX5_init 7 = .ok (.putfield 9, 3) := by decide +kernel
theorem dX5_init_10 : decode cX5_init 10 = .ok (.aload_n 0, 1) := by decide +kernel
theorem dX5_init_11 : decode cX5_init 11 = .ok (.iconst 1, 1) := by decide +kernel
theorem dX5_init_12 : decode cX5_init 12 = .ok (.putfield 15, 3) := by decide +kernel
theorem dX5_init_15 : decode cX5_init 15 = .ok (.aload_n 0, 1) := by decide +kernel
theorem dX5_init_16 : decode cX5_init 16 = .ok (.iconst (-1), 1) := by decide +kernel
theorem dX5_init_17 : decode cX5_init 17 = .ok (.putfield 19, 3) := by decide +kernel
theorem dX5_init_20 : decode cX5_init 20 = .ok (.aload_n 0, 1) := by decide +kernel
theorem dX5_init_21 : decode cX5_init 21 = .ok (.bipush 32, 2) := by decide +kernel
theorem dX5_init_23 : decode cX5_init 23 = .ok (.putfield 22, 3) := by decide +kernel
theorem dX5_init_26 : decode cX5_init 26 = .ok (.aload_n 0, 1) := by decide +kernel
theorem dX5_init_27 : decode cX5_init 27 = .ok (.iconst 4, 1) := by decide +kernel
theorem dX5_init_28 : decode cX5_init 28 = .ok (.anewarray 25, 3) := by decide +kernel
theorem dX5_init_31 : decode cX5_init 31 = .ok (.putfield 27, 3) := by decide +kernel
theorem dX5_init_34 : decode cX5_init 34 = .ok (.aload_n 0, 1) := by decide +kernel
theorem dX5_init_35 : decode cX5_init 35 = .ok (.iload_n 1, 1) := by decide +kernel
theorem dX5_init_36 : decode cX5_init 36 = .ok (.putfield 31, 3) := by decide +kernel
theorem dX5_init_39 : decode cX5_init 39 = .ok (.iconst 0, 1) := by decide +kernel
theorem dX5_init_40 : decode cX5_init 40 = .ok (.istore_n 2, 1) := by decide +kernel
theorem dX5_init_41 : decode cX5_init 41 = .ok (.iload_n 2, 1) := by decide +kernel
theorem dX5_init_42 : decode cX5_init 42 = .ok (.iconst 4, 1) := by decide +kernel
theorem dX5_init_43 : decode cX5_init 43 = .ok (.if_icmp .ge 22, 3) := by decide +kernel
theorem dX5_init_46 : decode cX5_init 46 = .ok (.aload_n 0, 1) := by decide +kernel
theorem dX5_init_47 : decode cX5_init 47 = .ok (.getfield 27, 3) := by decide +kernel
theorem dX5_init_50 : decode cX5_init 50 = .ok (.iload_n 2, 1) := by decide +kernel
theorem dX5_init_51 : decode cX5_init 51 = .ok (.new 25, 3) := by decide +kernel
theorem dX5_init_54 : decode cX5_init 54 = .ok (.dup, 1) := by decide +kernel
theorem dX5_init_55 : decode cX5_init 55 = .ok (.invokespecial 34, 3) := by decide +kernel
theorem dX5_init_58 : decode cX5_init 58 = .ok (.aastore, 1) := by decide +kernel
theorem dX5_init_59 : decode cX5_init 59 = .ok (.iinc 2 1, 3) := by decide +kernel
theorem dX5_init_62 : decode cX5_init 62 = .ok (.goto (-21), 3) := by decide +kernel
theorem dX5_init_65 : decode cX5_init 65 = .ok (.return_, 1) := by decide +kernel
theorem dX5_isOpen_0 : decode cX5_isOpen 0 = .ok (.aload_n 0, 1) := by decide +kernel
theorem dX5_isOpen_1 : decode cX5_isOpen 1 = .ok (.getfield 35, 3) := by decide +kernel
theorem dX5_isOpen_4 : decode cX5_isOpen 4 = .ok (.ifnull 7, 3) := by decide +kernel
theorem dX5_isOpen_11 : decode cX5_isOpen 11 = .ok (.iconst 0, 1) := by decide +kernel
theorem dX5_isOpen_12 : decode cX5_isOpen 12 = .ok (.ireturn, 1) := by decide +kernel
theorem dX5_isDueIn_0 : decode cX5_isDueIn 0 = .ok (.iload_n 1, 1) := by decide +kernel
theorem dX5_isDueIn_1 : decode cX5_isDueIn 1 = .ok (.aload_n 0, 1) := by decide +kernel
theorem dX5_isDueIn_2 : decode cX5_isDueIn 2 = .ok (.getfield 15, 3) := by decide +kernel
theorem dX5_isDueIn_5 : decode cX5_isDueIn 5 = .ok (.iconst 1, 1) := by decide +kernel
theorem dX5_isDueIn_6 : decode cX5_isDueIn 6 = .ok (.isub, 1) := by decide +kernel
theorem dX5_isDueIn_7 : decode cX5_isDueIn 7 = .ok (.iand, 1) := by decide +kernel
theorem dX5_isDueIn_8 : decode cX5_isDueIn 8 = .ok (.aload_n 0, 1) := by decide +kernel
theorem dX5_isDueIn_9 : decode cX5_isDueIn 9 = .ok (.getfield 19, 3) := by decide +kernel
theorem dX5_isDueIn_12 : decode cX5_isDueIn 12 = .ok (.if_icmp .ne 7, 3) := by decide +kernel
theorem dX5_isDueIn_19 : decode cX5_isDueIn 19 = .ok (.iconst 0, 1) := by decide +kernel
theorem dX5_isDueIn_20 : decode cX5_isDueIn 20 = .ok (.ireturn, 1) := by decide +kernel
theorem dX6_init_0 : decode cX6_init 0 = .ok (.aload_n 0, 1) := by decide +kernel
theorem dX6_init_1 : decode cX6_init 1 = .ok (.invokespecial 1, 3) := by decide +kernel
theorem dX6_init_4 : decode cX6_init 4 = .ok (.return_, 1) := by decide +kernel
theorem dX7_init_0 : decode cX7_init 0 = .ok (.aload_n 0, 1) := by decide +kernel
theorem dX7_init_1 : decode cX7_init 1 = .ok (.invokespecial 3, 3) := by decide +kernel
theorem dX7_init_4 : decode cX7_init 4 = .ok (.aload_n 0, 1) := by decide +kernel
theorem dX7_init_5 : decode cX7_init 5 = .ok (.bipush 16, 2) := by decide +kernel
theorem dX7_init_7 : decode cX7_init 7 = .ok (.newarray .int, 2) := by decide +kernel
theorem dX7_init_9 : decode cX7_init 9 = .ok (.putfield 9, 3) := by decide +kernel
theorem dX7_init_12 : decode cX7_init 12 = .ok (.return_, 1) := by decide +kernel
theorem dX8_init_0 : decode cX8_init 0 = .ok (.aload_n 0, 1) := by decide +kernel
theorem dX8_init_1 : decode cX8_init 1 = .ok (.invokespecial 3, 3) := by decide +kernel
theorem dX8_init_4 : decode cX8_init 4 = .ok (.aload_n 0, 1) := by decide +kernel
theorem dX8_init_5 : decode cX8_init 5 = .ok (.bipush 8, 2) := by decide +kernel
theorem dX8_init_7 : decode cX8_init 7 = .ok (.newarray .int, 2) := by decide +kernel
theorem dX8_init_9 : decode cX8_init 9 = .ok (.putfield 9, 3) := by decide +kernel
theorem dX8_init_12 : decode cX8_init 12 = .ok (.aload_n 0, 1) := by decide +kernel
theorem dX8_init_13 : decode cX8_init 13 = .ok (.sipush 128, 3) := by decide +kernel
theorem dX8_init_16 : decode cX8_init 16 = .ok (.newarray .int, 2) := by decide +kernel
theorem dX8_init_18 : decode cX8_init 18 = .ok (.putfield 15, 3) := by decide +kernel
theorem dX8_init_21 : decode cX8_init 21 = .ok (.aload_n 0, 1) := by decide +kernel
theorem dX8_init_22 : decode cX8_init 22 = .ok (.bipush 16, 2) := by decide +kernel
theorem dX8_init_24 : decode cX8_init 24 = .ok (.newarray .int, 2) := by decide +kernel
theorem dX8_init_26 : decode cX8_init 26 = .ok (.putfield 18, 3) := by decide +kernel
theorem dX8_init_29 : decode cX8_init 29 = .ok (.return_, 1) := by decide +kernel
theorem dX8_beginFrame_0 : decode cX8_beginFrame 0 = .ok (.aload_n 0, 1) := by decide +kernel
theorem dX8_beginFrame_1 : decode cX8_beginFrame 1 = .ok (.bipush 100, 2) := by decide +kernel
theorem dX8_beginFrame_3 : decode cX8_beginFrame 3 = .ok (.putfield 21, 3) := by decide +kernel
theorem dX8_beginFrame_6 : decode cX8_beginFrame 6 = .ok (.iconst 0, 1) := by decide +kernel
theorem dX8_beginFrame_7 : decode cX8_beginFrame 7 = .ok (.istore_n 1, 1) := by decide +kernel
theorem dX8_beginFrame_8 : decode cX8_beginFrame 8 = .ok (.iload_n 1, 1) := by decide +kernel
theorem dX8_beginFrame_9 : decode cX8_beginFrame 9 = .ok (.bipush 16, 2) := by decide +kernel
theorem dX8_beginFrame_11 : decode cX8_beginFrame 11 = .ok (.if_icmp .ge 17, 3) := by decide +kernel
theorem dX8_beginFrame_14 : decode cX8_beginFrame 14 = .ok (.aload_n 0, 1) := by decide +kernel
theorem dX8_beginFrame_15 : decode cX8_beginFrame 15 = .ok (.getfield 18, 3) := by decide +kernel
theorem dX8_beginFrame_18 : decode cX8_beginFrame 18 = .ok (.iload_n 1, 1) := by decide +kernel
theorem dX8_beginFrame_19 : decode cX8_beginFrame 19 = .ok (.bipush 60, 2) := by decide +kernel
theorem dX8_beginFrame_21 : decode cX8_beginFrame 21 = .ok (.iastore, 1) := by decide +kernel
theorem dX8_beginFrame_22 : decode cX8_beginFrame 22 = .ok (.iinc 1 1, 3) := by decide +kernel
theorem dX8_beginFrame_25 : decode cX8_beginFrame 25 = .ok (.goto (-17), 3) := by decide +kernel
theorem dX8_beginFrame_28 : decode cX8_beginFrame 28 = .ok (.return_, 1) := by decide +kernel
set_option maxRecDepth 20000 in
theorem ggX9_init_X0_init : GoodIn wsX9_init wsX0_init := goodIn_r _ [35, 36, 2, 3, 6, 37, 113, 114, 115, 116] (by decide +kernel) (by decide +kernel)
set_option maxRecDepth 20000 in
theorem gX9_init_X0_init_n34 : GoodIn wsX9_init (wsX0_init) := ggX9_init_X0_init
set_option maxRecDepth 20000 in
theorem ggX9_init_X8_init : GoodIn wsX9_init wsX8_init := goodIn_r _ [39, 40, 2, 3, 6, 41, 42, 43, 117, 118, 119, 120, 121] (by decide +kernel) (by decide +kernel)
set_option maxRecDepth 20000 in
theorem gX9_init_X8_init_n44 : GoodIn wsX9_init (wsX8_init) := ggX9_init_X8_init
set_option maxRecDepth 20000 in
theorem ggX9_init_X3_init : GoodIn wsX9_init wsX3_init := goodIn_r _ [45, 46, 2, 3, 47, 48, 6, 49, 50, 51, 122, 123, 124, 125, 126, 127, 128, 129, 130, 131] (by decide +kernel) (by decide +kernel)
set_option maxRecDepth 20000 in
theorem gX9_init_X3_init_n51 : GoodIn wsX9_init (wsX3_init) := ggX9_init_X3_init
set_option maxRecDepth 20000 in
theorem ggX9_init_X6_init : GoodIn wsX9_init wsX6_init := goodIn_r _ [53, 54, 2, 3] (by decide +kernel) (by decide +kernel)
set_option maxRecDepth 20000 in
theorem gX9_init_X6_init_n58 : GoodIn wsX9_init (wsX6_init) := ggX9_init_X6_init
set_option maxRecDepth 20000 in
theorem ggX9_init_X1_init : GoodIn wsX9_init wsX1_init := goodIn_r _ [56, 57, 2, 3, 58, 59, 60, 61, 62, 63, 64, 65, 66, 67, 68, 69, 70, 71, 72, 73, 74, 75, 76, 77, 78, 79, 80, 13, 14, 81, 82, 83, 34, 35, 36, 6, 37, 135, 136, 137, 138, 139, 140, 141, 142, 143, 144, 145, 146, 147, 148, 149, 150, 151, 152, 153, 154, 169, 170, 171, 172, 173, 174, 175, 176, 177, 178, 179, 113, 114, 115, 116] (by decide +kernel) (by decide +kernel)
set_option maxRecDepth 20000 in
theorem gX9_init_X1_init_n63 : GoodIn wsX9_init (wsX1_init) := ggX9_init_X1_init
set_option maxRecDepth 20000 in
theorem ggX9_init_X5_init : GoodIn wsX9_init wsX5_init := goodIn_r _ [85, 86, 2, 3, 87, 88, 89, 90, 91, 92, 93, 94, 95, 96, 97, 98, 6, 99, 155, 156, 157, 158, 159, 160, 161, 162, 163, 164, 165, 166, 167, 168, 180, 181, 182, 183, 184, 185] (by decide +kernel) (by decide +kernel)
set_option maxRecDepth 20000 in
theorem gX9_init_X5_init_n66 : GoodIn wsX9_init (wsX5_init) := ggX9_init_X5_init
theorem dX9_init_0 : decode cX9_init 0 = .ok (.aload_n 0, 1) := by decide +kernel
theorem dX9_init_1 : decode cX9_init 1 = .ok (.invokespecial 1, 3) := by decide +kernel
theorem dX9_init_4 : decode cX9_init 4 = .ok (.aload_n 0, 1) := by decide +kernel
theorem dX9_init_5 : decode cX9_init 5 = .ok (.bipush 16, 2) := by decide +kernel
theorem dX9_init_7 : decode cX9_init 7 = .ok (.anewarray 9, 3) := by decide +kernel
theorem dX9_init_10 : decode cX9_init 10 = .ok (.putfield 11, 3) := by decide +kernel
theorem dX9_init_13 : decode cX9_init 13 = .ok (.aload_n 0, 1) := by decide +kernel
theorem dX9_init_14 : decode cX9_init 14 = .ok (.bipush 8, 2) := by decide +kernel
theorem dX9_init_16 : decode cX9_init 16 = .ok (.newarray .int, 2) := by decide +kernel
theorem dX9_init_18 : decode cX9_init 18 = .ok (.putfield 15, 3) := by decide +kernel
theorem dX9_init_21 : decode cX9_init 21 = .ok (.aload_n 0, 1) := by decide +kernel
theorem dX9_init_22 : decode cX9_init 22 = .ok (.bipush 8, 2) := by decide +kernel
theorem dX9_init_24 : decode cX9_init 24 = .ok (.newarray .int, 2) := by decide +kernel
theorem dX9_init_26 : decode cX9_init 26 = .ok (.putfield 19, 3) := by decide +kernel
theorem dX9_init_29 : decode cX9_init 29 = .ok (.aload_n 0, 1) := by decide +kernel
theorem dX9_init_30 : decode cX9_init 30 = .ok (.bipush 12, 2) := by decide +kernel
theorem dX9_init_32 : decode cX9_init 32 = .ok (.anewarray 22, 3) := by decide +kernel
theorem dX9_init_35 : decode cX9_init 35 = .ok (.putfield 24, 3) := by decide +kernel
theorem dX9_init_38 : decode cX9_init 38 = .ok (.aload_n 0, 1) := by decide +kernel
theorem dX9_init_39 : decode cX9_init 39 = .ok (.bipush 11, 2) := by decide +kernel
theorem dX9_init_41 : decode cX9_init 41 = .ok (.putfield 28, 3) := by decide +kernel
theorem dX9_init_44 : decode cX9_init 44 = .ok (.aload_n 0, 1) := by decide +kernel
theorem dX9_init_45 : decode cX9_init 45 = .ok (.new 32, 3) := by decide +kernel
theorem dX9_init_48 : decode cX9_init 48 = .ok (.dup, 1) := by decide +kernel
theorem dX9_init_49 : decode cX9_init 49 = .ok (.invokespecial 34, 3) := by decide +kernel
theorem dX9_init_52 : decode cX9_init 52 = .ok (.putfield 35, 3) := by decide +kernel
theorem dX9_init_55 : decode cX9_init 55 = .ok (.aload_n 0, 1) := by decide +kernel
theorem dX9_init_56 : decode cX9_init 56 = .ok (.new 32, 3) := by decide +kernel
theorem dX9_init_59 : decode cX9_init 59 = .ok (.dup, 1) := by decide +kernel
theorem dX9_init_60 : decode cX9_init 60 = .ok (.invokespecial 34, 3) := by decide +kernel
theorem dX9_init_63 : decode cX9_init 63 = .ok (.putfield 39, 3) := by decide +kernel
theorem dX9_init_66 : decode cX9_init 66 = .ok (.aload_n 0, 1) := by decide +kernel
theorem dX9_init_67 : decode cX9_init 67 = .ok (.new 42, 3) := by decide +kernel
theorem dX9_init_70 : decode cX9_init 70 = .ok (.dup, 1) := by decide +kernel
theorem dX9_init_71 : decode cX9_init 71 = .ok (.invokespecial 44, 3) := by decide +kernel
theorem dX9_init_74 : decode cX9_init 74 = .ok (.putfield 45, 3) := by decide +kernel
theorem dX9_init_77 : decode cX9_init 77 = .ok (.aload_n 0, 1) := by decide +kernel
theorem dX9_init_78 : decode cX9_init 78 = .ok (.new 49, 3) := by decide +kernel
theorem dX9_init_81 : decode cX9_init 81 = .ok (.dup, 1) := by decide +kernel
theorem dX9_init_82 : decode cX9_init 82 = .ok (.invokespecial 51, 3) := by decide +kernel
theorem dX9_init_85 : decode cX9_init 85 = .ok (.putfield 52, 3) := by decide +kernel
theorem dX9_init_88 : decode cX9_init 88 = .ok (.aload_n 0, 1) := by decide +kernel
theorem dX9_init_89 : decode cX9_init 89 = .ok (.new 56, 3) := by decide +kernel
theorem dX9_init_92 : decode cX9_init 92 = .ok (.dup, 1) := by decide +kernel
theorem dX9_init_93 : decode cX9_init 93 = .ok (.invokespecial 58, 3) := by decide +kernel
theorem dX9_init_96 : decode cX9_init 96 = .ok (.putfield 59, 3) := by decide +kernel
theorem dX9_init_99 : decode cX9_init 99 = .ok (.iconst 0, 1) := by decide +kernel
theorem dX9_init_100 : decode cX9_init 100 = .ok (.istore_n 1, 1) := by decide +kernel
theorem dX9_init_101 : decode cX9_init 101 = .ok (.iload_n 1, 1) := by decide +kernel
theorem dX9_init_102 : decode cX9_init 102 = .ok (.bipush 16, 2) := by decide +kernel
theorem dX9_init_104 : decode cX9_init 104 = .ok (.if_icmp .ge 23, 3) := by decide +kernel
theorem dX9_init_107 : decode cX9_init 107 = .ok (.aload_n 0, 1) := by decide +kernel
theorem dX9_init_108 : decode cX9_init 108 = .ok (.getfield 11, 3) := by decide +kernel
theorem dX9_init_111 : decode cX9_init 111 = .ok (.iload_n 1, 1) := by decide +kernel
theorem dX9_init_112 : decode cX9_init 112 = .ok (.new 9, 3) := by decide +kernel
theorem dX9_init_115 : decode cX9_init 115 = .ok (.dup, 1) := by decide +kernel
theorem dX9_init_116 : decode cX9_init 116 = .ok (.iload_n 1, 1) := by decide +kernel
theorem dX9_init_117 : decode cX9_init 117 = .ok (.invokespecial 63, 3) := by decide +kernel
theorem dX9_init_120 : decode cX9_init 120 = .ok (.aastore, 1) := by decide +kernel
theorem dX9_init_121 : decode cX9_init 121 = .ok (.iinc 1 1, 3) := by decide +kernel
theorem dX9_init_124 : decode cX9_init 124 = .ok (.goto (-23), 3) := by decide +kernel
theorem dX9_init_127 : decode cX9_init 127 = .ok (.iconst 0, 1) := by decide +kernel
theorem dX9_init_128 : decode cX9_init 128 = .ok (.istore_n 1, 1) := by decide +kernel
theorem dX9_init_129 : decode cX9_init 129 = .ok (.iload_n 1, 1) := by decide +kernel
theorem dX9_init_130 : decode cX9_init 130 = .ok (.bipush 12, 2) := by decide +kernel
theorem dX9_init_132 : decode cX9_init 132 = .ok (.if_icmp .ge 23, 3) := by decide +kernel
theorem dX9_init_135 : decode cX9_init 135 = .ok (.aload_n 0, 1) := by decide +kernel
theorem dX9_init_136 : decode cX9_init 136 = .ok (.getfield 24, 3) := by decide +kernel
theorem dX9_init_139 : decode cX9_init 139 = .ok (.iload_n 1, 1) := by decide +kernel
theorem dX9_init_140 : decode cX9_init 140 = .ok (.new 22, 3) := by decide +kernel
theorem dX9_init_143 : decode cX9_init 143 = .ok (.dup, 1) := by decide +kernel
theorem dX9_init_144 : decode cX9_init 144 = .ok (.iload_n 1, 1) := by decide +kernel
theorem dX9_init_145 : decode cX9_init 145 = .ok (.invokespecial 66, 3) := by decide +kernel
theorem dX9_init_148 : decode cX9_init 148 = .ok (.aastore, 1) := by decide +kernel
theorem dX9_init_149 : decode cX9_init 149 = .ok (.iinc 1 1, 3) := by decide +kernel
theorem dX9_init_152 : decode cX9_init 152 = .ok (.goto (-23), 3) := by decide +kernel
theorem dX9_init_155 : decode cX9_init 155 = .ok (.aload_n 0, 1) := by decide +kernel
theorem dX9_init_156 : decode cX9_init 156 = .ok (.getfield 11, 3) := by decide +kernel
theorem dX9_init_159 : decode cX9_init 159 = .ok (.iconst 0, 1) := by decide +kernel
theorem dX9_init_160 : decode cX9_init 160 = .ok (.aaload, 1) := by decide +kernel
theorem dX9_init_161 : decode cX9_init 161 = .ok (.astore_n 1, 1) := by decide +kernel
theorem dX9_init_162 : decode cX9_init 162 = .ok (.aload_n 1, 1) := by decide +kernel
theorem dX9_init_163 : decode cX9_init 163 = .ok (.iconst 4, 1) := by decide +kernel
theorem dX9_init_164 : decode cX9_init 164 = .ok (.putfield 67, 3) := by decide +kernel
theorem dX9_init_167 : decode cX9_init 167 = .ok (.aload_n 1, 1) := by decide +kernel
theorem dX9_init_168 : decode cX9_init 168 = .ok (.iconst 1, 1) := by decide +kernel
theorem dX9_init_169 : decode cX9_init 169 = .ok (.putfield 70, 3) := by decide +kernel
theorem dX9_init_172 : decode cX9_init 172 = .ok (.aload_n 1, 1) := by decide +kernel
theorem dX9_init_173 : decode cX9_init 173 = .ok (.bipush 99, 2) := by decide +kernel
theorem dX9_init_175 : decode cX9_init 175 = .ok (.putfield 74, 3) := by decide +kernel
theorem dX9_init_178 : decode cX9_init 178 = .ok (.aload_n 1, 1) := by decide +kernel
theorem dX9_init_179 : decode cX9_init 179 = .ok (.iconst 0, 1) := by decide +kernel
theorem dX9_init_180 : decode cX9_init 180 = .ok (.putfield 78, 3) := by decide +kernel
theorem dX9_init_183 : decode cX9_init 183 = .ok (.aload_n 0, 1) := by decide +kernel
theorem dX9_init_184 : decode cX9_init 184 = .ok (.iconst 1, 1) := by decide +kernel
theorem dX9_init_185 : decode cX9_init 185 = .ok (.putfield 81, 3) := by decide +kernel
theorem dX9_init_188 : decode cX9_init 188 = .ok (.return_, 1) := by decide +kernel
set_option maxRecDepth 20000 in
theorem ggX9_make_X9_isSpeed : GoodIn wsX9_make wsX9_isSpeed := goodIn_r _ [10] (by decide +kernel) (by decide +kernel)
set_option maxRecDepth 20000 in
theorem gX9_make_X9_isSpeed : GoodIn wsX9_make (va_wsS RX9 84 yX9_isSpeed wsX9_isSpeed) := goodIn_app (goodIn_of _ (by decide +kernel)) ggX9_make_X9_isSpeed
set_option maxRecDepth 20000 in
theorem ggX9_make_X9_isWithin : GoodIn wsX9_make wsX9_isWithin := goodIn_r _ [13] (by decide +kernel) (by decide +kernel)
set_option maxRecDepth 20000 in
theorem gX9_make_X9_isWithin : GoodIn wsX9_make (va_wsS RX9 88 yX9_isWithin wsX9_isWithin) := goodIn_app (goodIn_of _ (by decide +kernel)) ggX9_make_X9_isWithin
theorem dX9_make_0 : decode cX9_make 0 = .ok (.iload_n 1, 1) := by decide +kernel
theorem dX9_make_1 : decode cX9_make 1 = .ok (.invokestatic 84, 3) := by decide +kernel
theorem dX9_make_4 : decode cX9_make 4 = .ok (.ifCond .eq 32, 3) := by decide +kernel
theorem dX9_make_7 : decode cX9_make 7 = .ok (.iload_n 2, 1) := by decide +kernel
theorem dX9_make_8 : decode cX9_make 8 = .ok (.iconst 0, 1) := by decide +kernel
theorem dX9_make_9 : decode cX9_make 9 = .ok (.iconst 4, 1) := by decide +kernel
theorem dX9_make_10 : decode cX9_make 10 = .ok (.invokestatic 88, 3) := by decide +kernel
theorem dX9_make_13 : decode cX9_make 13 = .ok (.ifCond .eq 23, 3) := by decide +kernel
theorem dX9_make_16 : decode cX9_make 16 = .ok (.iload_n 3, 1) := by decide +kernel
theorem dX9_make_17 : decode cX9_make 17 = .ok (.iconst 1, 1) := by decide +kernel
theorem dX9_make_18 : decode cX9_make 18 = .ok (.iconst 5, 1) := by decide +kernel
theorem dX9_make_19 : decode cX9_make 19 = .ok (.invokestatic 88, 3) := by decide +kernel
theorem dX9_make_22 : decode cX9_make 22 = .ok (.ifCond .eq 14, 3) := by decide +kernel
theorem dX9_make_25 : decode cX9_make 25 = .ok (.iload 5, 2) := by decide +kernel
theorem dX9_make_27 : decode cX9_make 27 = .ok (.iconst 0, 1) := by decide +kernel
theorem dX9_make_28 : decode cX9_make 28 = .ok (.bipush 99, 2) := by decide +kernel
theorem dX9_make_30 : decode cX9_make 30 = .ok (.invokestatic 88, 3) := by decide +kernel
theorem dX9_make_33 : decode cX9_make 33 = .ok (.ifCond .ne 13, 3) := by decide +kernel
theorem dX9_make_36 : decode cX9_make 36 = .ok (.new 92, 3) := by decide +kernel
theorem dX9_make_39 : decode cX9_make 39 = .ok (.dup, 1) := by decide +kernel
theorem dX9_make_40 : decode cX9_make 40 = .ok (.ldc 94, 2) := by decide +kernel
theorem dX9_make_42 : decode cX9_make 42 = .ok (.invokespecial 96, 3) := by decide +kernel
theorem dX9_make_45 : decode cX9_make 45 = .ok (.athrow, 1) := by decide +kernel
theorem dX9_make_46 : decode cX9_make 46 = .ok (.iload_n 1, 1) := by decide +kernel
theorem dX9_make_47 : decode cX9_make 47 = .ok (.bipush 108, 2) := by decide +kernel
theorem dX9_make_49 : decode cX9_make 49 = .ok (.if_icmp .ne 17, 3) := by decide +kernel
theorem dX9_make_52 : decode cX9_make 52 = .ok (.iload_n 2, 1) := by decide +kernel
theorem dX9_make_53 : decode cX9_make 53 = .ok (.ifCond .le 13, 3) := by decide +kernel
theorem dX9_make_56 : decode cX9_make 56 = .ok (.new 92, 3) := by decide +kernel
theorem dX9_make_59 : decode cX9_make 59 = .ok (.dup, 1) := by decide +kernel
theorem dX9_make_60 : decode cX9_make 60 = .ok (.ldc 99, 2) := by decide +kernel
theorem dX9_make_62 : decode cX9_make 62 = .ok (.invokespecial 96, 3) := by decide +kernel
theorem dX9_make_65 : decode cX9_make 65 = .ok (.athrow, 1) := by decide +kernel
theorem dX9_make_66 : decode cX9_make 66 = .ok (.aload_n 0, 1) := by decide +kernel
theorem dX9_make_67 : decode cX9_make 67 = .ok (.getfield 81, 3) := by decide +kernel
theorem dX9_make_70 : decode cX9_make 70 = .ok (.bipush 16, 2) := by decide +kernel
theorem dX9_make_72 : decode cX9_make 72 = .ok (.if_icmp .lt 13, 3) := by decide +kernel
theorem dX9_make_85 : decode cX9_make 85 = .ok (.aload_n 0, 1) := by decide +kernel
theorem dX9_make_86 : decode cX9_make 86 = .ok (.getfield 11, 3) := by decide +kernel
theorem dX9_make_89 : decode cX9_make 89 = .ok (.aload_n 0, 1) := by decide +kernel
theorem dX9_make_90 : decode cX9_make 90 = .ok (.getfield 81, 3) := by decide +kernel
theorem dX9_make_93 : decode cX9_make 93 = .ok (.aaload, 1) := by decide +kernel
theorem dX9_make_94 : decode cX9_make 94 = .ok (.astore 6, 2) := by decide +kernel
theorem dX9_make_96 : decode cX9_make 96 = .ok (.aload 6, 2) := by decide +kernel
theorem dX9_make_98 : decode cX9_make 98 = .ok (.iload_n 1, 1) := by decide +kernel
theorem dX9_make_99 : decode cX9_make 99 = .ok (.putfield 106, 3) := by decide +kernel
theorem dX9_make_102 : decode cX9_make 102 = .ok (.aload 6, 2) := by decide +kernel
theorem dX9_make_104 : decode cX9_make 104 = .ok (.iload_n 1, 1) := by decide +kernel
theorem dX9_make_105 : decode cX9_make 105 = .ok (.putfield 109, 3) := by decide +kernel
theorem dX9_make_108 : decode cX9_make 108 = .ok (.aload 6, 2) := by decide +kernel
theorem dX9_make_110 : decode cX9_make 110 = .ok (.iload_n 2, 1) := by decide +kernel
theorem dX9_make_111 : decode cX9_make 111 = .ok (.putfield 67, 3) := by decide +kernel
theorem dX9_make_114 : decode cX9_make 114 = .ok (.aload 6, 2) := by decide +kernel
theorem dX9_make_116 : decode cX9_make 116 = .ok (.iload_n 3, 1) := by decide +kernel
theorem dX9_make_117 : decode cX9_make 117 = .ok (.putfield 112, 3) := by decide +kernel
theorem dX9_make_120 : decode cX9_make 120 = .ok (.aload 6, 2) := by decide +kernel
theorem dX9_make_122 : decode cX9_make 122 = .ok (.iload_n 3, 1) := by decide +kernel
theorem dX9_make_123 : decode cX9_make 123 = .ok (.putfield 115, 3) := by decide +kernel
theorem dX9_make_126 : decode cX9_make 126 = .ok (.aload 6, 2) := by decide +kernel
theorem dX9_make_128 : decode cX9_make 128 = .ok (.iload 4, 2) := by decide +kernel
theorem dX9_make_130 : decode cX9_make 130 = .ok (.putfield 70, 3) := by decide +kernel
theorem dX9_make_133 : decode cX9_make 133 = .ok (.aload 6, 2) := by decide +kernel
theorem dX9_make_135 : decode cX9_make 135 = .ok (.iload 5, 2) := by decide +kernel
theorem dX9_make_137 : decode cX9_make 137 = .ok (.putfield 118, 3) := by decide +kernel
theorem dX9_make_140 : decode cX9_make 140 = .ok (.aload_n 0, 1) := by decide +kernel
theorem dX9_make_141 : decode cX9_make 141 = .ok (.dup, 1) := by decide +kernel
theorem dX9_make_142 : decode cX9_make 142 = .ok (.getfield 81, 3) := by decide +kernel
theorem dX9_make_145 : decode cX9_make 145 = .ok (.iconst 1, 1) := by decide +kernel
theorem dX9_make_146 : decode cX9_make 146 = .ok (.iadd, 1) := by decide +kernel
theorem dX9_make_147 : decode cX9_make 147 = .ok (.putfield 81, 3) := by decide +kernel
theorem dX9_make_150 : decode cX9_make 150 = .ok (.aload 6, 2) := by decide +kernel
theorem dX9_make_152 : decode cX9_make 152 = .ok (.getfield 121, 3) := by decide +kernel
theorem dX9_make_155 : decode cX9_make 155 = .ok (.ireturn, 1) := by decide +kernel
set_option maxRecDepth 20000 in
theorem ggX9_endpoint_X9_deviceAt : GoodIn wsX9_endpoint wsX9_deviceAt := goodIn_ca (goodIn_r _ [9, 10, 11, 12, 13, 51, 52, 53, 54, 55, 56, 57, 58, 59, 60, 61, 62, 63] (by decide +kernel) (by decide +kernel)) (goodIn_sub (fun _ h => List.mem_cons_of_mem _ (List.mem_append_right _ h)) (by decide +kernel))
set_option maxRecDepth 20000 in
theorem gX9_endpoint_X9_deviceAt : GoodIn wsX9_endpoint (wsV RX9 124 RX9 yX9_deviceAt wsX9_deviceAt) := goodIn_app (goodIn_of _ (by decide +kernel)) ggX9_endpoint_X9_deviceAt
set_option maxRecDepth 20000 in
theorem ggX9_endpoint_X9_isWithin : GoodIn wsX9_endpoint wsX9_isWithin := goodIn_r _ [16] (by decide +kernel) (by decide +kernel)
set_option maxRecDepth 20000 in
theorem gX9_endpoint_X9_isWithin : GoodIn wsX9_endpoint (va_wsS RX9 88 yX9_isWithin wsX9_isWithin) := goodIn_app (goodIn_of _ (by decide +kernel)) ggX9_endpoint_X9_isWithin
theorem dX9_endpoint_0 : decode cX9_endpoint 0 = .ok (.aload_n 0, 1) := by decide +kernel
theorem dX9_endpoint_1 : decode cX9_endpoint 1 = .ok (.iload_n 1, 1) := by decide +kernel
theorem dX9_endpoint_2 : decode cX9_endpoint 2 = .ok (.invokevirtual 124, 3) := by decide +kernel
theorem dX9_endpoint_5 : decode cX9_endpoint 5 = .ok (.astore 5, 2) := by decide +kernel
theorem dX9_endpoint_7 : decode cX9_endpoint 7 = .ok (.iload_n 2, 1) := by decide +kernel
theorem dX9_endpoint_8 : decode cX9_endpoint 8 = .ok (.iconst 1, 1) := by decide +kernel
theorem dX9_endpoint_9 : decode cX9_endpoint 9 = .ok (.iconst 3, 1) := by decide +kernel
theorem dX9_endpoint_10 : decode cX9_endpoint 10 = .ok (.invokestatic 88, 3) := by decide +kernel
theorem dX9_endpoint_13 : decode cX9_endpoint 13 = .ok (.ifCond .eq 14, 3) := by decide +kernel
theorem dX9_endpoint_16 : decode cX9_endpoint 16 = .ok (.iload 4, 2) := by decide +kernel
theorem dX9_endpoint_18 : decode cX9_endpoint 18 = .ok (.iconst 1, 1) := by decide +kernel
theorem dX9_endpoint_19 : decode cX9_endpoint 19 = .ok (.bipush 8, 2) := by decide +kernel
theorem dX9_endpoint_21 : decode cX9_endpoint 21 = .ok (.invokestatic 88, 3) := by decide +kernel
theorem dX9_endpoint_24 : decode cX9_endpoint 24 = .ok (.ifCond .ne 13, 3) := by decide +kernel
theorem dX9_endpoint_27 : decode cX9_endpoint 27 = .ok (.new 92, 3) := by decide +kernel
theorem dX9_endpoint_30 : decode cX9_endpoint 30 = .ok (.dup, 1) := by decide +kernel
theorem dX9_endpoint_31 : decode cX9_endpoint 31 = .ok (.ldc 128, 2) := by decide +kernel
theorem dX9_endpoint_33 : decode cX9_endpoint 33 = .ok (.invokespecial 96, 3) := by decide +kernel
theorem dX9_endpoint_36 : decode cX9_endpoint 36 = .ok (.athrow, 1) := by decide +kernel
theorem dX9_endpoint_37 : decode cX9_endpoint 37 = .ok (.aload 5, 2) := by decide +kernel
theorem dX9_endpoint_39 : decode cX9_endpoint 39 = .ok (.getfield 130, 3) := by decide +kernel
theorem dX9_endpoint_42 : decode cX9_endpoint 42 = .ok (.iload_n 2, 1) := by decide +kernel
theorem dX9_endpoint_43 : decode cX9_endpoint 43 = .ok (.iconst 1, 1) := by decide +kernel
theorem dX9_endpoint_44 : decode cX9_endpoint 44 = .ok (.isub, 1) := by decide +kernel
theorem dX9_endpoint_45 : decode cX9_endpoint 45 = .ok (.aaload, 1) := by decide +kernel
theorem dX9_endpoint_46 : decode cX9_endpoint 46 = .ok (.astore 6, 2) := by decide +kernel
theorem dX9_endpoint_48 : decode cX9_endpoint 48 = .ok (.aload 6, 2) := by decide +kernel
theorem dX9_endpoint_50 : decode cX9_endpoint 50 = .ok (.getfield 134, 3) := by decide +kernel
theorem dX9_endpoint_53 : decode cX9_endpoint 53 = .ok (.ifCond .ne 13, 3) := by decide +kernel
theorem dX9_endpoint_56 : decode cX9_endpoint 56 = .ok (.aload 5, 2) := by decide +kernel
theorem dX9_endpoint_58 : decode cX9_endpoint 58 = .ok (.getfield 74, 3) := by decide +kernel
theorem dX9_endpoint_61 : decode cX9_endpoint 61 = .ok (.bipush 117, 2) := by decide +kernel
theorem dX9_endpoint_63 : decode cX9_endpoint 63 = .ok (.if_icmp .eq 13, 3) := by decide +kernel
theorem dX9_endpoint_66 : decode cX9_endpoint 66 = .ok (.new 139, 3) := by decide +kernel
theorem dX9_endpoint_69 : decode cX9_endpoint 69 = .ok (.dup, 1) := by decide +kernel
theorem dX9_endpoint_70 : decode cX9_endpoint 70 = .ok (.ldc 141, 2) := by decide +kernel
theorem dX9_endpoint_72 : decode cX9_endpoint 72 = .ok (.invokespecial 143, 3) := by decide +kernel
theorem dX9_endpoint_75 : decode cX9_endpoint 75 = .ok (.athrow, 1) := by decide +kernel
set_option maxRecDepth 20000 in
theorem ggX9_plug_X9_deviceAt : GoodIn wsX9_plug wsX9_deviceAt := goodIn_ca (goodIn_r _ [9, 1, 2, 10, 11, 42, 43, 44, 45, 46, 47, 48, 49, 50, 51, 52, 53, 54] (by decide +kernel) (by decide +kernel)) (goodIn_sub (fun _ h => List.mem_cons_of_mem _ (List.mem_append_left _ (List.mem_append_right _ h))) (by decide +kernel))
set_option maxRecDepth 20000 in
theorem gX9_plug_X9_deviceAt : GoodIn wsX9_plug (wsV RX9 124 RX9 yX9_deviceAt wsX9_deviceAt) := goodIn_app (goodIn_of _ (by decide +kernel)) ggX9_plug_X9_deviceAt
theorem dX9_plug_0 : decode cX9_plug 0 = .ok (.aload_n 0, 1) := by decide +kernel
theorem dX9_plug_1 : decode cX9_plug 1 = .ok (.iload_n 1, 1) := by decide +kernel
theorem dX9_plug_2 : decode cX9_plug 2 = .ok (.invokevirtual 124, 3) := by decide +kernel
theorem dX9_plug_5 : decode cX9_plug 5 = .ok (.astore 4, 2) := by decide +kernel
theorem dX9_plug_7 : decode cX9_plug 7 = .ok (.aload_n 0, 1) := by decide +kernel
theorem dX9_plug_8 : decode cX9_plug 8 = .ok (.iload_n 2, 1) := by decide +kernel
theorem dX9_plug_9 : decode cX9_plug 9 = .ok (.invokevirtual 124, 3) := by decide +kernel
theorem dX9_plug_12 : decode cX9_plug 12 = .ok (.astore 5, 2) := by decide +kernel
theorem dX9_plug_14 : decode cX9_plug 14 = .ok (.iload_n 3, 1) := by decide +kernel
theorem dX9_plug_15 : decode cX9_plug 15 = .ok (.ifCond .lt 12, 3) := by decide +kernel
theorem dX9_plug_18 : decode cX9_plug 18 = .ok (.iload_n 3, 1) := by decide +kernel
theorem dX9_plug_19 : decode cX9_plug 19 = .ok (.aload 5, 2) := by decide +kernel
theorem dX9_plug_21 : decode cX9_plug 21 = .ok (.getfield 67, 3) := by decide +kernel
theorem dX9_plug_24 : decode cX9_plug 24 = .ok (.if_icmp .lt 13, 3) := by decide +kernel
theorem dX9_plug_27 : decode cX9_plug 27 = .ok (.new 154, 3) := by decide +kernel
theorem dX9_plug_30 : decode cX9_plug 30 = .ok (.dup, 1) := by decide +kernel
theorem dX9_plug_31 : decode cX9_plug 31 = .ok (.ldc 156, 2) := by decide +kernel
theorem dX9_plug_33 : decode cX9_plug 33 = .ok (.invokespecial 158, 3) := by decide +kernel
theorem dX9_plug_36 : decode cX9_plug 36 = .ok (.athrow, 1) := by decide +kernel
theorem dX9_plug_37 : decode cX9_plug 37 = .ok (.aload 4, 2) := by decide +kernel
theorem dX9_plug_39 : decode cX9_plug 39 = .ok (.getfield 74, 3) := by decide +kernel
theorem dX9_plug_42 : decode cX9_plug 42 = .ok (.bipush 117, 2) := by decide +kernel
theorem dX9_plug_44 : decode cX9_plug 44 = .ok (.if_icmp .ne 21, 3) := by decide +kernel
theorem dX9_plug_65 : decode cX9_plug 65 = .ok (.new 139, 3) := by decide +kernel
theorem dX9_plug_68 : decode cX9_plug 68 = .ok (.dup, 1) := by decide +kernel
theorem dX9_plug_69 : decode cX9_plug 69 = .ok (.ldc 167, 2) := by decide +kernel
theorem dX9_plug_71 : decode cX9_plug 71 = .ok (.invokespecial 143, 3) := by decide +kernel
theorem dX9_plug_74 : decode cX9_plug 74 = .ok (.athrow, 1) := by decide +kernel
set_option maxRecDepth 20000 in
theorem ggX9_unplug_X9_deviceBelowHost : GoodIn wsX9_unplug wsX9_deviceBelowHost := goodIn_ca (goodIn_r _ [7, 8, 9, 10, 11, 12, 6, 13, 14, 15, 115, 116, 117, 118, 119, 120, 121, 122, 123, 124, 125, 126, 127] (by decide +kernel) (by decide +kernel)) (goodIn_sub (fun _ h => List.mem_cons_of_mem _ (List.mem_append_left _ (List.mem_append_right _ h))) (by decide +kernel))
set_option maxRecDepth 20000 in
theorem gX9_unplug_X9_deviceBelowHost : GoodIn wsX9_unplug (wsV RX9 185 RX9 yX9_deviceBelowHost wsX9_deviceBelowHost) := goodIn_app (goodIn_of _ (by decide +kernel)) ggX9_unplug_X9_deviceBelowHost
theorem dX9_unplug_0 : decode cX9_unplug 0 = .ok (.aload_n 0, 1) := by decide +kernel
theorem dX9_unplug_1 : decode cX9_unplug 1 = .ok (.iload_n 1, 1) := by decide +kernel
theorem dX9_unplug_2 : decode cX9_unplug 2 = .ok (.invokevirtual 185, 3) := by decide +kernel
set_option maxRecDepth 20000 in
theorem ggX9_stateOf_X9_deviceAt : GoodIn wsX9_stateOf wsX9_deviceAt := goodIn_ca (goodIn_r _ [5, 6, 7, 8, 9, 30, 31, 32, 33, 34, 35, 36, 37, 38, 39, 40, 41, 42] (by decide +kernel) (by decide +kernel)) (goodIn_sub (fun _ h => List.mem_cons_of_mem _ (List.mem_append_right _ h)) (by decide +kernel))
set_option maxRecDepth 20000 in
theorem gX9_stateOf_X9_deviceAt : GoodIn wsX9_stateOf (wsV RX9 124 RX9 yX9_deviceAt wsX9_deviceAt) := goodIn_app (goodIn_of _ (by decide +kernel)) ggX9_stateOf_X9_deviceAt
theorem dX9_stateOf_0 : decode cX9_stateOf 0 = .ok (.aload_n 0, 1) := by decide +kernel
theorem dX9_stateOf_1 : decode cX9_stateOf 1 = .ok (.iload_n 1, 1) := by decide +kernel
theorem dX9_stateOf_2 : decode cX9_stateOf 2 = .ok (.invokevirtual 124, 3) := by decide +kernel
theorem dX9_stateOf_5 : decode cX9_stateOf 5 = .ok (.getfield 74, 3) := by decide +kernel
theorem dX9_stateOf_8 : decode cX9_stateOf 8 = .ok (.ireturn, 1) := by decide +kernel
set_option maxRecDepth 20000 in
theorem ggX9_hubOf_X9_deviceAt : GoodIn wsX9_hubOf wsX9_deviceAt := goodIn_ca (goodIn_r _ [5, 6, 7, 8, 9, 30, 31, 32, 33, 34, 35, 36, 37, 38, 39, 40, 41, 42] (by decide +kernel) (by decide +kernel)) (goodIn_sub (fun _ h => List.mem_cons_of_mem _ (List.mem_append_right _ h)) (by decide +kernel))
set_option maxRecDepth 20000 in
theorem gX9_hubOf_X9_deviceAt : GoodIn wsX9_hubOf (wsV RX9 124 RX9 yX9_deviceAt wsX9_deviceAt) := goodIn_app (goodIn_of _ (by decide +kernel)) ggX9_hubOf_X9_deviceAt
theorem dX9_hubOf_0 : decode cX9_hubOf 0 = .ok (.aload_n 0, 1) := by decide +kernel
theorem dX9_hubOf_1 : decode cX9_hubOf 1 = .ok (.iload_n 1, 1) := by decide +kernel
theorem dX9_hubOf_2 : decode cX9_hubOf 2 = .ok (.invokevirtual 124, 3) := by decide +kernel
theorem dX9_hubOf_5 : decode cX9_hubOf 5 = .ok (.getfield 171, 3) := by decide +kernel
theorem dX9_hubOf_8 : decode cX9_hubOf 8 = .ok (.astore_n 2, 1) := by decide +kernel
theorem dX9_hubOf_9 : decode cX9_hubOf 9 = .ok (.aload_n 2, 1) := by decide +kernel
theorem dX9_hubOf_10 : decode cX9_hubOf 10 = .ok (.ifnonnull 7, 3) := by decide +kernel
theorem dX9_hubOf_13 : decode cX9_hubOf 13 = .ok (.iconst (-1), 1) := by decide +kernel
theorem dX9_hubOf_14 : decode cX9_hubOf 14 = .ok (.goto 7, 3) := by decide +kernel
theorem dX9_hubOf_21 : decode cX9_hubOf 21 = .ok (.ireturn, 1) := by decide +kernel
set_option maxRecDepth 20000 in
theorem ggX9_depthOf_X9_deviceAt : GoodIn wsX9_depthOf wsX9_deviceAt := goodIn_ca (goodIn_r _ [5, 6, 7, 8, 9, 30, 31, 32, 33, 34, 35, 36, 37, 38, 39, 40, 41, 42] (by decide +kernel) (by decide +kernel)) (goodIn_sub (fun _ h => List.mem_cons_of_mem _ (List.mem_append_right _ h)) (by decide +kernel))
set_option maxRecDepth 20000 in
theorem gX9_depthOf_X9_deviceAt : GoodIn wsX9_depthOf (wsV RX9 124 RX9 yX9_deviceAt wsX9_deviceAt) := goodIn_app (goodIn_of _ (by decide +kernel)) ggX9_depthOf_X9_deviceAt
theorem dX9_depthOf_0 : decode cX9_depthOf 0 = .ok (.aload_n 0, 1) := by decide +kernel
theorem dX9_depthOf_1 : decode cX9_depthOf 1 = .ok (.iload_n 1, 1) := by decide +kernel
theorem dX9_depthOf_2 : decode cX9_depthOf 2 = .ok (.invokevirtual 124, 3) := by decide +kernel
theorem dX9_depthOf_5 : decode cX9_depthOf 5 = .ok (.getfield 78, 3) := by decide +kernel
theorem dX9_depthOf_8 : decode cX9_depthOf 8 = .ok (.ireturn, 1) := by decide +kernel
set_option maxRecDepth 20000 in
theorem ggX9_speedOf_X9_deviceAt : GoodIn wsX9_speedOf wsX9_deviceAt := goodIn_ca (goodIn_r _ [5, 6, 7, 8, 9, 30, 31, 32, 33, 34, 35, 36, 37, 38, 39, 40, 41, 42] (by decide +kernel) (by decide +kernel)) (goodIn_sub (fun _ h => List.mem_cons_of_mem _ (List.mem_append_right _ h)) (by decide +kernel))
set_option maxRecDepth 20000 in
theorem gX9_speedOf_X9_deviceAt : GoodIn wsX9_speedOf (wsV RX9 124 RX9 yX9_deviceAt wsX9_deviceAt) := goodIn_app (goodIn_of _ (by decide +kernel)) ggX9_speedOf_X9_deviceAt
theorem dX9_speedOf_0 : decode cX9_speedOf 0 = .ok (.aload_n 0, 1) := by decide +kernel
theorem dX9_speedOf_1 : decode cX9_speedOf 1 = .ok (.iload_n 1, 1) := by decide +kernel
theorem dX9_speedOf_2 : decode cX9_speedOf 2 = .ok (.invokevirtual 124, 3) := by decide +kernel
theorem dX9_speedOf_5 : decode cX9_speedOf 5 = .ok (.getfield 109, 3) := by decide +kernel
theorem dX9_speedOf_8 : decode cX9_speedOf 8 = .ok (.ireturn, 1) := by decide +kernel
set_option maxRecDepth 20000 in
theorem ggX9_translator_X9_deviceAt : GoodIn wsX9_translator wsX9_deviceAt := goodIn_ca (goodIn_r _ [7, 8, 9, 10, 11, 32, 33, 34, 35, 36, 37, 38, 39, 40, 41, 42, 43, 44] (by decide +kernel) (by decide +kernel)) (goodIn_sub (fun _ h => List.mem_cons_of_mem _ (List.mem_append_right _ h)) (by decide +kernel))
set_option maxRecDepth 20000 in
theorem gX9_translator_X9_deviceAt : GoodIn wsX9_translator (wsV RX9 124 RX9 yX9_deviceAt wsX9_deviceAt) := goodIn_app (goodIn_of _ (by decide +kernel)) ggX9_translator_X9_deviceAt
theorem dX9_translator_0 : decode cX9_translator 0 = .ok (.aload_n 0, 1) := by decide +kernel
theorem dX9_translator_1 : decode cX9_translator 1 = .ok (.iload_n 1, 1) := by decide +kernel
theorem dX9_translator_2 : decode cX9_translator 2 = .ok (.invokevirtual 124, 3) := by decide +kernel
theorem dX9_translator_5 : decode cX9_translator 5 = .ok (.astore_n 2, 1) := by decide +kernel
theorem dX9_translator_6 : decode cX9_translator 6 = .ok (.aload_n 2, 1) := by decide +kernel
theorem dX9_translator_7 : decode cX9_translator 7 = .ok (.getfield 171, 3) := by decide +kernel
theorem dX9_translator_10 : decode cX9_translator 10 = .ok (.ifnonnull 13, 3) := by decide +kernel
theorem dX9_translator_13 : decode cX9_translator 13 = .ok (.new 139, 3) := by decide +kernel
theorem dX9_translator_16 : decode cX9_translator 16 = .ok (.dup, 1) := by decide +kernel
theorem dX9_translator_17 : decode cX9_translator 17 = .ok (.ldc 194, 2) := by decide +kernel
theorem dX9_translator_19 : decode cX9_translator 19 = .ok (.invokespecial 143, 3) := by decide +kernel
theorem dX9_translator_22 : decode cX9_translator 22 = .ok (.athrow, 1) := by decide +kernel
set_option maxRecDepth 20000 in
theorem ggX9_addressOf_X9_deviceAt : GoodIn wsX9_addressOf wsX9_deviceAt := goodIn_ca (goodIn_r _ [5, 6, 7, 8, 9, 30, 31, 32, 33, 34, 35, 36, 37, 38, 39, 40, 41, 42] (by decide +kernel) (by decide +kernel)) (goodIn_sub (fun _ h => List.mem_cons_of_mem _ (List.mem_append_right _ h)) (by decide +kernel))
set_option maxRecDepth 20000 in
theorem gX9_addressOf_X9_deviceAt : GoodIn wsX9_addressOf (wsV RX9 124 RX9 yX9_deviceAt wsX9_deviceAt) := goodIn_app (goodIn_of _ (by decide +kernel)) ggX9_addressOf_X9_deviceAt
theorem dX9_addressOf_0 : decode cX9_addressOf 0 = .ok (.aload_n 0, 1) := by decide +kernel
theorem dX9_addressOf_1 : decode cX9_addressOf 1 = .ok (.iload_n 1, 1) := by decide +kernel
theorem dX9_addressOf_2 : decode cX9_addressOf 2 = .ok (.invokevirtual 124, 3) := by decide +kernel
theorem dX9_addressOf_5 : decode cX9_addressOf 5 = .ok (.getfield 196, 3) := by decide +kernel
theorem dX9_addressOf_8 : decode cX9_addressOf 8 = .ok (.ireturn, 1) := by decide +kernel
set_option maxRecDepth 20000 in
theorem ggX9_look_X9_firstNewDevice : GoodIn wsX9_look wsX9_firstNewDevice := goodIn_r _ [7, 8, 145, 146, 147, 148, 149, 150, 151, 152, 153, 154, 155, 156, 157, 125, 126, 127, 128, 129, 130, 131, 132, 133, 134, 135, 136, 137, 138, 139, 140, 141, 142, 143, 144] (by decide +kernel) (by decide +kernel)
set_option maxRecDepth 20000 in
theorem gX9_look_X9_firstNewDevice : GoodIn wsX9_look (wsV RX9 199 RX9 yX9_firstNewDevice wsX9_firstNewDevice) := goodIn_app (goodIn_of _ (by decide +kernel)) ggX9_look_X9_firstNewDevice
theorem dX9_look_0 : decode cX9_look 0 = .ok (.aload_n 0, 1) := by decide +kernel
theorem dX9_look_1 : decode cX9_look 1 = .ok (.invokevirtual 199, 3) := by decide +kernel
theorem dX9_look_4 : decode cX9_look 4 = .ok (.astore_n 1, 1) := by decide +kernel
theorem dX9_look_5 : decode cX9_look 5 = .ok (.aload_n 1, 1) := by decide +kernel
theorem dX9_look_6 : decode cX9_look 6 = .ok (.ifnonnull 13, 3) := by decide +kernel
theorem dX9_look_9 : decode cX9_look 9 = .ok (.new 203, 3) := by decide +kernel
theorem dX9_look_12 : decode cX9_look 12 = .ok (.dup, 1) := by decide +kernel
theorem dX9_look_13 : decode cX9_look 13 = .ok (.ldc 205, 2) := by decide +kernel
theorem dX9_look_15 : decode cX9_look 15 = .ok (.invokespecial 207, 3) := by decide +kernel
theorem dX9_look_18 : decode cX9_look 18 = .ok (.athrow, 1) := by decide +kernel
set_option maxRecDepth 20000 in
theorem ggX9_driver_X9_isWithin : GoodIn wsX9_driver wsX9_isWithin := goodIn_r _ [11] (by decide +kernel) (by decide +kernel)
set_option maxRecDepth 20000 in
theorem gX9_driver_X9_isWithin : GoodIn wsX9_driver (va_wsS RX9 88 yX9_isWithin wsX9_isWithin) := goodIn_app (goodIn_of _ (by decide +kernel)) ggX9_driver_X9_isWithin
theorem dX9_driver_0 : decode cX9_driver 0 = .ok (.iload_n 1, 1) := by decide +kernel
theorem dX9_driver_1 : decode cX9_driver 1 = .ok (.iconst 0, 1) := by decide +kernel
theorem dX9_driver_2 : decode cX9_driver 2 = .ok (.bipush 9, 2) := by decide +kernel
theorem dX9_driver_4 : decode cX9_driver 4 = .ok (.invokestatic 88, 3) := by decide +kernel
theorem dX9_driver_7 : decode cX9_driver 7 = .ok (.ifCond .eq 13, 3) := by decide +kernel
theorem dX9_driver_10 : decode cX9_driver 10 = .ok (.iload_n 2, 1) := by decide +kernel
theorem dX9_driver_11 : decode cX9_driver 11 = .ok (.iconst (-1), 1) := by decide +kernel
theorem dX9_driver_12 : decode cX9_driver 12 = .ok (.bipush 9, 2) := by decide +kernel
theorem dX9_driver_14 : decode cX9_driver 14 = .ok (.invokestatic 88, 3) := by decide +kernel
theorem dX9_driver_17 : decode cX9_driver 17 = .ok (.ifCond .ne 13, 3) := by decide +kernel
theorem dX9_driver_20 : decode cX9_driver 20 = .ok (.new 92, 3) := by decide +kernel
theorem dX9_driver_23 : decode cX9_driver 23 = .ok (.dup, 1) := by decide +kernel
theorem dX9_driver_24 : decode cX9_driver 24 = .ok (.ldc 229, 2) := by decide +kernel
theorem dX9_driver_26 : decode cX9_driver 26 = .ok (.invokespecial 96, 3) := by decide +kernel
theorem dX9_driver_29 : decode cX9_driver 29 = .ok (.athrow, 1) := by decide +kernel
theorem dX9_driver_30 : decode cX9_driver 30 = .ok (.aload_n 0, 1) := by decide +kernel
theorem dX9_driver_31 : decode cX9_driver 31 = .ok (.getfield 231, 3) := by decide +kernel
theorem dX9_driver_34 : decode cX9_driver 34 = .ok (.bipush 8, 2) := by decide +kernel
theorem dX9_driver_36 : decode cX9_driver 36 = .ok (.if_icmp .lt 13, 3) := by decide +kernel
theorem dX9_driver_49 : decode cX9_driver 49 = .ok (.aload_n 0, 1) := by decide +kernel
theorem dX9_driver_50 : decode cX9_driver 50 = .ok (.getfield 15, 3) := by decide +kernel
theorem dX9_driver_53 : decode cX9_driver 53 = .ok (.aload_n 0, 1) := by decide +kernel
theorem dX9_driver_54 : decode cX9_driver 54 = .ok (.getfield 231, 3) := by decide +kernel
theorem dX9_driver_57 : decode cX9_driver 57 = .ok (.iload_n 1, 1) := by decide +kernel
theorem dX9_driver_58 : decode cX9_driver 58 = .ok (.iastore, 1) := by decide +kernel
theorem dX9_driver_59 : decode cX9_driver 59 = .ok (.aload_n 0, 1) := by decide +kernel
theorem dX9_driver_60 : decode cX9_driver 60 = .ok (.getfield 19, 3) := by decide +kernel
theorem dX9_driver_63 : decode cX9_driver 63 = .ok (.aload_n 0, 1) := by decide +kernel
theorem dX9_driver_64 : decode cX9_driver 64 = .ok (.getfield 231, 3) := by decide +kernel
theorem dX9_driver_67 : decode cX9_driver 67 = .ok (.iload_n 2, 1) := by decide +kernel
theorem dX9_driver_68 : decode cX9_driver 68 = .ok (.iastore, 1) := by decide +kernel
theorem dX9_driver_69 : decode cX9_driver 69 = .ok (.aload_n 0, 1) := by decide +kernel
theorem dX9_driver_70 : decode cX9_driver 70 = .ok (.dup, 1) := by decide +kernel
theorem dX9_driver_71 : decode cX9_driver 71 = .ok (.getfield 231, 3) := by decide +kernel
theorem dX9_driver_74 : decode cX9_driver 74 = .ok (.iconst 1, 1) := by decide +kernel
theorem dX9_driver_75 : decode cX9_driver 75 = .ok (.iadd, 1) := by decide +kernel
theorem dX9_driver_76 : decode cX9_driver 76 = .ok (.putfield 231, 3) := by decide +kernel
theorem dX9_driver_79 : decode cX9_driver 79 = .ok (.aload_n 0, 1) := by decide +kernel
theorem dX9_driver_80 : decode cX9_driver 80 = .ok (.getfield 231, 3) := by decide +kernel
theorem dX9_driver_83 : decode cX9_driver 83 = .ok (.iconst 1, 1) := by decide +kernel
theorem dX9_driver_84 : decode cX9_driver 84 = .ok (.isub, 1) := by decide +kernel
theorem dX9_driver_85 : decode cX9_driver 85 = .ok (.ireturn, 1) := by decide +kernel
set_option maxRecDepth 20000 in
theorem ggX9_driverOf_X9_deviceAt : GoodIn wsX9_driverOf wsX9_deviceAt := goodIn_ca (goodIn_r _ [5, 6, 7, 8, 9, 30, 31, 32, 33, 34, 35, 36, 37, 38, 39, 40, 41, 42] (by decide +kernel) (by decide +kernel)) (goodIn_sub (fun _ h => List.mem_cons_of_mem _ (List.mem_append_right _ h)) (by decide +kernel))
set_option maxRecDepth 20000 in
theorem gX9_driverOf_X9_deviceAt : GoodIn wsX9_driverOf (wsV RX9 124 RX9 yX9_deviceAt wsX9_deviceAt) := goodIn_app (goodIn_of _ (by decide +kernel)) ggX9_driverOf_X9_deviceAt
theorem dX9_driverOf_0 : decode cX9_driverOf 0 = .ok (.aload_n 0, 1) := by decide +kernel
theorem dX9_driverOf_1 : decode cX9_driverOf 1 = .ok (.iload_n 1, 1) := by decide +kernel
theorem dX9_driverOf_2 : decode cX9_driverOf 2 = .ok (.invokevirtual 124, 3) := by decide +kernel
theorem dX9_driverOf_5 : decode cX9_driverOf 5 = .ok (.getfield 226, 3) := by decide +kernel
theorem dX9_driverOf_8 : decode cX9_driverOf 8 = .ok (.ireturn, 1) := by decide +kernel
set_option maxRecDepth 20000 in
theorem ggX9_draw_X9_deviceBelowHost : GoodIn wsX9_draw wsX9_deviceBelowHost := goodIn_ca (goodIn_r _ [7, 8, 9, 10, 11, 12, 6, 13, 14, 15, 42, 43, 44, 45, 46, 47, 48, 49, 50, 51, 52, 53, 54] (by decide +kernel) (by decide +kernel)) (goodIn_sub (fun _ h => List.mem_cons_of_mem _ (List.mem_append_right _ h)) (by decide +kernel))
set_option maxRecDepth 20000 in
theorem gX9_draw_X9_deviceBelowHost : GoodIn wsX9_draw (wsV RX9 185 RX9 yX9_deviceBelowHost wsX9_deviceBelowHost) := goodIn_app (goodIn_of _ (by decide +kernel)) ggX9_draw_X9_deviceBelowHost
theorem dX9_draw_0 : decode cX9_draw 0 = .ok (.aload_n 0, 1) := by decide +kernel
theorem dX9_draw_1 : decode cX9_draw 1 = .ok (.iload_n 1, 1) := by decide +kernel
theorem dX9_draw_2 : decode cX9_draw 2 = .ok (.invokevirtual 185, 3) := by decide +kernel
set_option maxRecDepth 20000 in
theorem ggX9_sleep_X9_deviceBelowHost : GoodIn wsX9_sleep wsX9_deviceBelowHost := goodIn_ca (goodIn_r _ [8, 9, 10, 11, 12, 13, 7, 14, 15, 3, 44, 45, 46, 47, 48, 49, 50, 51, 52, 53, 54, 55, 56] (by decide +kernel) (by decide +kernel)) (goodIn_sub (fun _ h => List.mem_cons_of_mem _ (List.mem_append_right _ h)) (by decide +kernel))
set_option maxRecDepth 20000 in
theorem gX9_sleep_X9_deviceBelowHost : GoodIn wsX9_sleep (wsV RX9 185 RX9 yX9_deviceBelowHost wsX9_deviceBelowHost) := goodIn_app (goodIn_of _ (by decide +kernel)) ggX9_sleep_X9_deviceBelowHost
theorem dX9_sleep_0 : decode cX9_sleep 0 = .ok (.aload_n 0, 1) := by decide +kernel
theorem dX9_sleep_1 : decode cX9_sleep 1 = .ok (.iload_n 1, 1) := by decide +kernel
theorem dX9_sleep_2 : decode cX9_sleep 2 = .ok (.invokevirtual 185, 3) := by decide +kernel
set_option maxRecDepth 20000 in
theorem ggX9_wake_X9_deviceAt : GoodIn wsX9_wake wsX9_deviceAt := goodIn_ca (goodIn_r _ [8, 9, 10, 11, 12, 33, 34, 35, 36, 37, 38, 39, 40, 41, 42, 43, 44, 45] (by decide +kernel) (by decide +kernel)) (goodIn_sub (fun _ h => List.mem_cons_of_mem _ (List.mem_append_right _ h)) (by decide +kernel))
set_option maxRecDepth 20000 in
theorem gX9_wake_X9_deviceAt : GoodIn wsX9_wake (wsV RX9 124 RX9 yX9_deviceAt wsX9_deviceAt) := goodIn_app (goodIn_of _ (by decide +kernel)) ggX9_wake_X9_deviceAt
theorem dX9_wake_0 : decode cX9_wake 0 = .ok (.aload_n 0, 1) := by decide +kernel
theorem dX9_wake_1 : decode cX9_wake 1 = .ok (.iload_n 1, 1) := by decide +kernel
theorem dX9_wake_2 : decode cX9_wake 2 = .ok (.invokevirtual 124, 3) := by decide +kernel
theorem dX9_wake_5 : decode cX9_wake 5 = .ok (.astore_n 2, 1) := by decide +kernel
theorem dX9_wake_6 : decode cX9_wake 6 = .ok (.aload_n 2, 1) := by decide +kernel
theorem dX9_wake_7 : decode cX9_wake 7 = .ok (.getfield 74, 3) := by decide +kernel
theorem dX9_wake_10 : decode cX9_wake 10 = .ok (.bipush 122, 2) := by decide +kernel
theorem dX9_wake_12 : decode cX9_wake 12 = .ok (.if_icmp .eq 13, 3) := by decide +kernel
theorem dX9_wake_15 : decode cX9_wake 15 = .ok (.new 139, 3) := by decide +kernel
theorem dX9_wake_18 : decode cX9_wake 18 = .ok (.dup, 1) := by decide +kernel
theorem dX9_wake_19 : decode cX9_wake 19 = .ok (.ldc 250, 2) := by decide +kernel
theorem dX9_wake_21 : decode cX9_wake 21 = .ok (.invokespecial 143, 3) := by decide +kernel
theorem dX9_wake_24 : decode cX9_wake 24 = .ok (.athrow, 1) := by decide +kernel
set_option maxRecDepth 20000 in
theorem ggX9_five_X9_isWithin : GoodIn wsX9_five wsX9_isWithin := goodIn_r _ [6] (by decide +kernel) (by decide +kernel)
set_option maxRecDepth 20000 in
theorem gX9_five_X9_isWithin : GoodIn wsX9_five (va_wsS RX9 88 yX9_isWithin wsX9_isWithin) := goodIn_app (goodIn_of _ (by decide +kernel)) ggX9_five_X9_isWithin
set_option maxRecDepth 20000 in
theorem ggX9_five_X9_checkBit : GoodIn wsX9_five wsX9_checkBit := goodIn_r _ [9] (by decide +kernel) (by decide +kernel)
set_option maxRecDepth 20000 in
theorem gX9_five_X9_checkBit : GoodIn wsX9_five (va_wsS RX9 260 yX9_checkBit wsX9_checkBit) := goodIn_app (goodIn_of _ (by decide +kernel)) ggX9_five_X9_checkBit
theorem dX9_five_0 : decode cX9_five 0 = .ok (.iload_n 1, 1) := by decide +kernel
theorem dX9_five_1 : decode cX9_five 1 = .ok (.iconst 0, 1) := by decide +kernel
theorem dX9_five_2 : decode cX9_five 2 = .ok (.sipush 2047, 3) := by decide +kernel
theorem dX9_five_5 : decode cX9_five 5 = .ok (.invokestatic 88, 3) := by decide +kernel
theorem dX9_five_8 : decode cX9_five 8 = .ok (.ifCond .ne 14, 3) := by decide +kernel
theorem dX9_five_11 : decode cX9_five 11 = .ok (.new 92, 3) := by decide +kernel
theorem dX9_five_14 : decode cX9_five 14 = .ok (.dup, 1) := by decide +kernel
theorem dX9_five_15 : decode cX9_five 15 = .ok (.ldc_w 258, 3) := by decide +kernel
theorem dX9_five_18 : decode cX9_five 18 = .ok (.invokespecial 96, 3) := by decide +kernel
theorem dX9_five_21 : decode cX9_five 21 = .ok (.athrow, 1) := by decide +kernel
theorem dX9_five_22 : decode cX9_five 22 = .ok (.bipush 31, 2) := by decide +kernel
theorem dX9_five_24 : decode cX9_five 24 = .ok (.istore_n 2, 1) := by decide +kernel
theorem dX9_five_25 : decode cX9_five 25 = .ok (.iconst 0, 1) := by decide +kernel
theorem dX9_five_26 : decode cX9_five 26 = .ok (.istore_n 3, 1) := by decide +kernel
theorem dX9_five_27 : decode cX9_five 27 = .ok (.iload_n 3, 1) := by decide +kernel
theorem dX9_five_28 : decode cX9_five 28 = .ok (.bipush 11, 2) := by decide +kernel
theorem dX9_five_30 : decode cX9_five 30 = .ok (.if_icmp .ge 21, 3) := by decide +kernel
theorem dX9_five_33 : decode cX9_five 33 = .ok (.iload_n 2, 1) := by decide +kernel
theorem dX9_five_34 : decode cX9_five 34 = .ok (.iload_n 1, 1) := by decide +kernel
theorem dX9_five_35 : decode cX9_five 35 = .ok (.iload_n 3, 1) := by decide +kernel
theorem dX9_five_36 : decode cX9_five 36 = .ok (.ishr, 1) := by decide +kernel
theorem dX9_five_37 : decode cX9_five 37 = .ok (.iconst 1, 1) := by decide +kernel
theorem dX9_five_38 : decode cX9_five 38 = .ok (.iand, 1) := by decide +kernel
theorem dX9_five_39 : decode cX9_five 39 = .ok (.iconst 4, 1) := by decide +kernel
theorem dX9_five_40 : decode cX9_five 40 = .ok (.iconst 5, 1) := by decide +kernel
theorem dX9_five_41 : decode cX9_five 41 = .ok (.invokestatic 260, 3) := by decide +kernel
theorem dX9_five_44 : decode cX9_five 44 = .ok (.istore_n 2, 1) := by decide +kernel
theorem dX9_five_45 : decode cX9_five 45 = .ok (.iinc 3 1, 3) := by decide +kernel
theorem dX9_five_48 : decode cX9_five 48 = .ok (.goto (-21), 3) := by decide +kernel
theorem dX9_five_51 : decode cX9_five 51 = .ok (.bipush 31, 2) := by decide +kernel
theorem dX9_five_53 : decode cX9_five 53 = .ok (.iload_n 2, 1) := by decide +kernel
theorem dX9_five_54 : decode cX9_five 54 = .ok (.isub, 1) := by decide +kernel
theorem dX9_five_55 : decode cX9_five 55 = .ok (.ireturn, 1) := by decide +kernel
set_option maxRecDepth 20000 in
theorem ggX9_type_X9_isWithin : GoodIn wsX9_type wsX9_isWithin := goodIn_r _ [9] (by decide +kernel) (by decide +kernel)
set_option maxRecDepth 20000 in
theorem gX9_type_X9_isWithin : GoodIn wsX9_type (va_wsS RX9 88 yX9_isWithin wsX9_isWithin) := goodIn_app (goodIn_of _ (by decide +kernel)) ggX9_type_X9_isWithin
set_option maxRecDepth 20000 in
theorem ggX9_type_X0_add : GoodIn wsX9_type wsX0_add := goodIn_ca (goodIn_r _ [13, 14, 15, 16, 17, 31, 32, 33, 34] (by decide +kernel) (by decide +kernel)) (goodIn_sub (fun _ h => List.mem_cons_of_mem _ (List.mem_append_right _ h)) (by decide +kernel))
set_option maxRecDepth 20000 in
theorem gX9_type_X0_add_n271 : GoodIn wsX9_type (wsX0_add) := ggX9_type_X0_add
theorem dX9_type_0 : decode cX9_type 0 = .ok (.iload_n 1, 1) := by decide +kernel
theorem dX9_type_1 : decode cX9_type 1 = .ok (.iconst 0, 1) := by decide +kernel
theorem dX9_type_2 : decode cX9_type 2 = .ok (.sipush 255, 3) := by decide +kernel
theorem dX9_type_5 : decode cX9_type 5 = .ok (.invokestatic 88, 3) := by decide +kernel
theorem dX9_type_8 : decode cX9_type 8 = .ok (.ifCond .ne 14, 3) := by decide +kernel
theorem dX9_type_11 : decode cX9_type 11 = .ok (.new 92, 3) := by decide +kernel
theorem dX9_type_14 : decode cX9_type 14 = .ok (.dup, 1) := by decide +kernel
theorem dX9_type_15 : decode cX9_type 15 = .ok (.ldc_w 264, 3) := by decide +kernel
theorem dX9_type_18 : decode cX9_type 18 = .ok (.invokespecial 96, 3) := by decide +kernel
theorem dX9_type_21 : decode cX9_type 21 = .ok (.athrow, 1) := by decide +kernel
theorem dX9_type_22 : decode cX9_type 22 = .ok (.aload_n 0, 1) := by decide +kernel
theorem dX9_type_23 : decode cX9_type 23 = .ok (.getfield 35, 3) := by decide +kernel
theorem dX9_type_26 : decode cX9_type 26 = .ok (.getfield 266, 3) := by decide +kernel
theorem dX9_type_29 : decode cX9_type 29 = .ok (.bipush 16, 2) := by decide +kernel
theorem dX9_type_31 : decode cX9_type 31 = .ok (.if_icmp .lt 14, 3) := by decide +kernel
theorem dX9_type_45 : decode cX9_type 45 = .ok (.aload_n 0, 1) := by decide +kernel
theorem dX9_type_46 : decode cX9_type 46 = .ok (.getfield 35, 3) := by decide +kernel
theorem dX9_type_49 : decode cX9_type 49 = .ok (.iload_n 1, 1) := by decide +kernel
theorem dX9_type_50 : decode cX9_type 50 = .ok (.invokevirtual 271, 3) := by decide +kernel
theorem dX9_type_53 : decode cX9_type 53 = .ok (.aload_n 0, 1) := by decide +kernel
theorem dX9_type_54 : decode cX9_type 54 = .ok (.getfield 35, 3) := by decide +kernel
theorem dX9_type_57 : decode cX9_type 57 = .ok (.getfield 266, 3) := by decide +kernel
theorem dX9_type_60 : decode cX9_type 60 = .ok (.ireturn, 1) := by decide +kernel
set_option maxRecDepth 20000 in
theorem ggX9_wipe_X0_drop : GoodIn wsX9_wipe wsX0_drop := goodIn_r _ [5, 6, 7, 8, 9, 10, 11, 25, 26, 27, 28] (by decide +kernel) (by decide +kernel)
set_option maxRecDepth 20000 in
theorem gX9_wipe_X0_drop_n274 : GoodIn wsX9_wipe (wsX0_drop) := ggX9_wipe_X0_drop
theorem dX9_wipe_0 : decode cX9_wipe 0 = .ok (.aload_n 0, 1) := by decide +kernel
theorem dX9_wipe_1 : decode cX9_wipe 1 = .ok (.getfield 35, 3) := by decide +kernel
theorem dX9_wipe_4 : decode cX9_wipe 4 = .ok (.getfield 266, 3) := by decide +kernel
theorem dX9_wipe_7 : decode cX9_wipe 7 = .ok (.istore_n 1, 1) := by decide +kernel
theorem dX9_wipe_8 : decode cX9_wipe 8 = .ok (.aload_n 0, 1) := by decide +kernel
theorem dX9_wipe_9 : decode cX9_wipe 9 = .ok (.getfield 35, 3) := by decide +kernel
theorem dX9_wipe_12 : decode cX9_wipe 12 = .ok (.iload_n 1, 1) := by decide +kernel
theorem dX9_wipe_13 : decode cX9_wipe 13 = .ok (.invokevirtual 274, 3) := by decide +kernel
theorem dX9_wipe_16 : decode cX9_wipe 16 = .ok (.iload_n 1, 1) := by decide +kernel
theorem dX9_wipe_17 : decode cX9_wipe 17 = .ok (.ireturn, 1) := by decide +kernel
theorem dX9_sixteen_0 : decode cX9_sixteen 0 = .ok (.ldc_w 277, 3) := by decide +kernel
theorem dX9_sixteen_3 : decode cX9_sixteen 3 = .ok (.istore_n 1, 1) := by decide +kernel
theorem dX9_sixteen_4 : decode cX9_sixteen 4 = .ok (.iconst 0, 1) := by decide +kernel
theorem dX9_sixteen_5 : decode cX9_sixteen 5 = .ok (.istore_n 2, 1) := by decide +kernel
theorem dX9_sixteen_6 : decode cX9_sixteen 6 = .ok (.iload_n 2, 1) := by decide +kernel
theorem dX9_sixteen_7 : decode cX9_sixteen 7 = .ok (.aload_n 0, 1) := by decide +kernel
theorem dX9_sixteen_8 : decode cX9_sixteen 8 = .ok (.getfield 35, 3) := by decide +kernel
theorem dX9_sixteen_11 : decode cX9_sixteen 11 = .ok (.getfield 266, 3) := by decide +kernel
theorem dX9_sixteen_14 : decode cX9_sixteen 14 = .ok (.if_icmp .ge 50, 3) := by decide +kernel
theorem dX9_sixteen_64 : decode cX9_sixteen 64 = .ok (.ldc_w 277, 3) := by decide +kernel
theorem dX9_sixteen_67 : decode cX9_sixteen 67 = .ok (.iload_n 1, 1) := by decide +kernel
theorem dX9_sixteen_68 : decode cX9_sixteen 68 = .ok (.isub, 1) := by decide +kernel
theorem dX9_sixteen_69 : decode cX9_sixteen 69 = .ok (.ireturn, 1) := by decide +kernel
theorem dX9_stuffed_0 : decode cX9_stuffed 0 = .ok (.iconst 0, 1) := by decide +kernel
theorem dX9_stuffed_1 : decode cX9_stuffed 1 = .ok (.istore_n 1, 1) := by decide +kernel
theorem dX9_stuffed_2 : decode cX9_stuffed 2 = .ok (.iconst 0, 1) := by decide +kernel
theorem dX9_stuffed_3 : decode cX9_stuffed 3 = .ok (.istore_n 2, 1) := by decide +kernel
theorem dX9_stuffed_4 : decode cX9_stuffed 4 = .ok (.iconst 0, 1) := by decide +kernel
theorem dX9_stuffed_5 : decode cX9_stuffed 5 = .ok (.istore_n 3, 1) := by decide +kernel
theorem dX9_stuffed_6 : decode cX9_stuffed 6 = .ok (.iload_n 3, 1) := by decide +kernel
theorem dX9_stuffed_7 : decode cX9_stuffed 7 = .ok (.aload_n 0, 1) := by decide +kernel
theorem dX9_stuffed_8 : decode cX9_stuffed 8 = .ok (.getfield 35, 3) := by decide +kernel
theorem dX9_stuffed_11 : decode cX9_stuffed 11 = .ok (.getfield 266, 3) := by decide +kernel
theorem dX9_stuffed_14 : decode cX9_stuffed 14 = .ok (.if_icmp .ge 68, 3) := by decide +kernel
