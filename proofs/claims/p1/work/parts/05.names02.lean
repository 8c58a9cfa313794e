theorem dX0_init_0 : decode cX0_init 0 = .ok (.aload_n 0, 1) := by decide +kernel
theorem dX0_init_1 : decode cX0_init 1 = .ok (.invokespecial 3, 3) := by decide +kernel
theorem dX0_init_4 : decode cX0_init 4 = .ok (.aload_n 0, 1) := by decide +kernel
theorem dX0_init_5 : decode cX0_init 5 = .ok (.bipush 32, 2) := by decide +kernel
theorem dX0_init_7 : decode cX0_init 7 = .ok (.newarray .int, 2) := by decide +kernel
theorem dX0_init_9 : decode cX0_init 9 = .ok (.putfield 9, 3) := by decide +kernel
theorem dX0_init_12 : decode cX0_init 12 = .ok (.return_, 1) := by decide +kernel
theorem dX0_add_0 : decode cX0_add 0 = .ok (.aload_n 0, 1) := by decide +kernel
theorem dX0_add_1 : decode cX0_add 1 = .ok (.getfield 9, 3) := by decide +kernel
theorem dX0_add_4 : decode cX0_add 4 = .ok (.aload_n 0, 1) := by decide +kernel
theorem dX0_add_5 : decode cX0_add 5 = .ok (.getfield 15, 3) := by decide +kernel
theorem dX0_add_8 : decode cX0_add 8 = .ok (.aload_n 0, 1) := by decide +kernel
theorem dX0_add_9 : decode cX0_add 9 = .ok (.getfield 19, 3) := by decide +kernel
theorem dX0_add_12 : decode cX0_add 12 = .ok (.iadd, 1) := by decide +kernel
theorem dX0_add_13 : decode cX0_add 13 = .ok (.bipush 31, 2) := by decide +kernel
theorem dX0_add_15 : decode cX0_add 15 = .ok (.iand, 1) := by decide +kernel
theorem dX0_add_16 : decode cX0_add 16 = .ok (.iload_n 1, 1) := by decide +kernel
theorem dX0_add_17 : decode cX0_add 17 = .ok (.iastore, 1) := by decide +kernel
theorem dX0_add_18 : decode cX0_add 18 = .ok (.aload_n 0, 1) := by decide +kernel
theorem dX0_add_19 : decode cX0_add 19 = .ok (.dup, 1) := by decide +kernel
theorem dX0_add_20 : decode cX0_add 20 = .ok (.getfield 22, 3) := by decide +kernel
theorem dX0_add_23 : decode cX0_add 23 = .ok (.iconst 1, 1) := by decide +kernel
theorem dX0_add_24 : decode cX0_add 24 = .ok (.iadd, 1) := by decide +kernel
theorem dX0_add_25 : decode cX0_add 25 = .ok (.putfield 22, 3) := by decide +kernel
theorem dX0_add_28 : decode cX0_add 28 = .ok (.aload_n 0, 1) := by decide +kernel
theorem dX0_add_29 : decode cX0_add 29 = .ok (.getfield 19, 3) := by decide +kernel
theorem dX0_add_32 : decode cX0_add 32 = .ok (.bipush 32, 2) := by decide +kernel
theorem dX0_add_34 : decode cX0_add 34 = .ok (.if_icmp .ge 16, 3) := by decide +kernel
theorem dX0_add_37 : decode cX0_add 37 = .ok (.aload_n 0, 1) := by decide +kernel
theorem dX0_add_38 : decode cX0_add 38 = .ok (.dup, 1) := by decide +kernel
theorem dX0_add_39 : decode cX0_add 39 = .ok (.getfield 19, 3) := by decide +kernel
theorem dX0_add_42 : decode cX0_add 42 = .ok (.iconst 1, 1) := by decide +kernel
theorem dX0_add_43 : decode cX0_add 43 = .ok (.iadd, 1) := by decide +kernel
theorem dX0_add_44 : decode cX0_add 44 = .ok (.putfield 19, 3) := by decide +kernel
theorem dX0_add_47 : decode cX0_add 47 = .ok (.goto 16, 3) := by decide +kernel
theorem dX0_add_50 : decode cX0_add 50 = .ok (.aload_n 0, 1) := by decide +kernel
theorem dX0_add_51 : decode cX0_add 51 = .ok (.aload_n 0, 1) := by decide +kernel
theorem dX0_add_52 : decode cX0_add 52 = .ok (.getfield 15, 3) := by decide +kernel
theorem dX0_add_55 : decode cX0_add 55 = .ok (.iconst 1, 1) := by decide +kernel
theorem dX0_add_56 : decode cX0_add 56 = .ok (.iadd, 1) := by decide +kernel
theorem dX0_add_57 : decode cX0_add 57 = .ok (.bipush 31, 2) := by decide +kernel
theorem dX0_add_59 : decode cX0_add 59 = .ok (.iand, 1) := by decide +kernel
theorem dX0_add_60 : decode cX0_add 60 = .ok (.putfield 15, 3) := by decide +kernel
theorem dX0_add_63 : decode cX0_add 63 = .ok (.return_, 1) := by decide +kernel
theorem dX0_at_0 : decode cX0_at 0 = .ok (.aload_n 0, 1) := by decide +kernel
theorem dX0_at_1 : decode cX0_at 1 = .ok (.getfield 9, 3) := by decide +kernel
theorem dX0_at_4 : decode cX0_at 4 = .ok (.aload_n 0, 1) := by decide +kernel
theorem dX0_at_5 : decode cX0_at 5 = .ok (.getfield 15, 3) := by decide +kernel
theorem dX0_at_8 : decode cX0_at 8 = .ok (.iload_n 1, 1) := by decide +kernel
theorem dX0_at_9 : decode cX0_at 9 = .ok (.iadd, 1) := by decide +kernel
theorem dX0_at_10 : decode cX0_at 10 = .ok (.bipush 31, 2) := by decide +kernel
theorem dX0_at_12 : decode cX0_at 12 = .ok (.iand, 1) := by decide +kernel
theorem dX0_at_13 : decode cX0_at 13 = .ok (.iaload, 1) := by decide +kernel
theorem dX0_at_14 : decode cX0_at 14 = .ok (.ireturn, 1) := by decide +kernel
theorem dX0_drop_0 : decode cX0_drop 0 = .ok (.iload_n 1, 1) := by decide +kernel
theorem dX0_drop_1 : decode cX0_drop 1 = .ok (.aload_n 0, 1) := by decide +kernel
theorem dX0_drop_2 : decode cX0_drop 2 = .ok (.getfield 19, 3) := by decide +kernel
theorem dX0_drop_5 : decode cX0_drop 5 = .ok (.invokestatic 25, 3) := by decide +kernel
theorem dX0_drop_8 : decode cX0_drop 8 = .ok (.istore_n 2, 1) := by decide +kernel
theorem dX0_drop_9 : decode cX0_drop 9 = .ok (.aload_n 0, 1) := by decide +kernel
theorem dX0_drop_10 : decode cX0_drop 10 = .ok (.aload_n 0, 1) := by decide +kernel
theorem dX0_drop_11 : decode cX0_drop 11 = .ok (.getfield 15, 3) := by decide +kernel
theorem dX0_drop_14 : decode cX0_drop 14 = .ok (.iload_n 2, 1) := by decide +kernel
theorem dX0_drop_15 : decode cX0_drop 15 = .ok (.iadd, 1) := by decide +kernel
theorem dX0_drop_16 : decode cX0_drop 16 = .ok (.bipush 31, 2) := by decide +kernel
theorem dX0_drop_18 : decode cX0_drop 18 = .ok (.iand, 1) := by decide +kernel
theorem dX0_drop_19 : decode cX0_drop 19 = .ok (.putfield 15, 3) := by decide +kernel
theorem dX0_drop_22 : decode cX0_drop 22 = .ok (.aload_n 0, 1) := by decide +kernel
theorem dX0_drop_23 : decode cX0_drop 23 = .ok (.dup, 1) := by decide +kernel
theorem dX0_drop_24 : decode cX0_drop 24 = .ok (.getfield 19, 3) := by decide +kernel
theorem dX0_drop_27 : decode cX0_drop 27 = .ok (.iload_n 2, 1) := by decide +kernel
theorem dX0_drop_28 : decode cX0_drop 28 = .ok (.isub, 1) := by decide +kernel
theorem dX0_drop_29 : decode cX0_drop 29 = .ok (.putfield 19, 3) := by decide +kernel
theorem dX0_drop_32 : decode cX0_drop 32 = .ok (.return_, 1) := by decide +kernel
set_option maxRecDepth 20000 in
theorem ggX1_init_X4_init : GoodIn wsX1_init wsX4_init := goodIn_r _ [20, 21, 2, 3, 22, 57, 58] (by decide +kernel) (by decide +kernel)
set_option maxRecDepth 20000 in
theorem gX1_init_X4_init_n33 : GoodIn wsX1_init (wsX4_init) := ggX1_init_X4_init
set_option maxRecDepth 20000 in
theorem ggX1_init_X2_init : GoodIn wsX1_init wsX2_init := goodIn_r _ [24, 25, 2, 3, 26, 27, 28, 29, 30, 11, 12, 31, 32, 33, 34, 35, 36, 19, 20, 21, 22, 68, 69, 70, 71, 59, 60, 61, 62, 63, 64, 65, 66, 67, 57, 58] (by decide +kernel) (by decide +kernel)
set_option maxRecDepth 20000 in
theorem gX1_init_X2_init_n47 : GoodIn wsX1_init (wsX2_init) := ggX1_init_X2_init
theorem dX1_init_0 : decode cX1_init 0 = .ok (.aload_n 0, 1) := by decide +kernel
theorem dX1_init_1 : decode cX1_init 1 = .ok (.invokespecial 3, 3) := by decide +kernel
theorem dX1_init_4 : decode cX1_init 4 = .ok (.aload_n 0, 1) := by decide +kernel
theorem dX1_init_5 : decode cX1_init 5 = .ok (.bipush 104, 2) := by decide +kernel
theorem dX1_init_7 : decode cX1_init 7 = .ok (.putfield 9, 3) := by decide +kernel
theorem dX1_init_10 : decode cX1_init 10 = .ok (.aload_n 0, 1) := by decide +kernel
theorem dX1_init_11 : decode cX1_init 11 = .ok (.bipush 117, 2) := by decide +kernel
theorem dX1_init_13 : decode cX1_init 13 = .ok (.putfield 15, 3) := by decide +kernel
theorem dX1_init_16 : decode cX1_init 16 = .ok (.aload_n 0, 1) := by decide +kernel
theorem dX1_init_17 : decode cX1_init 17 = .ok (.iconst (-1), 1) := by decide +kernel
theorem dX1_init_18 : decode cX1_init 18 = .ok (.putfield 18, 3) := by decide +kernel
theorem dX1_init_21 : decode cX1_init 21 = .ok (.aload_n 0, 1) := by decide +kernel
theorem dX1_init_22 : decode cX1_init 22 = .ok (.bipush 104, 2) := by decide +kernel
theorem dX1_init_24 : decode cX1_init 24 = .ok (.putfield 22, 3) := by decide +kernel
theorem dX1_init_27 : decode cX1_init 27 = .ok (.aload_n 0, 1) := by decide +kernel
theorem dX1_init_28 : decode cX1_init 28 = .ok (.iconst (-1), 1) := by decide +kernel
theorem dX1_init_29 : decode cX1_init 29 = .ok (.putfield 25, 3) := by decide +kernel
theorem dX1_init_32 : decode cX1_init 32 = .ok (.aload_n 0, 1) := by decide +kernel
theorem dX1_init_33 : decode cX1_init 33 = .ok (.iconst (-1), 1) := by decide +kernel
theorem dX1_init_34 : decode cX1_init 34 = .ok (.putfield 28, 3) := by decide +kernel
theorem dX1_init_37 : decode cX1_init 37 = .ok (.aload_n 0, 1) := by decide +kernel
theorem dX1_init_38 : decode cX1_init 38 = .ok (.new 31, 3) := by decide +kernel
theorem dX1_init_41 : decode cX1_init 41 = .ok (.dup, 1) := by decide +kernel
theorem dX1_init_42 : decode cX1_init 42 = .ok (.invokespecial 33, 3) := by decide +kernel
theorem dX1_init_45 : decode cX1_init 45 = .ok (.putfield 34, 3) := by decide +kernel
theorem dX1_init_48 : decode cX1_init 48 = .ok (.aload_n 0, 1) := by decide +kernel
theorem dX1_init_49 : decode cX1_init 49 = .ok (.iconst 3, 1) := by decide +kernel
theorem dX1_init_50 : decode cX1_init 50 = .ok (.anewarray 38, 3) := by decide +kernel
theorem dX1_init_53 : decode cX1_init 53 = .ok (.putfield 40, 3) := by decide +kernel
theorem dX1_init_56 : decode cX1_init 56 = .ok (.aload_n 0, 1) := by decide +kernel
theorem dX1_init_57 : decode cX1_init 57 = .ok (.iload_n 1, 1) := by decide +kernel
theorem dX1_init_58 : decode cX1_init 58 = .ok (.putfield 44, 3) := by decide +kernel
theorem dX1_init_61 : decode cX1_init 61 = .ok (.iconst 0, 1) := by decide +kernel
theorem dX1_init_62 : decode cX1_init 62 = .ok (.istore_n 2, 1) := by decide +kernel
theorem dX1_init_63 : decode cX1_init 63 = .ok (.iload_n 2, 1) := by decide +kernel
theorem dX1_init_64 : decode cX1_init 64 = .ok (.iconst 3, 1) := by decide +kernel
theorem dX1_init_65 : decode cX1_init 65 = .ok (.if_icmp .ge 22, 3) := by decide +kernel
theorem dX1_init_68 : decode cX1_init 68 = .ok (.aload_n 0, 1) := by decide +kernel
theorem dX1_init_69 : decode cX1_init 69 = .ok (.getfield 40, 3) := by decide +kernel
theorem dX1_init_72 : decode cX1_init 72 = .ok (.iload_n 2, 1) := by decide +kernel
theorem dX1_init_73 : decode cX1_init 73 = .ok (.new 38, 3) := by decide +kernel
theorem dX1_init_76 : decode cX1_init 76 = .ok (.dup, 1) := by decide +kernel
theorem dX1_init_77 : decode cX1_init 77 = .ok (.invokespecial 47, 3) := by decide +kernel
theorem dX1_init_80 : decode cX1_init 80 = .ok (.aastore, 1) := by decide +kernel
theorem dX1_init_81 : decode cX1_init 81 = .ok (.iinc 2 1, 3) := by decide +kernel
theorem dX1_init_84 : decode cX1_init 84 = .ok (.goto (-21), 3) := by decide +kernel
theorem dX1_init_87 : decode cX1_init 87 = .ok (.return_, 1) := by decide +kernel
theorem dX1_countEndpoints_0 : decode cX1_countEndpoints 0 = .ok (.iconst 0, 1) := by decide +kernel
theorem dX1_countEndpoints_1 : decode cX1_countEndpoints 1 = .ok (.istore_n 1, 1) := by decide +kernel
theorem dX1_countEndpoints_2 : decode cX1_countEndpoints 2 = .ok (.iconst 0, 1) := by decide +kernel
theorem dX1_countEndpoints_3 : decode cX1_countEndpoints 3 = .ok (.istore_n 2, 1) := by decide +kernel
theorem dX1_countEndpoints_4 : decode cX1_countEndpoints 4 = .ok (.iload_n 2, 1) := by decide +kernel
theorem dX1_countEndpoints_5 : decode cX1_countEndpoints 5 = .ok (.iconst 3, 1) := by decide +kernel
theorem dX1_countEndpoints_6 : decode cX1_countEndpoints 6 = .ok (.if_icmp .ge 24, 3) := by decide +kernel
theorem dX1_countEndpoints_9 : decode cX1_countEndpoints 9 = .ok (.aload_n 0, 1) := by decide +kernel
theorem dX1_countEndpoints_10 : decode cX1_countEndpoints 10 = .ok (.getfield 40, 3) := by decide +kernel
theorem dX1_countEndpoints_13 : decode cX1_countEndpoints 13 = .ok (.iload_n 2, 1) := by decide +kernel
theorem dX1_countEndpoints_14 : decode cX1_countEndpoints 14 = .ok (.aaload, 1) := by decide +kernel
theorem dX1_countEndpoints_15 : decode cX1_countEndpoints 15 = .ok (.getfield 48, 3) := by decide +kernel
theorem dX1_countEndpoints_18 : decode cX1_countEndpoints 18 = .ok (.ifCond .eq 6, 3) := by decide +kernel
theorem dX1_countEndpoints_21 : decode cX1_countEndpoints 21 = .ok (.iinc 1 1, 3) := by decide +kernel
theorem dX1_countEndpoints_24 : decode cX1_countEndpoints 24 = .ok (.iinc 2 1, 3) := by decide +kernel
theorem dX1_countEndpoints_27 : decode cX1_countEndpoints 27 = .ok (.goto (-23), 3) := by decide +kernel
theorem dX1_countEndpoints_30 : decode cX1_countEndpoints 30 = .ok (.iload_n 1, 1) := by decide +kernel
theorem dX1_countEndpoints_31 : decode cX1_countEndpoints 31 = .ok (.ireturn, 1) := by decide +kernel
theorem dX1_leave_0 : decode cX1_leave 0 = .ok (.aload_n 0, 1) := by decide +kernel
theorem dX1_leave_1 : decode cX1_leave 1 = .ok (.bipush 117, 2) := by decide +kernel
theorem dX1_leave_3 : decode cX1_leave 3 = .ok (.putfield 15, 3) := by decide +kernel
theorem dX1_leave_6 : decode cX1_leave 6 = .ok (.aload_n 0, 1) := by decide +kernel
theorem dX1_leave_7 : decode cX1_leave 7 = .ok (.aconst_null, 1) := by decide +kernel
theorem dX1_leave_8 : decode cX1_leave 8 = .ok (.putfield 52, 3) := by decide +kernel
theorem dX1_leave_11 : decode cX1_leave 11 = .ok (.aload_n 0, 1) := by decide +kernel
theorem dX1_leave_12 : decode cX1_leave 12 = .ok (.iconst (-1), 1) := by decide +kernel
theorem dX1_leave_13 : decode cX1_leave 13 = .ok (.putfield 18, 3) := by decide +kernel
theorem dX1_leave_16 : decode cX1_leave 16 = .ok (.aload_n 0, 1) := by decide +kernel
theorem dX1_leave_17 : decode cX1_leave 17 = .ok (.aload_n 0, 1) := by decide +kernel
theorem dX1_leave_18 : decode cX1_leave 18 = .ok (.getfield 9, 3) := by decide +kernel
theorem dX1_leave_21 : decode cX1_leave 21 = .ok (.putfield 22, 3) := by decide +kernel
theorem dX1_leave_24 : decode cX1_leave 24 = .ok (.aload_n 0, 1) := by decide +kernel
theorem dX1_leave_25 : decode cX1_leave 25 = .ok (.iconst (-1), 1) := by decide +kernel
theorem dX1_leave_26 : decode cX1_leave 26 = .ok (.putfield 25, 3) := by decide +kernel
theorem dX1_leave_29 : decode cX1_leave 29 = .ok (.aload_n 0, 1) := by decide +kernel
theorem dX1_leave_30 : decode cX1_leave 30 = .ok (.iconst 0, 1) := by decide +kernel
theorem dX1_leave_31 : decode cX1_leave 31 = .ok (.putfield 56, 3) := by decide +kernel
theorem dX1_leave_34 : decode cX1_leave 34 = .ok (.aload_n 0, 1) := by decide +kernel
theorem dX1_leave_35 : decode cX1_leave 35 = .ok (.iconst (-1), 1) := by decide +kernel
theorem dX1_leave_36 : decode cX1_leave 36 = .ok (.putfield 28, 3) := by decide +kernel
theorem dX1_leave_39 : decode cX1_leave 39 = .ok (.aload_n 0, 1) := by decide +kernel
theorem dX1_leave_40 : decode cX1_leave 40 = .ok (.iconst 0, 1) := by decide +kernel
theorem dX1_leave_41 : decode cX1_leave 41 = .ok (.putfield 59, 3) := by decide +kernel
theorem dX1_leave_44 : decode cX1_leave 44 = .ok (.return_, 1) := by decide +kernel
set_option maxRecDepth 20000 in
theorem ggX2_init_X0_init : GoodIn wsX2_init wsX0_init := goodIn_r _ [13, 14, 2, 3, 15, 16, 21, 22, 23, 24] (by decide +kernel) (by decide +kernel)
set_option maxRecDepth 20000 in
theorem gX2_init_X0_init_n11 : GoodIn wsX2_init (wsX0_init) := ggX2_init_X0_init
set_option maxRecDepth 20000 in
theorem ggX2_init_X4_init : GoodIn wsX2_init wsX4_init := goodIn_r _ [18, 19, 2, 3, 20, 34, 35] (by decide +kernel) (by decide +kernel)
set_option maxRecDepth 20000 in
theorem gX2_init_X4_init_n20 : GoodIn wsX2_init (wsX4_init) := ggX2_init_X4_init
theorem dX2_init_0 : decode cX2_init 0 = .ok (.aload_n 0, 1) := by decide +kernel
theorem dX2_init_1 : decode cX2_init 1 = .ok (.invokespecial 3, 3) := by decide +kernel
theorem dX2_init_4 : decode cX2_init 4 = .ok (.aload_n 0, 1) := by decide +kernel
theorem dX2_init_5 : decode cX2_init 5 = .ok (.new 9, 3) := by decide +kernel
theorem dX2_init_8 : decode cX2_init 8 = .ok (.dup, 1) := by decide +kernel
theorem dX2_init_9 : decode cX2_init 9 = .ok (.invokespecial 11, 3) := by decide +kernel
theorem dX2_init_12 : decode cX2_init 12 = .ok (.putfield 12, 3) := by decide +kernel
theorem dX2_init_15 : decode cX2_init 15 = .ok (.aload_n 0, 1) := by decide +kernel
theorem dX2_init_16 : decode cX2_init 16 = .ok (.new 18, 3) := by decide +kernel
theorem dX2_init_19 : decode cX2_init 19 = .ok (.dup, 1) := by decide +kernel
theorem dX2_init_20 : decode cX2_init 20 = .ok (.invokespecial 20, 3) := by decide +kernel
theorem dX2_init_23 : decode cX2_init 23 = .ok (.putfield 21, 3) := by decide +kernel
theorem dX2_init_26 : decode cX2_init 26 = .ok (.return_, 1) := by decide +kernel
set_option maxRecDepth 20000 in
theorem ggX2_takeFrom_X0_add : GoodIn wsX2_takeFrom wsX0_add := goodIn_ca (goodIn_r _ [5, 6, 7, 8, 9, 25, 26, 27, 28] (by decide +kernel) (by decide +kernel)) (goodIn_sub (fun _ h => List.mem_cons_of_mem _ (List.mem_append_right _ h)) (by decide +kernel))
set_option maxRecDepth 20000 in
theorem gX2_takeFrom_X0_add_n34 : GoodIn wsX2_takeFrom (wsX0_add) := ggX2_takeFrom_X0_add
theorem dX2_takeFrom_0 : decode cX2_takeFrom 0 = .ok (.iconst 0, 1) := by decide +kernel
theorem dX2_takeFrom_1 : decode cX2_takeFrom 1 = .ok (.istore_n 3, 1) := by decide +kernel
theorem dX2_takeFrom_2 : decode cX2_takeFrom 2 = .ok (.iload_n 3, 1) := by decide +kernel
theorem dX2_takeFrom_3 : decode cX2_takeFrom 3 = .ok (.iload_n 2, 1) := by decide +kernel
theorem dX2_takeFrom_4 : decode cX2_takeFrom 4 = .ok (.if_icmp .ge 30, 3) := by decide +kernel
theorem dX2_takeFrom_7 : decode cX2_takeFrom 7 = .ok (.aload_n 0, 1) := by decide +kernel
theorem dX2_takeFrom_8 : decode cX2_takeFrom 8 = .ok (.getfield 12, 3) := by decide +kernel
theorem dX2_takeFrom_11 : decode cX2_takeFrom 11 = .ok (.aload_n 1, 1) := by decide +kernel
theorem dX2_takeFrom_12 : decode cX2_takeFrom 12 = .ok (.getfield 25, 3) := by decide +kernel
theorem dX2_takeFrom_15 : decode cX2_takeFrom 15 = .ok (.aload_n 1, 1) := by decide +kernel
theorem dX2_takeFrom_16 : decode cX2_takeFrom 16 = .ok (.getfield 30, 3) := by decide +kernel
theorem dX2_takeFrom_19 : decode cX2_takeFrom 19 = .ok (.iload_n 3, 1) := by decide +kernel
theorem dX2_takeFrom_20 : decode cX2_takeFrom 20 = .ok (.iadd, 1) := by decide +kernel
theorem dX2_takeFrom_21 : decode cX2_takeFrom 21 = .ok (.bipush 15, 2) := by decide +kernel
theorem dX2_takeFrom_23 : decode cX2_takeFrom 23 = .ok (.iand, 1) := by decide +kernel
theorem dX2_takeFrom_24 : decode cX2_takeFrom 24 = .ok (.iaload, 1) := by decide +kernel
theorem dX2_takeFrom_25 : decode cX2_takeFrom 25 = .ok (.invokevirtual 34, 3) := by decide +kernel
theorem dX2_takeFrom_28 : decode cX2_takeFrom 28 = .ok (.iinc 3 1, 3) := by decide +kernel
theorem dX2_takeFrom_31 : decode cX2_takeFrom 31 = .ok (.goto (-29), 3) := by decide +kernel
theorem dX2_takeFrom_34 : decode cX2_takeFrom 34 = .ok (.return_, 1) := by decide +kernel
set_option maxRecDepth 20000 in
theorem ggX2_forget_X0_drop : GoodIn wsX2_forget wsX0_drop := goodIn_r _ [6, 7, 8, 9, 10, 11, 12, 22, 23, 24, 25] (by decide +kernel) (by decide +kernel)
set_option maxRecDepth 20000 in
theorem gX2_forget_X0_drop_n38 : GoodIn wsX2_forget (wsX0_drop) := ggX2_forget_X0_drop
theorem dX2_forget_0 : decode cX2_forget 0 = .ok (.aload_n 0, 1) := by decide +kernel
theorem dX2_forget_1 : decode cX2_forget 1 = .ok (.getfield 12, 3) := by decide +kernel
theorem dX2_forget_4 : decode cX2_forget 4 = .ok (.iload_n 1, 1) := by decide +kernel
theorem dX2_forget_5 : decode cX2_forget 5 = .ok (.invokevirtual 38, 3) := by decide +kernel
theorem dX2_forget_8 : decode cX2_forget 8 = .ok (.aload_n 0, 1) := by decide +kernel
theorem dX2_forget_9 : decode cX2_forget 9 = .ok (.iconst 0, 1) := by decide +kernel
theorem dX2_forget_10 : decode cX2_forget 10 = .ok (.putfield 41, 3) := by decide +kernel
theorem dX2_forget_13 : decode cX2_forget 13 = .ok (.return_, 1) := by decide +kernel
theorem dX3_init_0 : decode cX3_init 0 = .ok (.aload_n 0, 1) := by decide +kernel
theorem dX3_init_1 : decode cX3_init 1 = .ok (.invokespecial 3, 3) := by decide +kernel
theorem dX3_init_4 : decode cX3_init 4 = .ok (.aload_n 0, 1) := by decide +kernel
theorem dX3_init_5 : decode cX3_init 5 = .ok (.bipush 8, 2) := by decide +kernel
theorem dX3_init_7 : decode cX3_init 7 = .ok (.newarray .char, 2) := by decide +kernel
theorem dX3_init_9 : decode cX3_init 9 = .ok (.putfield 9, 3) := by decide +kernel
theorem dX3_init_12 : decode cX3_init 12 = .ok (.aload_n 0, 1) := by decide +kernel
theorem dX3_init_13 : decode cX3_init 13 = .ok (.bipush 8, 2) := by decide +kernel
theorem dX3_init_15 : decode cX3_init 15 = .ok (.newarray .int, 2) := by decide +kernel
theorem dX3_init_17 : decode cX3_init 17 = .ok (.putfield 15, 3) := by decide +kernel
theorem dX3_init_20 : decode cX3_init 20 = .ok (.aload_n 0, 1) := by decide +kernel
theorem dX3_init_21 : decode cX3_init 21 = .ok (.bipush 8, 2) := by decide +kernel
theorem dX3_init_23 : decode cX3_init 23 = .ok (.newarray .int, 2) := by decide +kernel
theorem dX3_init_25 : decode cX3_init 25 = .ok (.putfield 19, 3) := by decide +kernel
theorem dX3_init_28 : decode cX3_init 28 = .ok (.aload_n 0, 1) := by decide +kernel
theorem dX3_init_29 : decode cX3_init 29 = .ok (.iconst (-1), 1) := by decide +kernel
theorem dX3_init_30 : decode cX3_init 30 = .ok (.putfield 22, 3) := by decide +kernel
theorem dX3_init_33 : decode cX3_init 33 = .ok (.return_, 1) := by decide +kernel
theorem dX3_put_0 : decode cX3_put 0 = .ok (.aload_n 0, 1) := by decide +kernel
theorem dX3_put_1 : decode cX3_put 1 = .ok (.dup, 1) := by decide +kernel
theorem dX3_put_2 : decode cX3_put 2 = .ok (.getfield 26, 3) := by decide +kernel
theorem dX3_put_5 : decode cX3_put 5 = .ok (.iconst 1, 1) := by decide +kernel
theorem dX3_put_6 : decode cX3_put 6 = .ok (.iadd, 1) := by decide +kernel
theorem dX3_put_7 : decode cX3_put 7 = .ok (.putfield 26, 3) := by decide +kernel
theorem dX3_put_10 : decode cX3_put 10 = .ok (.aload_n 0, 1) := by decide +kernel
theorem dX3_put_11 : decode cX3_put 11 = .ok (.dup, 1) := by decide +kernel
theorem dX3_put_12 : decode cX3_put 12 = .ok (.getfield 29, 3) := by decide +kernel
theorem dX3_put_15 : decode cX3_put 15 = .ok (.iload_n 3, 1) := by decide +kernel
theorem dX3_put_16 : decode cX3_put 16 = .ok (.iadd, 1) := by decide +kernel
theorem dX3_put_17 : decode cX3_put 17 = .ok (.putfield 29, 3) := by decide +kernel
theorem dX3_put_20 : decode cX3_put 20 = .ok (.aload_n 0, 1) := by decide +kernel
theorem dX3_put_21 : decode cX3_put 21 = .ok (.getfield 32, 3) := by decide +kernel
theorem dX3_put_24 : decode cX3_put 24 = .ok (.bipush 6, 2) := by decide +kernel
theorem dX3_put_26 : decode cX3_put 26 = .ok (.if_icmp .lt 14, 3) := by decide +kernel
theorem dX3_put_29 : decode cX3_put 29 = .ok (.aload_n 0, 1) := by decide +kernel
theorem dX3_put_30 : decode cX3_put 30 = .ok (.dup, 1) := by decide +kernel
theorem dX3_put_31 : decode cX3_put 31 = .ok (.getfield 35, 3) := by decide +kernel
theorem dX3_put_34 : decode cX3_put 34 = .ok (.iconst 1, 1) := by decide +kernel
theorem dX3_put_35 : decode cX3_put 35 = .ok (.iadd, 1) := by decide +kernel
theorem dX3_put_36 : decode cX3_put 36 = .ok (.putfield 35, 3) := by decide +kernel
theorem dX3_put_39 : decode cX3_put 39 = .ok (.return_, 1) := by decide +kernel
theorem dX3_put_40 : decode cX3_put 40 = .ok (.aload_n 0, 1) := by decide +kernel
theorem dX3_put_41 : decode cX3_put 41 = .ok (.getfield 38, 3) := by decide +kernel
theorem dX3_put_44 : decode cX3_put 44 = .ok (.aload_n 0, 1) := by decide +kernel
theorem dX3_put_45 : decode cX3_put 45 = .ok (.getfield 32, 3) := by decide +kernel
theorem dX3_put_48 : decode cX3_put 48 = .ok (.iadd, 1) := by decide +kernel
theorem dX3_put_49 : decode cX3_put 49 = .ok (.bipush 7, 2) := by decide +kernel
theorem dX3_put_51 : decode cX3_put 51 = .ok (.iand, 1) := by decide +kernel
theorem dX3_put_52 : decode cX3_put 52 = .ok (.istore 4, 2) := by decide +kernel
theorem dX3_put_54 : decode cX3_put 54 = .ok (.aload_n 0, 1) := by decide +kernel
theorem dX3_put_55 : decode cX3_put 55 = .ok (.getfield 9, 3) := by decide +kernel
theorem dX3_put_58 : decode cX3_put 58 = .ok (.iload 4, 2) := by decide +kernel
theorem dX3_put_60 : decode cX3_put 60 = .ok (.iload_n 1, 1) := by decide +kernel
theorem dX3_put_61 : decode cX3_put 61 = .ok (.castore, 1) := by decide +kernel
theorem dX3_put_62 : decode cX3_put 62 = .ok (.aload_n 0, 1) := by decide +kernel
theorem dX3_put_63 : decode cX3_put 63 = .ok (.getfield 15, 3) := by decide +kernel
theorem dX3_put_66 : decode cX3_put 66 = .ok (.iload 4, 2) := by decide +kernel
theorem dX3_put_68 : decode cX3_put 68 = .ok (.iload_n 2, 1) := by decide +kernel
theorem dX3_put_69 : decode cX3_put 69 = .ok (.iastore, 1) := by decide +kernel
theorem dX3_put_70 : decode cX3_put 70 = .ok (.aload_n 0, 1) := by decide +kernel
theorem dX3_put_71 : decode cX3_put 71 = .ok (.getfield 19, 3) := by decide +kernel
theorem dX3_put_74 : decode cX3_put 74 = .ok (.iload 4, 2) := by decide +kernel
theorem dX3_put_76 : decode cX3_put 76 = .ok (.iload_n 3, 1) := by decide +kernel
theorem dX3_put_77 : decode cX3_put 77 = .ok (.iastore, 1) := by decide +kernel
theorem dX3_put_78 : decode cX3_put 78 = .ok (.aload_n 0, 1) := by decide +kernel
theorem dX3_put_79 : decode cX3_put 79 = .ok (.dup, 1) := by decide +kernel
theorem dX3_put_80 : decode cX3_put 80 = .ok (.getfield 32, 3) := by decide +kernel
theorem dX3_put_83 : decode cX3_put 83 = .ok (.iconst 1, 1) := by decide +kernel
theorem dX3_put_84 : decode cX3_put 84 = .ok (.iadd, 1) := by decide +kernel
theorem dX3_put_85 : decode cX3_put 85 = .ok (.putfield 32, 3) := by decide +kernel
theorem dX3_put_88 : decode cX3_put 88 = .ok (.return_, 1) := by decide +kernel
theorem dX3_takeFirst_0 : decode cX3_takeFirst 0 = .ok (.aload_n 0, 1) := by decide +kernel
theorem dX3_takeFirst_1 : decode cX3_takeFirst 1 = .ok (.getfield 38, 3) := by decide +kernel
theorem dX3_takeFirst_4 : decode cX3_takeFirst 4 = .ok (.bipush 7, 2) := by decide +kernel
theorem dX3_takeFirst_6 : decode cX3_takeFirst 6 = .ok (.iand, 1) := by decide +kernel
theorem dX3_takeFirst_7 : decode cX3_takeFirst 7 = .ok (.istore_n 1, 1) := by decide +kernel
theorem dX3_takeFirst_8 : decode cX3_takeFirst 8 = .ok (.aload_n 0, 1) := by decide +kernel
theorem dX3_takeFirst_9 : decode cX3_takeFirst 9 = .ok (.aload_n 0, 1) := by decide +kernel
theorem dX3_takeFirst_10 : decode cX3_takeFirst 10 = .ok (.getfield 15, 3) := by decide +kernel
theorem dX3_takeFirst_13 : decode cX3_takeFirst 13 = .ok (.iload_n 1, 1) := by decide +kernel
theorem dX3_takeFirst_14 : decode cX3_takeFirst 14 = .ok (.iaload, 1) := by decide +kernel
theorem dX3_takeFirst_15 : decode cX3_takeFirst 15 = .ok (.putfield 22, 3) := by decide +kernel
theorem dX3_takeFirst_18 : decode cX3_takeFirst 18 = .ok (.aload_n 0, 1) := by decide +kernel
theorem dX3_takeFirst_19 : decode cX3_takeFirst 19 = .ok (.aload_n 0, 1) := by decide +kernel
theorem dX3_takeFirst_20 : decode cX3_takeFirst 20 = .ok (.getfield 19, 3) := by decide +kernel
theorem dX3_takeFirst_23 : decode cX3_takeFirst 23 = .ok (.iload_n 1, 1) := by decide +kernel
theorem dX3_takeFirst_24 : decode cX3_takeFirst 24 = .ok (.iaload, 1) := by decide +kernel
theorem dX3_takeFirst_25 : decode cX3_takeFirst 25 = .ok (.putfield 41, 3) := by decide +kernel
theorem dX3_takeFirst_28 : decode cX3_takeFirst 28 = .ok (.aload_n 0, 1) := by decide +kernel
theorem dX3_takeFirst_29 : decode cX3_takeFirst 29 = .ok (.aload_n 0, 1) := by decide +kernel
theorem dX3_takeFirst_30 : decode cX3_takeFirst 30 = .ok (.getfield 38, 3) := by decide +kernel
theorem dX3_takeFirst_33 : decode cX3_takeFirst 33 = .ok (.iconst 1, 1) := by decide +kernel
theorem dX3_takeFirst_34 : decode cX3_takeFirst 34 = .ok (.iadd, 1) := by decide +kernel
theorem dX3_takeFirst_35 : decode cX3_takeFirst 35 = .ok (.bipush 7, 2) := by decide +kernel
theorem dX3_takeFirst_37 : decode cX3_takeFirst 37 = .ok (.iand, 1) := by decide +kernel
theorem dX3_takeFirst_38 : decode cX3_takeFirst 38 = .ok (.putfield 38, 3) := by decide +kernel
theorem dX3_takeFirst_41 : decode cX3_takeFirst 41 = .ok (.aload_n 0, 1) := by decide +kernel
theorem dX3_takeFirst_42 : decode cX3_takeFirst 42 = .ok (.dup, 1) := by decide +kernel
theorem dX3_takeFirst_43 : decode cX3_takeFirst 43 = .ok (.getfield 32, 3) := by decide +kernel
theorem dX3_takeFirst_46 : decode cX3_takeFirst 46 = .ok (.iconst 1, 1) := by decide +kernel
theorem dX3_takeFirst_47 : decode cX3_takeFirst 47 = .ok (.isub, 1) := by decide +kernel
theorem dX3_takeFirst_48 : decode cX3_takeFirst 48 = .ok (.putfield 32, 3) := by decide +kernel
theorem dX3_takeFirst_51 : decode cX3_takeFirst 51 = .ok (.aload_n 0, 1) := by decide +kernel
theorem dX3_takeFirst_52 : decode cX3_takeFirst 52 = .ok (.getfield 9, 3) := by decide +kernel
theorem dX3_takeFirst_55 : decode cX3_takeFirst 55 = .ok (.iload_n 1, 1) := by decide +kernel
theorem dX3_takeFirst_56 : decode cX3_takeFirst 56 = .ok (.caload, 1) := by decide +kernel
theorem dX3_takeFirst_57 : decode cX3_takeFirst 57 = .ok (.ireturn, 1) := by decide +kernel
theorem dX4_init_0 : decode cX4_init 0 = .ok (.aload_n 0, 1) := by decide +kernel
theorem dX4_init_1 : decode cX4_init 1 = .ok (.invokespecial 3, 3) := by decide +kernel
theorem dX4_init_4 : decode cX4_init 4 = .ok (.aload_n 0, 1) := by decide +kernel
theorem dX4_init_5 : decode cX4_init 5 = .ok (.bipush 32, 2) := by decide +kernel
theorem dX4_init_7 : decode cX4_init 7 = .ok (.putfield 9, 3) := by decide +kernel
theorem dX4_init_10 : decode cX4_init 10 = .ok (.return_, 1) := by decide +kernel
theorem dX4_use_0 : decode cX4_use 0 = .ok (.aload_n 0, 1) := by decide +kernel
theorem dX4_use_1 : decode cX4_use 1 = .ok (.getfield 15, 3) := by decide +kernel
theorem dX4_use_4 : decode cX4_use 4 = .ok (.ifCond .ne 6, 3) := by decide +kernel
theorem dX4_use_7 : decode cX4_use 7 = .ok (.bipush 32, 2) := by decide +kernel
theorem dX4_use_9 : decode cX4_use 9 = .ok (.ireturn, 1) := by decide +kernel
theorem dX4_use_10 : decode cX4_use 10 = .ok (.aload_n 0, 1) := by decide +kernel
theorem dX4_use_11 : decode cX4_use 11 = .ok (.dup, 1) := by decide +kernel
theorem dX4_use_12 : decode cX4_use 12 = .ok (.getfield 15, 3) := by decide +kernel
theorem dX4_use_15 : decode cX4_use 15 = .ok (.iconst 1, 1) := by decide +kernel
theorem dX4_use_16 : decode cX4_use 16 = .ok (.isub, 1) := by decide +kernel
theorem dX4_use_17 : decode cX4_use 17 = .ok (.putfield 15, 3) := by decide +kernel
theorem dX4_use_20 : decode cX4_use 20 = .ok (.aload_n 0, 1) := by decide +kernel
theorem dX4_use_21 : decode cX4_use 21 = .ok (.getfield 9, 3) := by decide +kernel
theorem dX4_use_24 : decode cX4_use 24 = .ok (.ireturn, 1) := by decide +kernel
set_option maxRecDepth 20000 in
theorem ggX5_init_X7_init : GoodIn wsX5_init wsX7_init := goodIn_r _ [14, 15, 2, 3, 16, 17, 32, 33, 34, 35, 36, 37] (by decide +kernel) (by decide +kernel)
set_option maxRecDepth 20000 in
theorem gX5_init_X7_init_n34 : GoodIn wsX5_init (wsX7_init) := ggX5_init_X7_init
theorem dX5_init_0 : decode cX5_init 0 = .ok (.aload_n 0, 1) := by decide +kernel
theorem dX5_init_1 : decode cX5_init 1 = .ok (.invokespecial 3, 3) := by decide +kernel
theorem dX5_init_4 : decode cX5_init 4 = .ok (.aload_n 0, 1) := by decide +kernel
theorem dX5_init_5 : decode cX5_init 5 = .ok (.bipush 98, 2) := by decide +kernel
theorem dX5_init_7 : decode cX5_init 7 = .ok (.putfield 9, 3) := by decide +kernel
theorem dX5_init_10 : decode cX5_init 10 = .ok (.aload_n 0, 1) := by decide +kernel
theorem dX5_init_11 : decode cX5_init 11 = .ok (.iconst 1, 1) := by decide +kernel
theorem dX5_init_12 : decode cX5_init 12 = .ok (.putfield 15, 3) := by decide +kernel
theorem dX5_init_15 : decode cX5_init 15 = .ok (.aload_n 0, 1) := by decide +kernel
theorem dX5_init_16 : decode cX5_init 16 = .ok (.iconst (-1), 1) := by decide +kernel
theorem dX5_init_17 : decode cX5_init 17 = .ok (.putfield 19, 3) := by decide +kernel
theorem dX5_init_20 : decode cX5_init 20 = .ok (.aload_n 0, 1) := by decide +kernel
theorem dX5_init_21 : decode cX5_init 21 = .ok (.bipush 32, 2) := by decide +kernel
theorem dX5_init_23 : decode cX5_init 23 = .ok (.putfield 22, 3) := by decide +kernel
theorem dX5_init_26 : decode cX5_init 26 = .ok (.aload_n 0, 1) := by decide +kernel
theorem dX5_init_27 : decode cX5_init 27 = .ok (.iconst 4, 1) := by decide +kernel
theorem dX5_init_28 : decode cX5_init 28 = .ok (.anewarray 25, 3) := by decide +kernel
theorem dX5_init_31 : decode cX5_init 31 = .ok (.putfield 27, 3) := by decide +kernel
theorem dX5_init_34 : decode cX5_init 34 = .ok (.aload_n 0, 1) := by decide +kernel
theorem dX5_init_35 : decode cX5_init 35 = .ok (.iload_n 1, 1) := by decide +kernel
theorem dX5_init_36 : decode cX5_init 36 = .ok (.putfield 31, 3) := by decide +kernel
theorem dX5_init_39 : decode cX5_init 39 = .ok (.iconst 0, 1) := by decide +kernel
theorem dX5_init_40 : decode cX5_init 40 = .ok (.istore_n 2, 1) := by decide +kernel
theorem dX5_init_41 : decode cX5_init 41 = .ok (.iload_n 2, 1) := by decide +kernel
theorem dX5_init_42 : decode cX5_init 42 = .ok (.iconst 4, 1) := by decide +kernel
theorem dX5_init_43 : decode cX5_init 43 = .ok (.if_icmp .ge 22, 3) := by decide +kernel
theorem dX5_init_46 : decode cX5_init 46 = .ok (.aload_n 0, 1) := by decide +kernel
theorem dX5_init_47 : decode cX5_init 47 = .ok (.getfield 27, 3) := by decide +kernel
theorem dX5_init_50 : decode cX5_init 50 = .ok (.iload_n 2, 1) := by decide +kernel
theorem dX5_init_51 : decode cX5_init 51 = .ok (.new 25, 3) := by decide +kernel
theorem dX5_init_54 : decode cX5_init 54 = .ok (.dup, 1) := by decide +kernel
theorem dX5_init_55 : decode cX5_init 55 = .ok (.invokespecial 34, 3) := by decide +kernel
theorem dX5_init_58 : decode cX5_init 58 = .ok (.aastore, 1) := by decide +kernel
theorem dX5_init_59 : decode cX5_init 59 = .ok (.iinc 2 1, 3) := by decide +kernel
theorem dX5_init_62 : decode cX5_init 62 = .ok (.goto (-21), 3) := by decide +kernel
theorem dX5_init_65 : decode cX5_init 65 = .ok (.return_, 1) := by decide +kernel
theorem dX5_isOpen_0 : decode cX5_isOpen 0 = .ok (.aload_n 0, 1) := by decide +kernel
theorem dX5_isOpen_1 : decode cX5_isOpen 1 = .ok (.getfield 35, 3) := by decide +kernel
theorem dX5_isOpen_4 : decode cX5_isOpen 4 = .ok (.ifnull 7, 3) := by decide +kernel
theorem dX5_isOpen_7 : decode cX5_isOpen 7 = .ok (.iconst 1, 1) := by decide +kernel
theorem dX5_isOpen_8 : decode cX5_isOpen 8 = .ok (.goto 4, 3) := by decide +kernel
theorem dX5_isOpen_11 : decode cX5_isOpen 11 = .ok (.iconst 0, 1) := by decide +kernel
theorem dX5_isOpen_12 : decode cX5_isOpen 12 = .ok (.ireturn, 1) := by decide +kernel
set_option maxRecDepth 20000 in
theorem ggX5_attach_X5_startAnew : GoodIn wsX5_attach wsX5_startAnew := goodIn_r _ [9, 10, 11, 12, 2, 13, 14, 15, 16, 17, 18, 19, 20, 21, 22, 23, 24, 25, 26, 27, 28, 29, 30, 31, 32, 33, 34, 35] (by decide +kernel) (by decide +kernel)
set_option maxRecDepth 20000 in
theorem gX5_attach_X5_startAnew : GoodIn wsX5_attach (wsV RX5 49 RX5 yX5_startAnew wsX5_startAnew) := goodIn_app (goodIn_of _ (by decide +kernel)) ggX5_attach_X5_startAnew
theorem dX5_attach_0 : decode cX5_attach 0 = .ok (.aload_n 0, 1) := by decide +kernel
theorem dX5_attach_1 : decode cX5_attach 1 = .ok (.aload_n 1, 1) := by decide +kernel
theorem dX5_attach_2 : decode cX5_attach 2 = .ok (.putfield 35, 3) := by decide +kernel
theorem dX5_attach_5 : decode cX5_attach 5 = .ok (.aload_n 0, 1) := by decide +kernel
theorem dX5_attach_6 : decode cX5_attach 6 = .ok (.aload_n 2, 1) := by decide +kernel
theorem dX5_attach_7 : decode cX5_attach 7 = .ok (.putfield 39, 3) := by decide +kernel
theorem dX5_attach_10 : decode cX5_attach 10 = .ok (.aload_n 0, 1) := by decide +kernel
theorem dX5_attach_11 : decode cX5_attach 11 = .ok (.iload_n 3, 1) := by decide +kernel
theorem dX5_attach_12 : decode cX5_attach 12 = .ok (.putfield 9, 3) := by decide +kernel
theorem dX5_attach_15 : decode cX5_attach 15 = .ok (.aload_n 0, 1) := by decide +kernel
theorem dX5_attach_16 : decode cX5_attach 16 = .ok (.bipush 32, 2) := by decide +kernel
theorem dX5_attach_18 : decode cX5_attach 18 = .ok (.putfield 22, 3) := by decide +kernel
theorem dX5_attach_21 : decode cX5_attach 21 = .ok (.aload_n 2, 1) := by decide +kernel
theorem dX5_attach_22 : decode cX5_attach 22 = .ok (.iconst 1, 1) := by decide +kernel
theorem dX5_attach_23 : decode cX5_attach 23 = .ok (.putfield 43, 3) := by decide +kernel
theorem dX5_attach_26 : decode cX5_attach 26 = .ok (.aload_n 0, 1) := by decide +kernel
theorem dX5_attach_27 : decode cX5_attach 27 = .ok (.invokevirtual 49, 3) := by decide +kernel
theorem dX5_attach_30 : decode cX5_attach 30 = .ok (.return_, 1) := by decide +kernel
theorem dX5_detach_0 : decode cX5_detach 0 = .ok (.aload_n 0, 1) := by decide +kernel
theorem dX5_detach_1 : decode cX5_detach 1 = .ok (.getfield 39, 3) := by decide +kernel
theorem dX5_detach_4 : decode cX5_detach 4 = .ok (.ifnull 11, 3) := by decide +kernel
theorem dX5_detach_7 : decode cX5_detach 7 = .ok (.aload_n 0, 1) := by decide +kernel
theorem dX5_detach_8 : decode cX5_detach 8 = .ok (.getfield 39, 3) := by decide +kernel
theorem dX5_detach_11 : decode cX5_detach 11 = .ok (.iconst 0, 1) := by decide +kernel
theorem dX5_detach_12 : decode cX5_detach 12 = .ok (.putfield 43, 3) := by decide +kernel
theorem dX5_detach_15 : decode cX5_detach 15 = .ok (.aload_n 0, 1) := by decide +kernel
theorem dX5_detach_16 : decode cX5_detach 16 = .ok (.aconst_null, 1) := by decide +kernel
theorem dX5_detach_17 : decode cX5_detach 17 = .ok (.putfield 35, 3) := by decide +kernel
theorem dX5_detach_20 : decode cX5_detach 20 = .ok (.aload_n 0, 1) := by decide +kernel
theorem dX5_detach_21 : decode cX5_detach 21 = .ok (.aconst_null, 1) := by decide +kernel
theorem dX5_detach_22 : decode cX5_detach 22 = .ok (.putfield 39, 3) := by decide +kernel
theorem dX5_detach_25 : decode cX5_detach 25 = .ok (.return_, 1) := by decide +kernel
theorem dX5_startAnew_0 : decode cX5_startAnew 0 = .ok (.aload_n 0, 1) := by decide +kernel
theorem dX5_startAnew_1 : decode cX5_startAnew 1 = .ok (.iconst 0, 1) := by decide +kernel
theorem dX5_startAnew_2 : decode cX5_startAnew 2 = .ok (.putfield 52, 3) := by decide +kernel
theorem dX5_startAnew_5 : decode cX5_startAnew 5 = .ok (.aload_n 0, 1) := by decide +kernel
theorem dX5_startAnew_6 : decode cX5_startAnew 6 = .ok (.iconst 0, 1) := by decide +kernel
theorem dX5_startAnew_7 : decode cX5_startAnew 7 = .ok (.putfield 55, 3) := by decide +kernel
theorem dX5_startAnew_10 : decode cX5_startAnew 10 = .ok (.aload_n 0, 1) := by decide +kernel
theorem dX5_startAnew_11 : decode cX5_startAnew 11 = .ok (.iconst 0, 1) := by decide +kernel
theorem dX5_startAnew_12 : decode cX5_startAnew 12 = .ok (.putfield 58, 3) := by decide +kernel
theorem dX5_startAnew_15 : decode cX5_startAnew 15 = .ok (.aload_n 0, 1) := by decide +kernel
theorem dX5_startAnew_16 : decode cX5_startAnew 16 = .ok (.getfield 39, 3) := by decide +kernel
theorem dX5_startAnew_19 : decode cX5_startAnew 19 = .ok (.ifnull 19, 3) := by decide +kernel
theorem dX5_startAnew_22 : decode cX5_startAnew 22 = .ok (.aload_n 0, 1) := by decide +kernel
theorem dX5_startAnew_23 : decode cX5_startAnew 23 = .ok (.getfield 39, 3) := by decide +kernel
theorem dX5_startAnew_26 : decode cX5_startAnew 26 = .ok (.iconst 0, 1) := by decide +kernel
theorem dX5_startAnew_27 : decode cX5_startAnew 27 = .ok (.putfield 61, 3) := by decide +kernel
theorem dX5_startAnew_30 : decode cX5_startAnew 30 = .ok (.aload_n 0, 1) := by decide +kernel
theorem dX5_startAnew_31 : decode cX5_startAnew 31 = .ok (.getfield 39, 3) := by decide +kernel
theorem dX5_startAnew_34 : decode cX5_startAnew 34 = .ok (.iconst 0, 1) := by decide +kernel
theorem dX5_startAnew_35 : decode cX5_startAnew 35 = .ok (.putfield 62, 3) := by decide +kernel
theorem dX5_startAnew_38 : decode cX5_startAnew 38 = .ok (.return_, 1) := by decide +kernel
theorem dX5_isDueIn_0 : decode cX5_isDueIn 0 = .ok (.iload_n 1, 1) := by decide +kernel
theorem dX5_isDueIn_1 : decode cX5_isDueIn 1 = .ok (.aload_n 0, 1) := by decide +kernel
theorem dX5_isDueIn_2 : decode cX5_isDueIn 2 = .ok (.getfield 15, 3) := by decide +kernel
theorem dX5_isDueIn_5 : decode cX5_isDueIn 5 = .ok (.iconst 1, 1) := by decide +kernel
theorem dX5_isDueIn_6 : decode cX5_isDueIn 6 = .ok (.isub, 1) := by decide +kernel
theorem dX5_isDueIn_7 : decode cX5_isDueIn 7 = .ok (.iand, 1) := by decide +kernel
theorem dX5_isDueIn_8 : decode cX5_isDueIn 8 = .ok (.aload_n 0, 1) := by decide +kernel
theorem dX5_isDueIn_9 : decode cX5_isDueIn 9 = .ok (.getfield 19, 3) := by decide +kernel
theorem dX5_isDueIn_12 : decode cX5_isDueIn 12 = .ok (.if_icmp .ne 7, 3) := by decide +kernel
theorem dX5_isDueIn_15 : decode cX5_isDueIn 15 = .ok (.iconst 1, 1) := by decide +kernel
theorem dX5_isDueIn_16 : decode cX5_isDueIn 16 = .ok (.goto 4, 3) := by decide +kernel
theorem dX5_isDueIn_19 : decode cX5_isDueIn 19 = .ok (.iconst 0, 1) := by decide +kernel
theorem dX5_isDueIn_20 : decode cX5_isDueIn 20 = .ok (.ireturn, 1) := by decide +kernel
theorem dX5_transferAt_0 : decode cX5_transferAt 0 = .ok (.aload_n 0, 1) := by decide +kernel
theorem dX5_transferAt_1 : decode cX5_transferAt 1 = .ok (.getfield 27, 3) := by decide +kernel
theorem dX5_transferAt_4 : decode cX5_transferAt 4 = .ok (.aload_n 0, 1) := by decide +kernel
theorem dX5_transferAt_5 : decode cX5_transferAt 5 = .ok (.getfield 65, 3) := by decide +kernel
theorem dX5_transferAt_8 : decode cX5_transferAt 8 = .ok (.iload_n 1, 1) := by decide +kernel
theorem dX5_transferAt_9 : decode cX5_transferAt 9 = .ok (.iadd, 1) := by decide +kernel
theorem dX5_transferAt_10 : decode cX5_transferAt 10 = .ok (.iconst 3, 1) := by decide +kernel
theorem dX5_transferAt_11 : decode cX5_transferAt 11 = .ok (.iand, 1) := by decide +kernel
theorem dX5_transferAt_12 : decode cX5_transferAt 12 = .ok (.aaload, 1) := by decide +kernel
theorem dX5_transferAt_13 : decode cX5_transferAt 13 = .ok (.areturn, 1) := by decide +kernel
set_option maxRecDepth 20000 in
theorem ggX5_addTransfer_X5_transferAt : GoodIn wsX5_addTransfer wsX5_transferAt := goodIn_r _ [6, 7, 8, 9, 10, 11, 12, 13, 14, 15, 16, 17, 18, 19, 20, 21, 22] (by decide +kernel) (by decide +kernel)
set_option maxRecDepth 20000 in
theorem gX5_addTransfer_X5_transferAt : GoodIn wsX5_addTransfer (wsV RX5 71 RX5 yX5_transferAt wsX5_transferAt) := goodIn_app (goodIn_of _ (by decide +kernel)) ggX5_addTransfer_X5_transferAt
theorem dX5_addTransfer_0 : decode cX5_addTransfer 0 = .ok (.aload_n 0, 1) := by decide +kernel
theorem dX5_addTransfer_1 : decode cX5_addTransfer 1 = .ok (.aload_n 0, 1) := by decide +kernel
theorem dX5_addTransfer_2 : decode cX5_addTransfer 2 = .ok (.getfield 68, 3) := by decide +kernel
theorem dX5_addTransfer_5 : decode cX5_addTransfer 5 = .ok (.invokevirtual 71, 3) := by decide +kernel
theorem dX5_addTransfer_8 : decode cX5_addTransfer 8 = .ok (.astore_n 2, 1) := by decide +kernel
theorem dX5_addTransfer_9 : decode cX5_addTransfer 9 = .ok (.aload_n 2, 1) := by decide +kernel
theorem dX5_addTransfer_10 : decode cX5_addTransfer 10 = .ok (.iload_n 1, 1) := by decide +kernel
theorem dX5_addTransfer_11 : decode cX5_addTransfer 11 = .ok (.putfield 75, 3) := by decide +kernel
theorem dX5_addTransfer_14 : decode cX5_addTransfer 14 = .ok (.aload_n 2, 1) := by decide +kernel
theorem dX5_addTransfer_15 : decode cX5_addTransfer 15 = .ok (.iconst 0, 1) := by decide +kernel
theorem dX5_addTransfer_16 : decode cX5_addTransfer 16 = .ok (.putfield 78, 3) := by decide +kernel
theorem dX5_addTransfer_19 : decode cX5_addTransfer 19 = .ok (.aload_n 2, 1) := by decide +kernel
theorem dX5_addTransfer_20 : decode cX5_addTransfer 20 = .ok (.iconst 0, 1) := by decide +kernel
theorem dX5_addTransfer_21 : decode cX5_addTransfer 21 = .ok (.putfield 81, 3) := by decide +kernel
theorem dX5_addTransfer_24 : decode cX5_addTransfer 24 = .ok (.aload_n 2, 1) := by decide +kernel
theorem dX5_addTransfer_25 : decode cX5_addTransfer 25 = .ok (.iconst 0, 1) := by decide +kernel
theorem dX5_addTransfer_26 : decode cX5_addTransfer 26 = .ok (.putfield 84, 3) := by decide +kernel
theorem dX5_addTransfer_29 : decode cX5_addTransfer 29 = .ok (.aload_n 2, 1) := by decide +kernel
theorem dX5_addTransfer_30 : decode cX5_addTransfer 30 = .ok (.iconst 0, 1) := by decide +kernel
theorem dX5_addTransfer_31 : decode cX5_addTransfer 31 = .ok (.putfield 87, 3) := by decide +kernel
theorem dX5_addTransfer_34 : decode cX5_addTransfer 34 = .ok (.aload_n 0, 1) := by decide +kernel
theorem dX5_addTransfer_35 : decode cX5_addTransfer 35 = .ok (.dup, 1) := by decide +kernel
theorem dX5_addTransfer_36 : decode cX5_addTransfer 36 = .ok (.getfield 68, 3) := by decide +kernel
theorem dX5_addTransfer_39 : decode cX5_addTransfer 39 = .ok (.iconst 1, 1) := by decide +kernel
theorem dX5_addTransfer_40 : decode cX5_addTransfer 40 = .ok (.iadd, 1) := by decide +kernel
theorem dX5_addTransfer_41 : decode cX5_addTransfer 41 = .ok (.putfield 68, 3) := by decide +kernel
theorem dX5_addTransfer_44 : decode cX5_addTransfer 44 = .ok (.aload_n 2, 1) := by decide +kernel
theorem dX5_addTransfer_45 : decode cX5_addTransfer 45 = .ok (.areturn, 1) := by decide +kernel
theorem dX5_dropFirst_0 : decode cX5_dropFirst 0 = .ok (.aload_n 0, 1) := by decide +kernel
theorem dX5_dropFirst_1 : decode cX5_dropFirst 1 = .ok (.aload_n 0, 1) := by decide +kernel
theorem dX5_dropFirst_2 : decode cX5_dropFirst 2 = .ok (.getfield 65, 3) := by decide +kernel
theorem dX5_dropFirst_5 : decode cX5_dropFirst 5 = .ok (.iconst 1, 1) := by decide +kernel
theorem dX5_dropFirst_6 : decode cX5_dropFirst 6 = .ok (.iadd, 1) := by decide +kernel
theorem dX5_dropFirst_7 : decode cX5_dropFirst 7 = .ok (.iconst 3, 1) := by decide +kernel
theorem dX5_dropFirst_8 : decode cX5_dropFirst 8 = .ok (.iand, 1) := by decide +kernel
theorem dX5_dropFirst_9 : decode cX5_dropFirst 9 = .ok (.putfield 65, 3) := by decide +kernel
theorem dX5_dropFirst_12 : decode cX5_dropFirst 12 = .ok (.aload_n 0, 1) := by decide +kernel
theorem dX5_dropFirst_13 : decode cX5_dropFirst 13 = .ok (.dup, 1) := by decide +kernel
theorem dX5_dropFirst_14 : decode cX5_dropFirst 14 = .ok (.getfield 68, 3) := by decide +kernel
theorem dX5_dropFirst_17 : decode cX5_dropFirst 17 = .ok (.iconst 1, 1) := by decide +kernel
theorem dX5_dropFirst_18 : decode cX5_dropFirst 18 = .ok (.isub, 1) := by decide +kernel
theorem dX5_dropFirst_19 : decode cX5_dropFirst 19 = .ok (.putfield 68, 3) := by decide +kernel
theorem dX5_dropFirst_22 : decode cX5_dropFirst 22 = .ok (.return_, 1) := by decide +kernel
theorem dX6_init_0 : decode cX6_init 0 = .ok (.aload_n 0, 1) := by decide +kernel
theorem dX6_init_1 : decode cX6_init 1 = .ok (.invokespecial 1, 3) := by decide +kernel
theorem dX6_init_4 : decode cX6_init 4 = .ok (.return_, 1) := by decide +kernel
theorem dX7_init_0 : decode cX7_init 0 = .ok (.aload_n 0, 1) := by decide +kernel
theorem dX7_init_1 : decode cX7_init 1 = .ok (.invokespecial 3, 3) := by decide +kernel
theorem dX7_init_4 : decode cX7_init 4 = .ok (.aload_n 0, 1) := by decide +kernel
theorem dX7_init_5 : decode cX7_init 5 = .ok (.bipush 16, 2) := by decide +kernel
theorem dX7_init_7 : decode cX7_init 7 = .ok (.newarray .int, 2) := by decide +kernel
theorem dX7_init_9 : decode cX7_init 9 = .ok (.putfield 9, 3) := by decide +kernel
theorem dX7_init_12 : decode cX7_init 12 = .ok (.return_, 1) := by decide +kernel
theorem dX8_init_0 : decode cX8_init 0 = .ok (.aload_n 0, 1) := by decide +kernel
theorem dX8_init_1 : decode cX8_init 1 = .ok (.invokespecial 3, 3) := by decide +kernel
theorem dX8_init_4 : decode cX8_init 4 = .ok (.aload_n 0, 1) := by decide +kernel
theorem dX8_init_5 : decode cX8_init 5 = .ok (.bipush 8, 2) := by decide +kernel
theorem dX8_init_7 : decode cX8_init 7 = .ok (.newarray .int, 2) := by decide +kernel
theorem dX8_init_9 : decode cX8_init 9 = .ok (.putfield 9, 3) := by decide +kernel
theorem dX8_init_12 : decode cX8_init 12 = .ok (.aload_n 0, 1) := by decide +kernel
theorem dX8_init_13 : decode cX8_init 13 = .ok (.sipush 128, 3) := by decide +kernel
theorem dX8_init_16 : decode cX8_init 16 = .ok (.newarray .int, 2) := by decide +kernel
theorem dX8_init_18 : decode cX8_init 18 = .ok (.putfield 15, 3) := by decide +kernel
theorem dX8_init_21 : decode cX8_init 21 = .ok (.aload_n 0, 1) := by decide +kernel
theorem dX8_init_22 : decode cX8_init 22 = .ok (.bipush 16, 2) := by decide +kernel
theorem dX8_init_24 : decode cX8_init 24 = .ok (.newarray .int, 2) := by decide +kernel
theorem dX8_init_26 : decode cX8_init 26 = .ok (.putfield 18, 3) := by decide +kernel
theorem dX8_init_29 : decode cX8_init 29 = .ok (.return_, 1) := by decide +kernel
theorem dX8_beginFrame_0 : decode cX8_beginFrame 0 = .ok (.aload_n 0, 1) := by decide +kernel
theorem dX8_beginFrame_1 : decode cX8_beginFrame 1 = .ok (.bipush 100, 2) := by decide +kernel
theorem dX8_beginFrame_3 : decode cX8_beginFrame 3 = .ok (.putfield 21, 3) := by decide +kernel
theorem dX8_beginFrame_6 : decode cX8_beginFrame 6 = .ok (.iconst 0, 1) := by decide +kernel
theorem dX8_beginFrame_7 : decode cX8_beginFrame 7 = .ok (.istore_n 1, 1) := by decide +kernel
theorem dX8_beginFrame_8 : decode cX8_beginFrame 8 = .ok (.iload_n 1, 1) := by decide +kernel
theorem dX8_beginFrame_9 : decode cX8_beginFrame 9 = .ok (.bipush 16, 2) := by decide +kernel
theorem dX8_beginFrame_11 : decode cX8_beginFrame 11 = .ok (.if_icmp .ge 17, 3) := by decide +kernel
theorem dX8_beginFrame_14 : decode cX8_beginFrame 14 = .ok (.aload_n 0, 1) := by decide +kernel
theorem dX8_beginFrame_15 : decode cX8_beginFrame 15 = .ok (.getfield 18, 3) := by decide +kernel
theorem dX8_beginFrame_18 : decode cX8_beginFrame 18 = .ok (.iload_n 1, 1) := by decide +kernel
theorem dX8_beginFrame_19 : decode cX8_beginFrame 19 = .ok (.bipush 60, 2) := by decide +kernel
theorem dX8_beginFrame_21 : decode cX8_beginFrame 21 = .ok (.iastore, 1) := by decide +kernel
theorem dX8_beginFrame_22 : decode cX8_beginFrame 22 = .ok (.iinc 1 1, 3) := by decide +kernel
theorem dX8_beginFrame_25 : decode cX8_beginFrame 25 = .ok (.goto (-17), 3) := by decide +kernel
theorem dX8_beginFrame_28 : decode cX8_beginFrame 28 = .ok (.return_, 1) := by decide +kernel
theorem dX8_isRoomFor_0 : decode cX8_isRoomFor 0 = .ok (.iload_n 1, 1) := by decide +kernel
theorem dX8_isRoomFor_1 : decode cX8_isRoomFor 1 = .ok (.aload_n 0, 1) := by decide +kernel
theorem dX8_isRoomFor_2 : decode cX8_isRoomFor 2 = .ok (.getfield 21, 3) := by decide +kernel
theorem dX8_isRoomFor_5 : decode cX8_isRoomFor 5 = .ok (.if_icmp .gt 27, 3) := by decide +kernel
theorem dX8_isRoomFor_8 : decode cX8_isRoomFor 8 = .ok (.iload_n 2, 1) := by decide +kernel
theorem dX8_isRoomFor_9 : decode cX8_isRoomFor 9 = .ok (.ifCond .lt 19, 3) := by decide +kernel
theorem dX8_isRoomFor_12 : decode cX8_isRoomFor 12 = .ok (.iload_n 2, 1) := by decide +kernel
theorem dX8_isRoomFor_13 : decode cX8_isRoomFor 13 = .ok (.bipush 16, 2) := by decide +kernel
theorem dX8_isRoomFor_15 : decode cX8_isRoomFor 15 = .ok (.if_icmp .ge 13, 3) := by decide +kernel
theorem dX8_isRoomFor_18 : decode cX8_isRoomFor 18 = .ok (.iload_n 3, 1) := by decide +kernel
theorem dX8_isRoomFor_19 : decode cX8_isRoomFor 19 = .ok (.aload_n 0, 1) := by decide +kernel
theorem dX8_isRoomFor_20 : decode cX8_isRoomFor 20 = .ok (.getfield 18, 3) := by decide +kernel
theorem dX8_isRoomFor_23 : decode cX8_isRoomFor 23 = .ok (.iload_n 2, 1) := by decide +kernel
theorem dX8_isRoomFor_24 : decode cX8_isRoomFor 24 = .ok (.iaload, 1) := by decide +kernel
theorem dX8_isRoomFor_25 : decode cX8_isRoomFor 25 = .ok (.if_icmp .gt 7, 3) := by decide +kernel
theorem dX8_isRoomFor_28 : decode cX8_isRoomFor 28 = .ok (.iconst 1, 1) := by decide +kernel
theorem dX8_isRoomFor_29 : decode cX8_isRoomFor 29 = .ok (.goto 4, 3) := by decide +kernel
theorem dX8_isRoomFor_32 : decode cX8_isRoomFor 32 = .ok (.iconst 0, 1) := by decide +kernel
theorem dX8_isRoomFor_33 : decode cX8_isRoomFor 33 = .ok (.ireturn, 1) := by decide +kernel
theorem dX8_use_0 : decode cX8_use 0 = .ok (.aload_n 0, 1) := by decide +kernel
theorem dX8_use_1 : decode cX8_use 1 = .ok (.dup, 1) := by decide +kernel
theorem dX8_use_2 : decode cX8_use 2 = .ok (.getfield 21, 3) := by decide +kernel
theorem dX8_use_5 : decode cX8_use 5 = .ok (.iload_n 1, 1) := by decide +kernel
theorem dX8_use_6 : decode cX8_use 6 = .ok (.isub, 1) := by decide +kernel
theorem dX8_use_7 : decode cX8_use 7 = .ok (.putfield 21, 3) := by decide +kernel
theorem dX8_use_10 : decode cX8_use 10 = .ok (.aload_n 0, 1) := by decide +kernel
theorem dX8_use_11 : decode cX8_use 11 = .ok (.dup, 1) := by decide +kernel
theorem dX8_use_12 : decode cX8_use 12 = .ok (.getfield 25, 3) := by decide +kernel
theorem dX8_use_15 : decode cX8_use 15 = .ok (.iload_n 1, 1) := by decide +kernel
theorem dX8_use_16 : decode cX8_use 16 = .ok (.iadd, 1) := by decide +kernel
theorem dX8_use_17 : decode cX8_use 17 = .ok (.putfield 25, 3) := by decide +kernel
theorem dX8_use_20 : decode cX8_use 20 = .ok (.iload_n 2, 1) := by decide +kernel
theorem dX8_use_21 : decode cX8_use 21 = .ok (.ifCond .lt 19, 3) := by decide +kernel
theorem dX8_use_24 : decode cX8_use 24 = .ok (.iload_n 2, 1) := by decide +kernel
theorem dX8_use_25 : decode cX8_use 25 = .ok (.bipush 16, 2) := by decide +kernel
theorem dX8_use_27 : decode cX8_use 27 = .ok (.if_icmp .ge 13, 3) := by decide +kernel
theorem dX8_use_30 : decode cX8_use 30 = .ok (.aload_n 0, 1) := by decide +kernel
theorem dX8_use_31 : decode cX8_use 31 = .ok (.getfield 18, 3) := by decide +kernel
theorem dX8_use_34 : decode cX8_use 34 = .ok (.iload_n 2, 1) := by decide +kernel
theorem dX8_use_35 : decode cX8_use 35 = .ok (.dup2, 1) := by decide +kernel
theorem dX8_use_36 : decode cX8_use 36 = .ok (.iaload, 1) := by decide +kernel
theorem dX8_use_37 : decode cX8_use 37 = .ok (.iload_n 3, 1) := by decide +kernel
theorem dX8_use_38 : decode cX8_use 38 = .ok (.isub, 1) := by decide +kernel
theorem dX8_use_39 : decode cX8_use 39 = .ok (.iastore, 1) := by decide +kernel
theorem dX8_use_40 : decode cX8_use 40 = .ok (.return_, 1) := by decide +kernel
theorem dX8_reserve_0 : decode cX8_reserve 0 = .ok (.iload_n 1, 1) := by decide +kernel
theorem dX8_reserve_1 : decode cX8_reserve 1 = .ok (.ifCond .lt 9, 3) := by decide +kernel
theorem dX8_reserve_4 : decode cX8_reserve 4 = .ok (.iload_n 1, 1) := by decide +kernel
theorem dX8_reserve_5 : decode cX8_reserve 5 = .ok (.bipush 8, 2) := by decide +kernel
theorem dX8_reserve_7 : decode cX8_reserve 7 = .ok (.if_icmp .lt 4, 3) := by decide +kernel
theorem dX8_reserve_10 : decode cX8_reserve 10 = .ok (.return_, 1) := by decide +kernel
theorem dX8_reserve_11 : decode cX8_reserve 11 = .ok (.aload_n 0, 1) := by decide +kernel
theorem dX8_reserve_12 : decode cX8_reserve 12 = .ok (.getfield 9, 3) := by decide +kernel
theorem dX8_reserve_15 : decode cX8_reserve 15 = .ok (.iload_n 1, 1) := by decide +kernel
theorem dX8_reserve_16 : decode cX8_reserve 16 = .ok (.dup2, 1) := by decide +kernel
theorem dX8_reserve_17 : decode cX8_reserve 17 = .ok (.iaload, 1) := by decide +kernel
theorem dX8_reserve_18 : decode cX8_reserve 18 = .ok (.iload_n 2, 1) := by decide +kernel
theorem dX8_reserve_19 : decode cX8_reserve 19 = .ok (.iadd, 1) := by decide +kernel
theorem dX8_reserve_20 : decode cX8_reserve 20 = .ok (.iastore, 1) := by decide +kernel
theorem dX8_reserve_21 : decode cX8_reserve 21 = .ok (.iload_n 3, 1) := by decide +kernel
theorem dX8_reserve_22 : decode cX8_reserve 22 = .ok (.ifCond .lt 25, 3) := by decide +kernel
theorem dX8_reserve_25 : decode cX8_reserve 25 = .ok (.iload_n 3, 1) := by decide +kernel
theorem dX8_reserve_26 : decode cX8_reserve 26 = .ok (.bipush 16, 2) := by decide +kernel
theorem dX8_reserve_28 : decode cX8_reserve 28 = .ok (.if_icmp .ge 19, 3) := by decide +kernel
theorem dX8_reserve_31 : decode cX8_reserve 31 = .ok (.aload_n 0, 1) := by decide +kernel
theorem dX8_reserve_32 : decode cX8_reserve 32 = .ok (.getfield 15, 3) := by decide +kernel
theorem dX8_reserve_35 : decode cX8_reserve 35 = .ok (.iload_n 3, 1) := by decide +kernel
theorem dX8_reserve_36 : decode cX8_reserve 36 = .ok (.bipush 8, 2) := by decide +kernel
theorem dX8_reserve_38 : decode cX8_reserve 38 = .ok (.imul, 1) := by decide +kernel
theorem dX8_reserve_39 : decode cX8_reserve 39 = .ok (.iload_n 1, 1) := by decide +kernel
theorem dX8_reserve_40 : decode cX8_reserve 40 = .ok (.iadd, 1) := by decide +kernel
theorem dX8_reserve_41 : decode cX8_reserve 41 = .ok (.dup2, 1) := by decide +kernel
theorem dX8_reserve_42 : decode cX8_reserve 42 = .ok (.iaload, 1) := by decide +kernel
theorem dX8_reserve_43 : decode cX8_reserve 43 = .ok (.iload 4, 2) := by decide +kernel
theorem dX8_reserve_45 : decode cX8_reserve 45 = .ok (.iadd, 1) := by decide +kernel
theorem dX8_reserve_46 : decode cX8_reserve 46 = .ok (.iastore, 1) := by decide +kernel
theorem dX8_reserve_47 : decode cX8_reserve 47 = .ok (.return_, 1) := by decide +kernel
set_option maxRecDepth 20000 in
theorem ggX8_bestPhase_X8_hostPeak : GoodIn wsX8_bestPhase wsX8_hostPeak := goodIn_ca (goodIn_r _ [5, 6, 7, 8, 9, 10, 16, 17, 18, 19, 20] (by decide +kernel) (by decide +kernel)) (goodIn_sub (fun _ h => List.mem_cons_of_mem _ (List.mem_append_right _ h)) (by decide +kernel))
set_option maxRecDepth 20000 in
theorem gX8_bestPhase_X8_hostPeak : GoodIn wsX8_bestPhase (wsV RX8 28 RX8 yX8_hostPeak wsX8_hostPeak) := goodIn_app (goodIn_of _ (by decide +kernel)) ggX8_bestPhase_X8_hostPeak
set_option maxRecDepth 20000 in
theorem ggX8_bestPhase_X8_hubPeak : GoodIn wsX8_bestPhase wsX8_hubPeak := goodIn_ca (goodIn_r _ [14, 15, 7, 8, 9, 10, 16, 17, 18, 19, 20] (by decide +kernel) (by decide +kernel)) (goodIn_sub (fun _ h => List.mem_cons_of_mem _ (List.mem_append_right _ h)) (by decide +kernel))
set_option maxRecDepth 20000 in
theorem gX8_bestPhase_X8_hubPeak : GoodIn wsX8_bestPhase (wsV RX8 32 RX8 yX8_hubPeak wsX8_hubPeak) := goodIn_app (goodIn_of _ (by decide +kernel)) ggX8_bestPhase_X8_hubPeak
theorem dX8_bestPhase_0 : decode cX8_bestPhase 0 = .ok (.iconst (-1), 1) := by decide +kernel
theorem dX8_bestPhase_1 : decode cX8_bestPhase 1 = .ok (.istore 5, 2) := by decide +kernel
theorem dX8_bestPhase_3 : decode cX8_bestPhase 3 = .ok (.bipush 81, 2) := by decide +kernel
theorem dX8_bestPhase_5 : decode cX8_bestPhase 5 = .ok (.istore 6, 2) := by decide +kernel
theorem dX8_bestPhase_7 : decode cX8_bestPhase 7 = .ok (.iconst 0, 1) := by decide +kernel
theorem dX8_bestPhase_8 : decode cX8_bestPhase 8 = .ok (.istore 7, 2) := by decide +kernel
theorem dX8_bestPhase_10 : decode cX8_bestPhase 10 = .ok (.iload 7, 2) := by decide +kernel
theorem dX8_bestPhase_12 : decode cX8_bestPhase 12 = .ok (.iload_n 1, 1) := by decide +kernel
theorem dX8_bestPhase_13 : decode cX8_bestPhase 13 = .ok (.if_icmp .ge 49, 3) := by decide +kernel
theorem dX8_bestPhase_16 : decode cX8_bestPhase 16 = .ok (.aload_n 0, 1) := by decide +kernel
theorem dX8_bestPhase_17 : decode cX8_bestPhase 17 = .ok (.iload_n 1, 1) := by decide +kernel
theorem dX8_bestPhase_18 : decode cX8_bestPhase 18 = .ok (.iload 7, 2) := by decide +kernel
theorem dX8_bestPhase_20 : decode cX8_bestPhase 20 = .ok (.iload_n 2, 1) := by decide +kernel
theorem dX8_bestPhase_21 : decode cX8_bestPhase 21 = .ok (.invokevirtual 28, 3) := by decide +kernel
theorem dX8_bestPhase_24 : decode cX8_bestPhase 24 = .ok (.istore 8, 2) := by decide +kernel
theorem dX8_bestPhase_26 : decode cX8_bestPhase 26 = .ok (.iload 8, 2) := by decide +kernel
theorem dX8_bestPhase_28 : decode cX8_bestPhase 28 = .ok (.iload 6, 2) := by decide +kernel
theorem dX8_bestPhase_30 : decode cX8_bestPhase 30 = .ok (.if_icmp .ge 26, 3) := by decide +kernel
theorem dX8_bestPhase_33 : decode cX8_bestPhase 33 = .ok (.aload_n 0, 1) := by decide +kernel
theorem dX8_bestPhase_34 : decode cX8_bestPhase 34 = .ok (.iload_n 1, 1) := by decide +kernel
theorem dX8_bestPhase_35 : decode cX8_bestPhase 35 = .ok (.iload 7, 2) := by decide +kernel
theorem dX8_bestPhase_37 : decode cX8_bestPhase 37 = .ok (.iload_n 3, 1) := by decide +kernel
theorem dX8_bestPhase_38 : decode cX8_bestPhase 38 = .ok (.iload 4, 2) := by decide +kernel
theorem dX8_bestPhase_40 : decode cX8_bestPhase 40 = .ok (.invokevirtual 32, 3) := by decide +kernel
theorem dX8_bestPhase_43 : decode cX8_bestPhase 43 = .ok (.bipush 48, 2) := by decide +kernel
theorem dX8_bestPhase_45 : decode cX8_bestPhase 45 = .ok (.if_icmp .gt 11, 3) := by decide +kernel
theorem dX8_bestPhase_48 : decode cX8_bestPhase 48 = .ok (.iload 7, 2) := by decide +kernel
theorem dX8_bestPhase_50 : decode cX8_bestPhase 50 = .ok (.istore 5, 2) := by decide +kernel
theorem dX8_bestPhase_52 : decode cX8_bestPhase 52 = .ok (.iload 8, 2) := by decide +kernel
theorem dX8_bestPhase_54 : decode cX8_bestPhase 54 = .ok (.istore 6, 2) := by decide +kernel
theorem dX8_bestPhase_56 : decode cX8_bestPhase 56 = .ok (.iinc 7 1, 3) := by decide +kernel
theorem dX8_bestPhase_59 : decode cX8_bestPhase 59 = .ok (.goto (-49), 3) := by decide +kernel
theorem dX8_bestPhase_62 : decode cX8_bestPhase 62 = .ok (.iload 5, 2) := by decide +kernel
theorem dX8_bestPhase_64 : decode cX8_bestPhase 64 = .ok (.ireturn, 1) := by decide +kernel
theorem dX8_hostPeak_0 : decode cX8_hostPeak 0 = .ok (.iconst 0, 1) := by decide +kernel
theorem dX8_hostPeak_1 : decode cX8_hostPeak 1 = .ok (.istore 4, 2) := by decide +kernel
theorem dX8_hostPeak_3 : decode cX8_hostPeak 3 = .ok (.iconst 0, 1) := by decide +kernel
theorem dX8_hostPeak_4 : decode cX8_hostPeak 4 = .ok (.istore 5, 2) := by decide +kernel
theorem dX8_hostPeak_6 : decode cX8_hostPeak 6 = .ok (.iload 5, 2) := by decide +kernel
theorem dX8_hostPeak_8 : decode cX8_hostPeak 8 = .ok (.bipush 8, 2) := by decide +kernel
theorem dX8_hostPeak_10 : decode cX8_hostPeak 10 = .ok (.if_icmp .ge 57, 3) := by decide +kernel
theorem dX8_hostPeak_13 : decode cX8_hostPeak 13 = .ok (.iload 5, 2) := by decide +kernel
theorem dX8_hostPeak_15 : decode cX8_hostPeak 15 = .ok (.iload_n 1, 1) := by decide +kernel
theorem dX8_hostPeak_16 : decode cX8_hostPeak 16 = .ok (.iconst 1, 1) := by decide +kernel
theorem dX8_hostPeak_17 : decode cX8_hostPeak 17 = .ok (.isub, 1) := by decide +kernel
theorem dX8_hostPeak_18 : decode cX8_hostPeak 18 = .ok (.iand, 1) := by decide +kernel
theorem dX8_hostPeak_19 : decode cX8_hostPeak 19 = .ok (.iload_n 2, 1) := by decide +kernel
theorem dX8_hostPeak_20 : decode cX8_hostPeak 20 = .ok (.if_icmp .ne 7, 3) := by decide +kernel
theorem dX8_hostPeak_23 : decode cX8_hostPeak 23 = .ok (.iconst 1, 1) := by decide +kernel
theorem dX8_hostPeak_24 : decode cX8_hostPeak 24 = .ok (.goto 4, 3) := by decide +kernel
theorem dX8_hostPeak_27 : decode cX8_hostPeak 27 = .ok (.iconst 0, 1) := by decide +kernel
theorem dX8_hostPeak_28 : decode cX8_hostPeak 28 = .ok (.istore 6, 2) := by decide +kernel
theorem dX8_hostPeak_30 : decode cX8_hostPeak 30 = .ok (.iload 4, 2) := by decide +kernel
theorem dX8_hostPeak_32 : decode cX8_hostPeak 32 = .ok (.iload 6, 2) := by decide +kernel
theorem dX8_hostPeak_34 : decode cX8_hostPeak 34 = .ok (.ifCond .eq 15, 3) := by decide +kernel
theorem dX8_hostPeak_37 : decode cX8_hostPeak 37 = .ok (.aload_n 0, 1) := by decide +kernel
theorem dX8_hostPeak_38 : decode cX8_hostPeak 38 = .ok (.getfield 9, 3) := by decide +kernel
theorem dX8_hostPeak_41 : decode cX8_hostPeak 41 = .ok (.iload 5, 2) := by decide +kernel
theorem dX8_hostPeak_43 : decode cX8_hostPeak 43 = .ok (.iaload, 1) := by decide +kernel
theorem dX8_hostPeak_44 : decode cX8_hostPeak 44 = .ok (.iload_n 3, 1) := by decide +kernel
theorem dX8_hostPeak_45 : decode cX8_hostPeak 45 = .ok (.iadd, 1) := by decide +kernel
theorem dX8_hostPeak_46 : decode cX8_hostPeak 46 = .ok (.goto 10, 3) := by decide +kernel
theorem dX8_hostPeak_49 : decode cX8_hostPeak 49 = .ok (.aload_n 0, 1) := by decide +kernel
theorem dX8_hostPeak_50 : decode cX8_hostPeak 50 = .ok (.getfield 9, 3) := by decide +kernel
theorem dX8_hostPeak_53 : decode cX8_hostPeak 53 = .ok (.iload 5, 2) := by decide +kernel
theorem dX8_hostPeak_55 : decode cX8_hostPeak 55 = .ok (.iaload, 1) := by decide +kernel
theorem dX8_hostPeak_56 : decode cX8_hostPeak 56 = .ok (.invokestatic 36, 3) := by decide +kernel
theorem dX8_hostPeak_59 : decode cX8_hostPeak 59 = .ok (.istore 4, 2) := by decide +kernel
theorem dX8_hostPeak_61 : decode cX8_hostPeak 61 = .ok (.iinc 5 1, 3) := by decide +kernel
theorem dX8_hostPeak_64 : decode cX8_hostPeak 64 = .ok (.goto (-58), 3) := by decide +kernel
theorem dX8_hostPeak_67 : decode cX8_hostPeak 67 = .ok (.iload 4, 2) := by decide +kernel
theorem dX8_hostPeak_69 : decode cX8_hostPeak 69 = .ok (.ireturn, 1) := by decide +kernel
theorem dX8_hubPeak_0 : decode cX8_hubPeak 0 = .ok (.iconst 0, 1) := by decide +kernel
theorem dX8_hubPeak_1 : decode cX8_hubPeak 1 = .ok (.istore 5, 2) := by decide +kernel
theorem dX8_hubPeak_3 : decode cX8_hubPeak 3 = .ok (.iconst 0, 1) := by decide +kernel
theorem dX8_hubPeak_4 : decode cX8_hubPeak 4 = .ok (.istore 6, 2) := by decide +kernel
theorem dX8_hubPeak_6 : decode cX8_hubPeak 6 = .ok (.iload 6, 2) := by decide +kernel
theorem dX8_hubPeak_8 : decode cX8_hubPeak 8 = .ok (.bipush 8, 2) := by decide +kernel
theorem dX8_hubPeak_10 : decode cX8_hubPeak 10 = .ok (.if_icmp .ge 72, 3) := by decide +kernel
theorem dX8_hubPeak_13 : decode cX8_hubPeak 13 = .ok (.iload_n 3, 1) := by decide +kernel
theorem dX8_hubPeak_14 : decode cX8_hubPeak 14 = .ok (.ifCond .lt 68, 3) := by decide +kernel
theorem dX8_hubPeak_17 : decode cX8_hubPeak 17 = .ok (.iload_n 3, 1) := by decide +kernel
theorem dX8_hubPeak_18 : decode cX8_hubPeak 18 = .ok (.bipush 16, 2) := by decide +kernel
theorem dX8_hubPeak_20 : decode cX8_hubPeak 20 = .ok (.if_icmp .ge 62, 3) := by decide +kernel
theorem dX8_hubPeak_23 : decode cX8_hubPeak 23 = .ok (.iload 6, 2) := by decide +kernel
theorem dX8_hubPeak_25 : decode cX8_hubPeak 25 = .ok (.iload_n 1, 1) := by decide +kernel
theorem dX8_hubPeak_26 : decode cX8_hubPeak 26 = .ok (.iconst 1, 1) := by decide +kernel
theorem dX8_hubPeak_27 : decode cX8_hubPeak 27 = .ok (.isub, 1) := by decide +kernel
theorem dX8_hubPeak_28 : decode cX8_hubPeak 28 = .ok (.iand, 1) := by decide +kernel
theorem dX8_hubPeak_29 : decode cX8_hubPeak 29 = .ok (.iload_n 2, 1) := by decide +kernel
theorem dX8_hubPeak_30 : decode cX8_hubPeak 30 = .ok (.if_icmp .ne 7, 3) := by decide +kernel
theorem dX8_hubPeak_33 : decode cX8_hubPeak 33 = .ok (.iconst 1, 1) := by decide +kernel
theorem dX8_hubPeak_34 : decode cX8_hubPeak 34 = .ok (.goto 4, 3) := by decide +kernel
theorem dX8_hubPeak_37 : decode cX8_hubPeak 37 = .ok (.iconst 0, 1) := by decide +kernel
theorem dX8_hubPeak_38 : decode cX8_hubPeak 38 = .ok (.istore 7, 2) := by decide +kernel
theorem dX8_hubPeak_40 : decode cX8_hubPeak 40 = .ok (.aload_n 0, 1) := by decide +kernel
theorem dX8_hubPeak_41 : decode cX8_hubPeak 41 = .ok (.getfield 15, 3) := by decide +kernel
theorem dX8_hubPeak_44 : decode cX8_hubPeak 44 = .ok (.iload_n 3, 1) := by decide +kernel
theorem dX8_hubPeak_45 : decode cX8_hubPeak 45 = .ok (.bipush 8, 2) := by decide +kernel
theorem dX8_hubPeak_47 : decode cX8_hubPeak 47 = .ok (.imul, 1) := by decide +kernel
theorem dX8_hubPeak_48 : decode cX8_hubPeak 48 = .ok (.iload 6, 2) := by decide +kernel
theorem dX8_hubPeak_50 : decode cX8_hubPeak 50 = .ok (.iadd, 1) := by decide +kernel
theorem dX8_hubPeak_51 : decode cX8_hubPeak 51 = .ok (.iaload, 1) := by decide +kernel
theorem dX8_hubPeak_52 : decode cX8_hubPeak 52 = .ok (.istore 8, 2) := by decide +kernel
theorem dX8_hubPeak_54 : decode cX8_hubPeak 54 = .ok (.iload 5, 2) := by decide +kernel
theorem dX8_hubPeak_56 : decode cX8_hubPeak 56 = .ok (.iload 7, 2) := by decide +kernel
theorem dX8_hubPeak_58 : decode cX8_hubPeak 58 = .ok (.ifCond .eq 11, 3) := by decide +kernel
theorem dX8_hubPeak_61 : decode cX8_hubPeak 61 = .ok (.iload 8, 2) := by decide +kernel
theorem dX8_hubPeak_63 : decode cX8_hubPeak 63 = .ok (.iload 4, 2) := by decide +kernel
theorem dX8_hubPeak_65 : decode cX8_hubPeak 65 = .ok (.iadd, 1) := by decide +kernel
theorem dX8_hubPeak_66 : decode cX8_hubPeak 66 = .ok (.goto 5, 3) := by decide +kernel
theorem dX8_hubPeak_69 : decode cX8_hubPeak 69 = .ok (.iload 8, 2) := by decide +kernel
theorem dX8_hubPeak_71 : decode cX8_hubPeak 71 = .ok (.invokestatic 36, 3) := by decide +kernel
theorem dX8_hubPeak_74 : decode cX8_hubPeak 74 = .ok (.istore 5, 2) := by decide +kernel
theorem dX8_hubPeak_76 : decode cX8_hubPeak 76 = .ok (.iinc 6 1, 3) := by decide +kernel
theorem dX8_hubPeak_79 : decode cX8_hubPeak 79 = .ok (.goto (-73), 3) := by decide +kernel
theorem dX8_hubPeak_82 : decode cX8_hubPeak 82 = .ok (.iload 5, 2) := by decide +kernel
theorem dX8_hubPeak_84 : decode cX8_hubPeak 84 = .ok (.ireturn, 1) := by decide +kernel
set_option maxRecDepth 20000 in
theorem ggX9_init_X0_init : GoodIn wsX9_init wsX0_init := goodIn_r _ [35, 36, 2, 3, 6, 37, 113, 114, 115, 116] (by decide +kernel) (by decide +kernel)
set_option maxRecDepth 20000 in
theorem gX9_init_X0_init_n34 : GoodIn wsX9_init (wsX0_init) := ggX9_init_X0_init
set_option maxRecDepth 20000 in
theorem ggX9_init_X8_init : GoodIn wsX9_init wsX8_init := goodIn_r _ [39, 40, 2, 3, 6, 41, 42, 43, 117, 118, 119, 120, 121] (by decide +kernel) (by decide +kernel)
set_option maxRecDepth 20000 in
theorem gX9_init_X8_init_n44 : GoodIn wsX9_init (wsX8_init) := ggX9_init_X8_init
set_option maxRecDepth 20000 in
theorem ggX9_init_X3_init : GoodIn wsX9_init wsX3_init := goodIn_r _ [45, 46, 2, 3, 47, 48, 6, 49, 50, 51, 122, 123, 124, 125, 126, 127, 128, 129, 130, 131] (by decide +kernel) (by decide +kernel)
set_option maxRecDepth 20000 in
theorem gX9_init_X3_init_n51 : GoodIn wsX9_init (wsX3_init) := ggX9_init_X3_init
set_option maxRecDepth 20000 in
theorem ggX9_init_X6_init : GoodIn wsX9_init wsX6_init := goodIn_r _ [53, 54, 2, 3] (by decide +kernel) (by decide +kernel)
set_option maxRecDepth 20000 in
theorem gX9_init_X6_init_n58 : GoodIn wsX9_init (wsX6_init) := ggX9_init_X6_init
set_option maxRecDepth 20000 in
theorem ggX9_init_X1_init : GoodIn wsX9_init wsX1_init := goodIn_r _ [56, 57, 2, 3, 58, 59, 60, 61, 62, 63, 64, 65, 66, 67, 68, 69, 70, 71, 72, 73, 74, 75, 76, 77, 78, 79, 80, 13, 14, 81, 82, 83, 34, 35, 36, 6, 37, 135, 136, 137, 138, 139, 140, 141, 142, 143, 144, 145, 146, 147, 148, 149, 150, 151, 152, 153, 154, 169, 170, 171, 172, 173, 174, 175, 176, 177, 178, 179, 113, 114, 115, 116] (by decide +kernel) (by decide +kernel)
set_option maxRecDepth 20000 in
theorem gX9_init_X1_init_n63 : GoodIn wsX9_init (wsX1_init) := ggX9_init_X1_init
set_option maxRecDepth 20000 in
theorem ggX9_init_X5_init : GoodIn wsX9_init wsX5_init := goodIn_r _ [85, 86, 2, 3, 87, 88, 89, 90, 91, 92, 93, 94, 95, 96, 97, 98, 6, 99, 155, 156, 157, 158, 159, 160, 161, 162, 163, 164, 165, 166, 167, 168, 180, 181, 182, 183, 184, 185] (by decide +kernel) (by decide +kernel)
set_option maxRecDepth 20000 in
theorem gX9_init_X5_init_n66 : GoodIn wsX9_init (wsX5_init) := ggX9_init_X5_init
theorem dX9_init_0 : decode cX9_init 0 = .ok (.aload_n 0, 1) := by decide +kernel
theorem dX9_init_1 : decode cX9_init 1 = .ok (.invokespecial 1, 3) := by decide +kernel
theorem dX9_init_4 : decode cX9_init 4 = .ok (.aload_n 0, 1) := by decide +kernel
theorem dX9_init_5 : decode cX9_init 5 = .ok (.bipush 16, 2) := by decide +kernel
theorem dX9_init_7 : decode cX9_init 7 = .ok (.anewarray 9, 3) := by decide +kernel
theorem dX9_init_10 : decode cX9_init 10 = .ok (.putfield 11, 3) := by decide +kernel
theorem dX9_init_13 : decode cX9_init 13 = .ok (.aload_n 0, 1) := by decide +kernel
theorem dX9_init_14 : decode cX9_init 14 = .ok (.bipush 8, 2) := by decide +kernel
theorem dX9_init_16 : decode cX9_init 16 = .ok (.newarray .int, 2) := by decide +kernel
theorem dX9_init_18 : decode cX9_init 18 = .ok (.putfield 15, 3) := by decide +kernel
theorem dX9_init_21 : decode cX9_init 21 = .ok (.aload_n 0, 1) := by decide +kernel
theorem dX9_init_22 : decode cX9_init 22 = .ok (.bipush 8, 2) := by decide +kernel
theorem dX9_init_24 : decode cX9_init 24 = .ok (.newarray .int, 2) := by decide +kernel
theorem dX9_init_26 : decode cX9_init 26 = .ok (.putfield 19, 3) := by decide +kernel
theorem dX9_init_29 : decode cX9_init 29 = .ok (.aload_n 0, 1) := by decide +kernel
theorem dX9_init_30 : decode cX9_init 30 = .ok (.bipush 12, 2) := by decide +kernel
theorem dX9_init_32 : decode cX9_init 32 = .ok (.anewarray 22, 3) := by decide +kernel
theorem dX9_init_35 : decode cX9_init 35 = .ok (.putfield 24, 3) := by decide +kernel
theorem dX9_init_38 : decode cX9_init 38 = .ok (.aload_n 0, 1) := by decide +kernel
theorem dX9_init_39 : decode cX9_init 39 = .ok (.bipush 11, 2) := by decide +kernel
theorem dX9_init_41 : decode cX9_init 41 = .ok (.putfield 28, 3) := by decide +kernel
theorem dX9_init_44 : decode cX9_init 44 = .ok (.aload_n 0, 1) := by decide +kernel
theorem dX9_init_45 : decode cX9_init 45 = .ok (.new 32, 3) := by decide +kernel
theorem dX9_init_48 : decode cX9_init 48 = .ok (.dup, 1) := by decide +kernel
theorem dX9_init_49 : decode cX9_init 49 = .ok (.invokespecial 34, 3) := by decide +kernel
theorem dX9_init_52 : decode cX9_init 52 = .ok (.putfield 35, 3) := by decide +kernel
theorem dX9_init_55 : decode cX9_init 55 = .ok (.aload_n 0, 1) := by decide +kernel
theorem dX9_init_56 : decode cX9_init 56 = .ok (.new 32, 3) := by decide +kernel
theorem dX9_init_59 : decode cX9_init 59 = .ok (.dup, 1) := by decide +kernel
theorem dX9_init_60 : decode cX9_init 60 = .ok (.invokespecial 34, 3) := by decide +kernel
theorem dX9_init_63 : decode cX9_init 63 = .ok (.putfield 39, 3) := by decide +kernel
theorem dX9_init_66 : decode cX9_init 66 = .ok (.aload_n 0, 1) := by decide +kernel
theorem dX9_init_67 : decode cX9_init 67 = .ok (.new 42, 3) := by decide +kernel
theorem dX9_init_70 : decode cX9_init 70 = .ok (.dup, 1) := by decide +kernel
theorem dX9_init_71 : decode cX9_init 71 = .ok (.invokespecial 44, 3) := by decide +kernel
theorem dX9_init_74 : decode cX9_init 74 = .ok (.putfield 45, 3) := by decide +kernel
theorem dX9_init_77 : decode cX9_init 77 = .ok (.aload_n 0, 1) := by decide +kernel
theorem dX9_init_78 : decode cX9_init 78 = .ok (.new 49, 3) := by decide +kernel
theorem dX9_init_81 : decode cX9_init 81 = .ok (.dup, 1) := by decide +kernel
theorem dX9_init_82 : decode cX9_init 82 = .ok (.invokespecial 51, 3) := by decide +kernel
theorem dX9_init_85 : decode cX9_init 85 = .ok (.putfield 52, 3) := by decide +kernel
theorem dX9_init_88 : decode cX9_init 88 = .ok (.aload_n 0, 1) := by decide +kernel
theorem dX9_init_89 : decode cX9_init 89 = .ok (.new 56, 3) := by decide +kernel
theorem dX9_init_92 : decode cX9_init 92 = .ok (.dup, 1) := by decide +kernel
theorem dX9_init_93 : decode cX9_init 93 = .ok (.invokespecial 58, 3) := by decide +kernel
theorem dX9_init_96 : decode cX9_init 96 = .ok (.putfield 59, 3) := by decide +kernel
theorem dX9_init_99 : decode cX9_init 99 = .ok (.iconst 0, 1) := by decide +kernel
theorem dX9_init_100 : decode cX9_init 100 = .ok (.istore_n 1, 1) := by decide +kernel
theorem dX9_init_101 : decode cX9_init 101 = .ok (.iload_n 1, 1) := by decide +kernel
theorem dX9_init_102 : decode cX9_init 102 = .ok (.bipush 16, 2) := by decide +kernel
theorem dX9_init_104 : decode cX9_init 104 = .ok (.if_icmp .ge 23, 3) := by decide +kernel
theorem dX9_init_107 : decode cX9_init 107 = .ok (.aload_n 0, 1) := by decide +kernel
theorem dX9_init_108 : decode cX9_init 108 = .ok (.getfield 11, 3) := by decide +kernel
theorem dX9_init_111 : decode cX9_init 111 = .ok (.iload_n 1, 1) := by decide +kernel
theorem dX9_init_112 : decode cX9_init 112 = .ok (.new 9, 3) := by decide +kernel
theorem dX9_init_115 : decode cX9_init 115 = .ok (.dup, 1) := by decide +kernel
theorem dX9_init_116 : decode cX9_init 116 = .ok (.iload_n 1, 1) := by decide +kernel
theorem dX9_init_117 : decode cX9_init 117 = .ok (.invokespecial 63, 3) := by decide +kernel
theorem dX9_init_120 : decode cX9_init 120 = .ok (.aastore, 1) := by decide +kernel
theorem dX9_init_121 : decode cX9_init 121 = .ok (.iinc 1 1, 3) := by decide +kernel
theorem dX9_init_124 : decode cX9_init 124 = .ok (.goto (-23), 3) := by decide +kernel
theorem dX9_init_127 : decode cX9_init 127 = .ok (.iconst 0, 1) := by decide +kernel
theorem dX9_init_128 : decode cX9_init 128 = .ok (.istore_n 1, 1) := by decide +kernel
theorem dX9_init_129 : decode cX9_init 129 = .ok (.iload_n 1, 1) := by decide +kernel
theorem dX9_init_130 : decode cX9_init 130 = .ok (.bipush 12, 2) := by decide +kernel
theorem dX9_init_132 : decode cX9_init 132 = .ok (.if_icmp .ge 23, 3) := by decide +kernel
theorem dX9_init_135 : decode cX9_init 135 = .ok (.aload_n 0, 1) := by decide +kernel
theorem dX9_init_136 : decode cX9_init 136 = .ok (.getfield 24, 3) := by decide +kernel
theorem dX9_init_139 : decode cX9_init 139 = .ok (.iload_n 1, 1) := by decide +kernel
theorem dX9_init_140 : decode cX9_init 140 = .ok (.new 22, 3) := by decide +kernel
theorem dX9_init_143 : decode cX9_init 143 = .ok (.dup, 1) := by decide +kernel
theorem dX9_init_144 : decode cX9_init 144 = .ok (.iload_n 1, 1) := by decide +kernel
theorem dX9_init_145 : decode cX9_init 145 = .ok (.invokespecial 66, 3) := by decide +kernel
theorem dX9_init_148 : decode cX9_init 148 = .ok (.aastore, 1) := by decide +kernel
theorem dX9_init_149 : decode cX9_init 149 = .ok (.iinc 1 1, 3) := by decide +kernel
theorem dX9_init_152 : decode cX9_init 152 = .ok (.goto (-23), 3) := by decide +kernel
theorem dX9_init_155 : decode cX9_init 155 = .ok (.aload_n 0, 1) := by decide +kernel
theorem dX9_init_156 : decode cX9_init 156 = .ok (.getfield 11, 3) := by decide +kernel
theorem dX9_init_159 : decode cX9_init 159 = .ok (.iconst 0, 1) := by decide +kernel
theorem dX9_init_160 : decode cX9_init 160 = .ok (.aaload, 1) := by decide +kernel
theorem dX9_init_161 : decode cX9_init 161 = .ok (.astore_n 1, 1) := by decide +kernel
theorem dX9_init_162 : decode cX9_init 162 = .ok (.aload_n 1, 1) := by decide +kernel
theorem dX9_init_163 : decode cX9_init 163 = .ok (.iconst 4, 1) := by decide +kernel
theorem dX9_init_164 : decode cX9_init 164 = .ok (.putfield 67, 3) := by decide +kernel
theorem dX9_init_167 : decode cX9_init 167 = .ok (.aload_n 1, 1) := by decide +kernel
theorem dX9_init_168 : decode cX9_init 168 = .ok (.iconst 1, 1) := by decide +kernel
theorem dX9_init_169 : decode cX9_init 169 = .ok (.putfield 70, 3) := by decide +kernel
theorem dX9_init_172 : decode cX9_init 172 = .ok (.aload_n 1, 1) := by decide +kernel
theorem dX9_init_173 : decode cX9_init 173 = .ok (.bipush 99, 2) := by decide +kernel
theorem dX9_init_175 : decode cX9_init 175 = .ok (.putfield 74, 3) := by decide +kernel
theorem dX9_init_178 : decode cX9_init 178 = .ok (.aload_n 1, 1) := by decide +kernel
theorem dX9_init_179 : decode cX9_init 179 = .ok (.iconst 0, 1) := by decide +kernel
theorem dX9_init_180 : decode cX9_init 180 = .ok (.putfield 78, 3) := by decide +kernel
theorem dX9_init_183 : decode cX9_init 183 = .ok (.aload_n 0, 1) := by decide +kernel
theorem dX9_init_184 : decode cX9_init 184 = .ok (.iconst 1, 1) := by decide +kernel
theorem dX9_init_185 : decode cX9_init 185 = .ok (.putfield 81, 3) := by decide +kernel
theorem dX9_init_188 : decode cX9_init 188 = .ok (.return_, 1) := by decide +kernel
set_option maxRecDepth 20000 in
theorem ggX9_make_X9_isSpeed : GoodIn wsX9_make wsX9_isSpeed := goodIn_r _ [10] (by decide +kernel) (by decide +kernel)
set_option maxRecDepth 20000 in
theorem gX9_make_X9_isSpeed : GoodIn wsX9_make (va_wsS RX9 84 yX9_isSpeed wsX9_isSpeed) := goodIn_app (goodIn_of _ (by decide +kernel)) ggX9_make_X9_isSpeed
set_option maxRecDepth 20000 in
theorem ggX9_make_X9_isWithin : GoodIn wsX9_make wsX9_isWithin := goodIn_r _ [13] (by decide +kernel) (by decide +kernel)
set_option maxRecDepth 20000 in
theorem gX9_make_X9_isWithin : GoodIn wsX9_make (va_wsS RX9 88 yX9_isWithin wsX9_isWithin) := goodIn_app (goodIn_of _ (by decide +kernel)) ggX9_make_X9_isWithin
theorem dX9_make_0 : decode cX9_make 0 = .ok (.iload_n 1, 1) := by decide +kernel
theorem dX9_make_1 : decode cX9_make 1 = .ok (.invokestatic 84, 3) := by decide +kernel
theorem dX9_make_4 : decode cX9_make 4 = .ok (.ifCond .eq 32, 3) := by decide +kernel
theorem dX9_make_7 : decode cX9_make 7 = .ok (.iload_n 2, 1) := by decide +kernel
theorem dX9_make_8 : decode cX9_make 8 = .ok (.iconst 0, 1) := by decide +kernel
theorem dX9_make_9 : decode cX9_make 9 = .ok (.iconst 4, 1) := by decide +kernel
theorem dX9_make_10 : decode cX9_make 10 = .ok (.invokestatic 88, 3) := by decide +kernel
theorem dX9_make_13 : decode cX9_make 13 = .ok (.ifCond .eq 23, 3) := by decide +kernel
theorem dX9_make_16 : decode cX9_make 16 = .ok (.iload_n 3, 1) := by decide +kernel
theorem dX9_make_17 : decode cX9_make 17 = .ok (.iconst 1, 1) := by decide +kernel
theorem dX9_make_18 : decode cX9_make 18 = .ok (.iconst 5, 1) := by decide +kernel
theorem dX9_make_19 : decode cX9_make 19 = .ok (.invokestatic 88, 3) := by decide +kernel
theorem dX9_make_22 : decode cX9_make 22 = .ok (.ifCond .eq 14, 3) := by decide +kernel
theorem dX9_make_25 : decode cX9_make 25 = .ok (.iload 5, 2) := by decide +kernel
theorem dX9_make_27 : decode cX9_make 27 = .ok (.iconst 0, 1) := by decide +kernel
theorem dX9_make_28 : decode cX9_make 28 = .ok (.bipush 99, 2) := by decide +kernel
theorem dX9_make_30 : decode cX9_make 30 = .ok (.invokestatic 88, 3) := by decide +kernel
theorem dX9_make_33 : decode cX9_make 33 = .ok (.ifCond .ne 13, 3) := by decide +kernel
theorem dX9_make_36 : decode cX9_make 36 = .ok (.new 92, 3) := by decide +kernel
theorem dX9_make_39 : decode cX9_make 39 = .ok (.dup, 1) := by decide +kernel
theorem dX9_make_40 : decode cX9_make 40 = .ok (.ldc 94, 2) := by decide +kernel
theorem dX9_make_42 : decode cX9_make 42 = .ok (.invokespecial 96, 3) := by decide +kernel
theorem dX9_make_45 : decode cX9_make 45 = .ok (.athrow, 1) := by decide +kernel
theorem dX9_make_46 : decode cX9_make 46 = .ok (.iload_n 1, 1) := by decide +kernel
theorem dX9_make_47 : decode cX9_make 47 = .ok (.bipush 108, 2) := by decide +kernel
theorem dX9_make_49 : decode cX9_make 49 = .ok (.if_icmp .ne 17, 3) := by decide +kernel
theorem dX9_make_52 : decode cX9_make 52 = .ok (.iload_n 2, 1) := by decide +kernel
theorem dX9_make_53 : decode cX9_make 53 = .ok (.ifCond .le 13, 3) := by decide +kernel
theorem dX9_make_56 : decode cX9_make 56 = .ok (.new 92, 3) := by decide +kernel
theorem dX9_make_59 : decode cX9_make 59 = .ok (.dup, 1) := by decide +kernel
theorem dX9_make_60 : decode cX9_make 60 = .ok (.ldc 99, 2) := by decide +kernel
theorem dX9_make_62 : decode cX9_make 62 = .ok (.invokespecial 96, 3) := by decide +kernel
theorem dX9_make_65 : decode cX9_make 65 = .ok (.athrow, 1) := by decide +kernel
theorem dX9_make_66 : decode cX9_make 66 = .ok (.aload_n 0, 1) := by decide +kernel
theorem dX9_make_67 : decode cX9_make 67 = .ok (.getfield 81, 3) := by decide +kernel
theorem dX9_make_70 : decode cX9_make 70 = .ok (.bipush 16, 2) := by decide +kernel
theorem dX9_make_72 : decode cX9_make 72 = .ok (.if_icmp .lt 13, 3) := by decide +kernel
theorem dX9_make_75 : decode cX9_make 75 = .ok (.new 101, 3) := by decide +kernel
theorem dX9_make_78 : decode cX9_make 78 = .ok (.dup, 1) := by decide +kernel
theorem dX9_make_79 : decode cX9_make 79 = .ok (.ldc 103, 2) := by decide +kernel
theorem dX9_make_81 : decode cX9_make 81 = .ok (.invokespecial 105, 3) := by decide +kernel
theorem dX9_make_84 : decode cX9_make 84 = .ok (.athrow, 1) := by decide +kernel
theorem dX9_make_85 : decode cX9_make 85 = .ok (.aload_n 0, 1) := by decide +kernel
theorem dX9_make_86 : decode cX9_make 86 = .ok (.getfield 11, 3) := by decide +kernel
theorem dX9_make_89 : decode cX9_make 89 = .ok (.aload_n 0, 1) := by decide +kernel
theorem dX9_make_90 : decode cX9_make 90 = .ok (.getfield 81, 3) := by decide +kernel
theorem dX9_make_93 : decode cX9_make 93 = .ok (.aaload, 1) := by decide +kernel
theorem dX9_make_94 : decode cX9_make 94 = .ok (.astore 6, 2) := by decide +kernel
theorem dX9_make_96 : decode cX9_make 96 = .ok (.aload 6, 2) := by decide +kernel
theorem dX9_make_98 : decode cX9_make 98 = .ok (.iload_n 1, 1) := by decide +kernel
theorem dX9_make_99 : decode cX9_make 99 = .ok (.putfield 106, 3) := by decide +kernel
theorem dX9_make_102 : decode cX9_make 102 = .ok (.aload 6, 2) := by decide +kernel
theorem dX9_make_104 : decode cX9_make 104 = .ok (.iload_n 1, 1) := by decide +kernel
theorem dX9_make_105 : decode cX9_make 105 = .ok (.putfield 109, 3) := by decide +kernel
theorem dX9_make_108 : decode cX9_make 108 = .ok (.aload 6, 2) := by decide +kernel
theorem dX9_make_110 : decode cX9_make 110 = .ok (.iload_n 2, 1) := by decide +kernel
theorem dX9_make_111 : decode cX9_make 111 = .ok (.putfield 67, 3) := by decide +kernel
theorem dX9_make_114 : decode cX9_make 114 = .ok (.aload 6, 2) := by decide +kernel
theorem dX9_make_116 : decode cX9_make 116 = .ok (.iload_n 3, 1) := by decide +kernel
theorem dX9_make_117 : decode cX9_make 117 = .ok (.putfield 112, 3) := by decide +kernel
theorem dX9_make_120 : decode cX9_make 120 = .ok (.aload 6, 2) := by decide +kernel
theorem dX9_make_122 : decode cX9_make 122 = .ok (.iload_n 3, 1) := by decide +kernel
theorem dX9_make_123 : decode cX9_make 123 = .ok (.putfield 115, 3) := by decide +kernel
theorem dX9_make_126 : decode cX9_make 126 = .ok (.aload 6, 2) := by decide +kernel
theorem dX9_make_128 : decode cX9_make 128 = .ok (.iload 4, 2) := by decide +kernel
theorem dX9_make_130 : decode cX9_make 130 = .ok (.putfield 70, 3) := by decide +kernel
theorem dX9_make_133 : decode cX9_make 133 = .ok (.aload 6, 2) := by decide +kernel
theorem dX9_make_135 : decode cX9_make 135 = .ok (.iload 5, 2) := by decide +kernel
theorem dX9_make_137 : decode cX9_make 137 = .ok (.putfield 118, 3) := by decide +kernel
theorem dX9_make_140 : decode cX9_make 140 = .ok (.aload_n 0, 1) := by decide +kernel
theorem dX9_make_141 : decode cX9_make 141 = .ok (.dup, 1) := by decide +kernel
theorem dX9_make_142 : decode cX9_make 142 = .ok (.getfield 81, 3) := by decide +kernel
theorem dX9_make_145 : decode cX9_make 145 = .ok (.iconst 1, 1) := by decide +kernel
theorem dX9_make_146 : decode cX9_make 146 = .ok (.iadd, 1) := by decide +kernel
theorem dX9_make_147 : decode cX9_make 147 = .ok (.putfield 81, 3) := by decide +kernel
theorem dX9_make_150 : decode cX9_make 150 = .ok (.aload 6, 2) := by decide +kernel
theorem dX9_make_152 : decode cX9_make 152 = .ok (.getfield 121, 3) := by decide +kernel
theorem dX9_make_155 : decode cX9_make 155 = .ok (.ireturn, 1) := by decide +kernel
set_option maxRecDepth 20000 in
theorem ggX9_endpoint_X9_deviceAt : GoodIn wsX9_endpoint wsX9_deviceAt := goodIn_ca (goodIn_r _ [9, 10, 11, 12, 13, 51, 52, 53, 54, 55, 56, 57, 58, 59, 60, 61, 62, 63] (by decide +kernel) (by decide +kernel)) (goodIn_sub (fun _ h => List.mem_cons_of_mem _ (List.mem_append_right _ h)) (by decide +kernel))
set_option maxRecDepth 20000 in
theorem gX9_endpoint_X9_deviceAt : GoodIn wsX9_endpoint (wsV RX9 124 RX9 yX9_deviceAt wsX9_deviceAt) := goodIn_app (goodIn_of _ (by decide +kernel)) ggX9_endpoint_X9_deviceAt
set_option maxRecDepth 20000 in
theorem ggX9_endpoint_X9_isWithin : GoodIn wsX9_endpoint wsX9_isWithin := goodIn_r _ [16] (by decide +kernel) (by decide +kernel)
set_option maxRecDepth 20000 in
theorem gX9_endpoint_X9_isWithin : GoodIn wsX9_endpoint (va_wsS RX9 88 yX9_isWithin wsX9_isWithin) := goodIn_app (goodIn_of _ (by decide +kernel)) ggX9_endpoint_X9_isWithin
set_option maxRecDepth 20000 in
theorem ggX9_endpoint_X1_countEndpoints : GoodIn wsX9_endpoint wsX1_countEndpoints := goodIn_r _ [20, 21, 22, 23, 24, 25, 26, 27, 28, 29, 30, 31, 32, 33, 34, 35, 36, 37, 38, 39, 40, 41, 42, 43, 44, 45, 46, 47, 48, 49, 50] (by decide +kernel) (by decide +kernel)
set_option maxRecDepth 20000 in
theorem gX9_endpoint_X1_countEndpoints_n150 : GoodIn wsX9_endpoint (wsX1_countEndpoints) := ggX9_endpoint_X1_countEndpoints
theorem dX9_endpoint_0 : decode cX9_endpoint 0 = .ok (.aload_n 0, 1) := by decide +kernel
theorem dX9_endpoint_1 : decode cX9_endpoint 1 = .ok (.iload_n 1, 1) := by decide +kernel
theorem dX9_endpoint_2 : decode cX9_endpoint 2 = .ok (.invokevirtual 124, 3) := by decide +kernel
theorem dX9_endpoint_5 : decode cX9_endpoint 5 = .ok (.astore 5, 2) := by decide +kernel
theorem dX9_endpoint_7 : decode cX9_endpoint 7 = .ok (.iload_n 2, 1) := by decide +kernel
theorem dX9_endpoint_8 : decode cX9_endpoint 8 = .ok (.iconst 1, 1) := by decide +kernel
theorem dX9_endpoint_9 : decode cX9_endpoint 9 = .ok (.iconst 3, 1) := by decide +kernel
theorem dX9_endpoint_10 : decode cX9_endpoint 10 = .ok (.invokestatic 88, 3) := by decide +kernel
theorem dX9_endpoint_13 : decode cX9_endpoint 13 = .ok (.ifCond .eq 14, 3) := by decide +kernel
theorem dX9_endpoint_16 : decode cX9_endpoint 16 = .ok (.iload 4, 2) := by decide +kernel
theorem dX9_endpoint_18 : decode cX9_endpoint 18 = .ok (.iconst 1, 1) := by decide +kernel
theorem dX9_endpoint_19 : decode cX9_endpoint 19 = .ok (.bipush 8, 2) := by decide +kernel
theorem dX9_endpoint_21 : decode cX9_endpoint 21 = .ok (.invokestatic 88, 3) := by decide +kernel
theorem dX9_endpoint_24 : decode cX9_endpoint 24 = .ok (.ifCond .ne 13, 3) := by decide +kernel
theorem dX9_endpoint_27 : decode cX9_endpoint 27 = .ok (.new 92, 3) := by decide +kernel
theorem dX9_endpoint_30 : decode cX9_endpoint 30 = .ok (.dup, 1) := by decide +kernel
theorem dX9_endpoint_31 : decode cX9_endpoint 31 = .ok (.ldc 128, 2) := by decide +kernel
theorem dX9_endpoint_33 : decode cX9_endpoint 33 = .ok (.invokespecial 96, 3) := by decide +kernel
theorem dX9_endpoint_36 : decode cX9_endpoint 36 = .ok (.athrow, 1) := by decide +kernel
theorem dX9_endpoint_37 : decode cX9_endpoint 37 = .ok (.aload 5, 2) := by decide +kernel
theorem dX9_endpoint_39 : decode cX9_endpoint 39 = .ok (.getfield 130, 3) := by decide +kernel
theorem dX9_endpoint_42 : decode cX9_endpoint 42 = .ok (.iload_n 2, 1) := by decide +kernel
theorem dX9_endpoint_43 : decode cX9_endpoint 43 = .ok (.iconst 1, 1) := by decide +kernel
theorem dX9_endpoint_44 : decode cX9_endpoint 44 = .ok (.isub, 1) := by decide +kernel
theorem dX9_endpoint_45 : decode cX9_endpoint 45 = .ok (.aaload, 1) := by decide +kernel
theorem dX9_endpoint_46 : decode cX9_endpoint 46 = .ok (.astore 6, 2) := by decide +kernel
theorem dX9_endpoint_48 : decode cX9_endpoint 48 = .ok (.aload 6, 2) := by decide +kernel
theorem dX9_endpoint_50 : decode cX9_endpoint 50 = .ok (.getfield 134, 3) := by decide +kernel
theorem dX9_endpoint_53 : decode cX9_endpoint 53 = .ok (.ifCond .ne 13, 3) := by decide +kernel
theorem dX9_endpoint_56 : decode cX9_endpoint 56 = .ok (.aload 5, 2) := by decide +kernel
theorem dX9_endpoint_58 : decode cX9_endpoint 58 = .ok (.getfield 74, 3) := by decide +kernel
theorem dX9_endpoint_61 : decode cX9_endpoint 61 = .ok (.bipush 117, 2) := by decide +kernel
theorem dX9_endpoint_63 : decode cX9_endpoint 63 = .ok (.if_icmp .eq 13, 3) := by decide +kernel
theorem dX9_endpoint_66 : decode cX9_endpoint 66 = .ok (.new 139, 3) := by decide +kernel
theorem dX9_endpoint_69 : decode cX9_endpoint 69 = .ok (.dup, 1) := by decide +kernel
theorem dX9_endpoint_70 : decode cX9_endpoint 70 = .ok (.ldc 141, 2) := by decide +kernel
theorem dX9_endpoint_72 : decode cX9_endpoint 72 = .ok (.invokespecial 143, 3) := by decide +kernel
theorem dX9_endpoint_75 : decode cX9_endpoint 75 = .ok (.athrow, 1) := by decide +kernel
theorem dX9_endpoint_76 : decode cX9_endpoint 76 = .ok (.aload 6, 2) := by decide +kernel
theorem dX9_endpoint_78 : decode cX9_endpoint 78 = .ok (.iconst 1, 1) := by decide +kernel
theorem dX9_endpoint_79 : decode cX9_endpoint 79 = .ok (.putfield 134, 3) := by decide +kernel
theorem dX9_endpoint_82 : decode cX9_endpoint 82 = .ok (.aload 6, 2) := by decide +kernel
theorem dX9_endpoint_84 : decode cX9_endpoint 84 = .ok (.iload_n 3, 1) := by decide +kernel
theorem dX9_endpoint_85 : decode cX9_endpoint 85 = .ok (.putfield 144, 3) := by decide +kernel
theorem dX9_endpoint_88 : decode cX9_endpoint 88 = .ok (.aload 6, 2) := by decide +kernel
theorem dX9_endpoint_90 : decode cX9_endpoint 90 = .ok (.iload 4, 2) := by decide +kernel
theorem dX9_endpoint_92 : decode cX9_endpoint 92 = .ok (.putfield 147, 3) := by decide +kernel
theorem dX9_endpoint_95 : decode cX9_endpoint 95 = .ok (.aload 5, 2) := by decide +kernel
theorem dX9_endpoint_97 : decode cX9_endpoint 97 = .ok (.invokevirtual 150, 3) := by decide +kernel
theorem dX9_endpoint_100 : decode cX9_endpoint 100 = .ok (.ireturn, 1) := by decide +kernel
set_option maxRecDepth 20000 in
theorem ggX9_plug_X9_deviceAt : GoodIn wsX9_plug wsX9_deviceAt := goodIn_ca (goodIn_r _ [9, 1, 2, 10, 11, 42, 43, 44, 45, 46, 47, 48, 49, 50, 51, 52, 53, 54] (by decide +kernel) (by decide +kernel)) (goodIn_sub (fun _ h => List.mem_cons_of_mem _ (List.mem_append_left _ (List.mem_append_right _ h))) (by decide +kernel))
set_option maxRecDepth 20000 in
theorem gX9_plug_X9_deviceAt : GoodIn wsX9_plug (wsV RX9 124 RX9 yX9_deviceAt wsX9_deviceAt) := goodIn_app (goodIn_of _ (by decide +kernel)) ggX9_plug_X9_deviceAt
set_option maxRecDepth 20000 in
theorem ggX9_plug_X9_takesDevices : GoodIn wsX9_plug wsX9_takesDevices := goodIn_r _ [14, 22, 23, 24, 25, 26, 27, 28, 29, 30, 31, 32, 33, 34, 35, 36, 37, 38, 39, 40, 41] (by decide +kernel) (by decide +kernel)
set_option maxRecDepth 20000 in
theorem gX9_plug_X9_takesDevices : GoodIn wsX9_plug (va_wsS RX9 159 yX9_takesDevices wsX9_takesDevices) := goodIn_app (goodIn_of _ (by decide +kernel)) ggX9_plug_X9_takesDevices
set_option maxRecDepth 20000 in
theorem ggX9_plug_X9_isPortTaken : GoodIn wsX9_plug wsX9_isPortTaken := goodIn_r _ [18, 11, 42, 43, 44, 45, 46, 47, 48, 49, 50, 51, 52, 53, 54, 22, 23, 24, 25, 26, 27, 28, 29, 30, 31, 32, 33, 34, 35, 36, 37, 38, 39, 40, 41] (by decide +kernel) (by decide +kernel)
set_option maxRecDepth 20000 in
theorem gX9_plug_X9_isPortTaken : GoodIn wsX9_plug (wsV RX9 163 RX9 yX9_isPortTaken wsX9_isPortTaken) := goodIn_app (goodIn_of _ (by decide +kernel)) ggX9_plug_X9_isPortTaken
set_option maxRecDepth 20000 in
theorem ggX9_plug_X9_lowerSpeed : GoodIn wsX9_plug wsX9_lowerSpeed := goodIn_r _ [21] (by decide +kernel) (by decide +kernel)
set_option maxRecDepth 20000 in
theorem gX9_plug_X9_lowerSpeed : GoodIn wsX9_plug (va_wsS RX9 178 yX9_lowerSpeed wsX9_lowerSpeed) := goodIn_app (goodIn_of _ (by decide +kernel)) ggX9_plug_X9_lowerSpeed
theorem dX9_plug_0 : decode cX9_plug 0 = .ok (.aload_n 0, 1) := by decide +kernel
theorem dX9_plug_1 : decode cX9_plug 1 = .ok (.iload_n 1, 1) := by decide +kernel
theorem dX9_plug_2 : decode cX9_plug 2 = .ok (.invokevirtual 124, 3) := by decide +kernel
theorem dX9_plug_5 : decode cX9_plug 5 = .ok (.astore 4, 2) := by decide +kernel
theorem dX9_plug_7 : decode cX9_plug 7 = .ok (.aload_n 0, 1) := by decide +kernel
theorem dX9_plug_8 : decode cX9_plug 8 = .ok (.iload_n 2, 1) := by decide +kernel
theorem dX9_plug_9 : decode cX9_plug 9 = .ok (.invokevirtual 124, 3) := by decide +kernel
theorem dX9_plug_12 : decode cX9_plug 12 = .ok (.astore 5, 2) := by decide +kernel
theorem dX9_plug_14 : decode cX9_plug 14 = .ok (.iload_n 3, 1) := by decide +kernel
theorem dX9_plug_15 : decode cX9_plug 15 = .ok (.ifCond .lt 12, 3) := by decide +kernel
theorem dX9_plug_18 : decode cX9_plug 18 = .ok (.iload_n 3, 1) := by decide +kernel
theorem dX9_plug_19 : decode cX9_plug 19 = .ok (.aload 5, 2) := by decide +kernel
theorem dX9_plug_21 : decode cX9_plug 21 = .ok (.getfield 67, 3) := by decide +kernel
theorem dX9_plug_24 : decode cX9_plug 24 = .ok (.if_icmp .lt 13, 3) := by decide +kernel
theorem dX9_plug_27 : decode cX9_plug 27 = .ok (.new 154, 3) := by decide +kernel
theorem dX9_plug_30 : decode cX9_plug 30 = .ok (.dup, 1) := by decide +kernel
theorem dX9_plug_31 : decode cX9_plug 31 = .ok (.ldc 156, 2) := by decide +kernel
theorem dX9_plug_33 : decode cX9_plug 33 = .ok (.invokespecial 158, 3) := by decide +kernel
theorem dX9_plug_36 : decode cX9_plug 36 = .ok (.athrow, 1) := by decide +kernel
theorem dX9_plug_37 : decode cX9_plug 37 = .ok (.aload 4, 2) := by decide +kernel
theorem dX9_plug_39 : decode cX9_plug 39 = .ok (.getfield 74, 3) := by decide +kernel
theorem dX9_plug_42 : decode cX9_plug 42 = .ok (.bipush 117, 2) := by decide +kernel
theorem dX9_plug_44 : decode cX9_plug 44 = .ok (.if_icmp .ne 21, 3) := by decide +kernel
theorem dX9_plug_47 : decode cX9_plug 47 = .ok (.aload 5, 2) := by decide +kernel
theorem dX9_plug_49 : decode cX9_plug 49 = .ok (.invokestatic 159, 3) := by decide +kernel
theorem dX9_plug_52 : decode cX9_plug 52 = .ok (.ifCond .eq 13, 3) := by decide +kernel
theorem dX9_plug_55 : decode cX9_plug 55 = .ok (.aload_n 0, 1) := by decide +kernel
theorem dX9_plug_56 : decode cX9_plug 56 = .ok (.aload 5, 2) := by decide +kernel
theorem dX9_plug_58 : decode cX9_plug 58 = .ok (.iload_n 3, 1) := by decide +kernel
theorem dX9_plug_59 : decode cX9_plug 59 = .ok (.invokevirtual 163, 3) := by decide +kernel
theorem dX9_plug_62 : decode cX9_plug 62 = .ok (.ifCond .eq 13, 3) := by decide +kernel
theorem dX9_plug_65 : decode cX9_plug 65 = .ok (.new 139, 3) := by decide +kernel
theorem dX9_plug_68 : decode cX9_plug 68 = .ok (.dup, 1) := by decide +kernel
theorem dX9_plug_69 : decode cX9_plug 69 = .ok (.ldc 167, 2) := by decide +kernel
theorem dX9_plug_71 : decode cX9_plug 71 = .ok (.invokespecial 143, 3) := by decide +kernel
theorem dX9_plug_74 : decode cX9_plug 74 = .ok (.athrow, 1) := by decide +kernel
theorem dX9_plug_75 : decode cX9_plug 75 = .ok (.aload 5, 2) := by decide +kernel
theorem dX9_plug_77 : decode cX9_plug 77 = .ok (.getfield 78, 3) := by decide +kernel
theorem dX9_plug_80 : decode cX9_plug 80 = .ok (.iconst 5, 1) := by decide +kernel
theorem dX9_plug_81 : decode cX9_plug 81 = .ok (.if_icmp .lt 13, 3) := by decide +kernel
theorem dX9_plug_84 : decode cX9_plug 84 = .ok (.new 139, 3) := by decide +kernel
theorem dX9_plug_87 : decode cX9_plug 87 = .ok (.dup, 1) := by decide +kernel
theorem dX9_plug_88 : decode cX9_plug 88 = .ok (.ldc 169, 2) := by decide +kernel
theorem dX9_plug_90 : decode cX9_plug 90 = .ok (.invokespecial 143, 3) := by decide +kernel
theorem dX9_plug_93 : decode cX9_plug 93 = .ok (.athrow, 1) := by decide +kernel
theorem dX9_plug_94 : decode cX9_plug 94 = .ok (.aload 4, 2) := by decide +kernel
theorem dX9_plug_96 : decode cX9_plug 96 = .ok (.bipush 110, 2) := by decide +kernel
theorem dX9_plug_98 : decode cX9_plug 98 = .ok (.putfield 74, 3) := by decide +kernel
theorem dX9_plug_101 : decode cX9_plug 101 = .ok (.aload 4, 2) := by decide +kernel
theorem dX9_plug_103 : decode cX9_plug 103 = .ok (.aload 5, 2) := by decide +kernel
theorem dX9_plug_105 : decode cX9_plug 105 = .ok (.putfield 171, 3) := by decide +kernel
theorem dX9_plug_108 : decode cX9_plug 108 = .ok (.aload 4, 2) := by decide +kernel
theorem dX9_plug_110 : decode cX9_plug 110 = .ok (.iload_n 3, 1) := by decide +kernel
theorem dX9_plug_111 : decode cX9_plug 111 = .ok (.putfield 175, 3) := by decide +kernel
theorem dX9_plug_114 : decode cX9_plug 114 = .ok (.aload 4, 2) := by decide +kernel
theorem dX9_plug_116 : decode cX9_plug 116 = .ok (.aload 5, 2) := by decide +kernel
theorem dX9_plug_118 : decode cX9_plug 118 = .ok (.getfield 78, 3) := by decide +kernel
theorem dX9_plug_121 : decode cX9_plug 121 = .ok (.iconst 1, 1) := by decide +kernel
theorem dX9_plug_122 : decode cX9_plug 122 = .ok (.iadd, 1) := by decide +kernel
theorem dX9_plug_123 : decode cX9_plug 123 = .ok (.putfield 78, 3) := by decide +kernel
theorem dX9_plug_126 : decode cX9_plug 126 = .ok (.aload 4, 2) := by decide +kernel
theorem dX9_plug_128 : decode cX9_plug 128 = .ok (.aload 4, 2) := by decide +kernel
theorem dX9_plug_130 : decode cX9_plug 130 = .ok (.getfield 106, 3) := by decide +kernel
theorem dX9_plug_133 : decode cX9_plug 133 = .ok (.aload 5, 2) := by decide +kernel
theorem dX9_plug_135 : decode cX9_plug 135 = .ok (.getfield 109, 3) := by decide +kernel
theorem dX9_plug_138 : decode cX9_plug 138 = .ok (.invokestatic 178, 3) := by decide +kernel
theorem dX9_plug_141 : decode cX9_plug 141 = .ok (.putfield 109, 3) := by decide +kernel
theorem dX9_plug_144 : decode cX9_plug 144 = .ok (.aload 4, 2) := by decide +kernel
theorem dX9_plug_146 : decode cX9_plug 146 = .ok (.aload 5, 2) := by decide +kernel
theorem dX9_plug_148 : decode cX9_plug 148 = .ok (.getfield 109, 3) := by decide +kernel
theorem dX9_plug_151 : decode cX9_plug 151 = .ok (.bipush 104, 2) := by decide +kernel
theorem dX9_plug_153 : decode cX9_plug 153 = .ok (.if_icmp .ne 11, 3) := by decide +kernel
theorem dX9_plug_156 : decode cX9_plug 156 = .ok (.aload 5, 2) := by decide +kernel
theorem dX9_plug_158 : decode cX9_plug 158 = .ok (.getfield 121, 3) := by decide +kernel
theorem dX9_plug_161 : decode cX9_plug 161 = .ok (.goto 8, 3) := by decide +kernel
theorem dX9_plug_164 : decode cX9_plug 164 = .ok (.aload 5, 2) := by decide +kernel
theorem dX9_plug_166 : decode cX9_plug 166 = .ok (.getfield 182, 3) := by decide +kernel
theorem dX9_plug_169 : decode cX9_plug 169 = .ok (.putfield 182, 3) := by decide +kernel
theorem dX9_plug_172 : decode cX9_plug 172 = .ok (.aload 4, 2) := by decide +kernel
theorem dX9_plug_174 : decode cX9_plug 174 = .ok (.getfield 78, 3) := by decide +kernel
theorem dX9_plug_177 : decode cX9_plug 177 = .ok (.ireturn, 1) := by decide +kernel
set_option maxRecDepth 20000 in
theorem ggX9_unplug_X9_deviceBelowHost : GoodIn wsX9_unplug wsX9_deviceBelowHost := goodIn_ca (goodIn_r _ [7, 8, 9, 10, 11, 12, 6, 13, 14, 15, 115, 116, 117, 118, 119, 120, 121, 122, 123, 124, 125, 126, 127] (by decide +kernel) (by decide +kernel)) (goodIn_sub (fun _ h => List.mem_cons_of_mem _ (List.mem_append_left _ (List.mem_append_right _ h))) (by decide +kernel))
set_option maxRecDepth 20000 in
theorem gX9_unplug_X9_deviceBelowHost : GoodIn wsX9_unplug (wsV RX9 185 RX9 yX9_deviceBelowHost wsX9_deviceBelowHost) := goodIn_app (goodIn_of _ (by decide +kernel)) ggX9_unplug_X9_deviceBelowHost
set_option maxRecDepth 20000 in
theorem ggX9_unplug_X9_detach : GoodIn wsX9_unplug wsX9_detach := goodIn_ca (goodIn_r _ [19, 15, 20, 21, 22, 6, 23, 24, 25, 26, 27, 28, 29, 30, 31, 32, 33, 34, 35, 36, 37, 38, 39, 40, 41, 42, 43, 44, 45, 46, 47, 48, 49, 50, 51, 52, 53, 54, 55, 56, 57, 58, 59, 60, 61, 62, 63, 64, 65, 66, 67, 68, 69, 70, 71, 72, 73, 74, 75, 76, 77, 78, 79, 80, 81, 82, 83, 84, 85, 86, 87, 88, 89, 90, 91, 92, 93, 94, 115, 116, 117, 118, 119, 120, 121, 122, 123, 124, 125, 126, 127, 95, 96, 97, 98, 99, 100, 101, 102, 103, 104, 105, 106, 107, 108, 109, 110, 111, 112, 113, 114, 128, 129, 130, 131, 132, 133, 134, 135, 136, 137, 138, 139, 140, 141, 142, 143, 144, 145, 146, 147, 148, 149, 150, 151, 152, 153, 154, 155, 156, 157, 158, 159, 160, 161, 162, 163, 164, 165, 166, 167, 168, 169, 170, 171] (by decide +kernel) (by decide +kernel)) (goodIn_sub (fun _ h => List.mem_cons_of_mem _ (List.mem_append_right _ h)) (by decide +kernel))
set_option maxRecDepth 20000 in
theorem gX9_unplug_X9_detach : GoodIn wsX9_unplug (wsV RX9 190 RX9 yX9_detach wsX9_detach) := goodIn_app (goodIn_of _ (by decide +kernel)) ggX9_unplug_X9_detach
theorem dX9_unplug_0 : decode cX9_unplug 0 = .ok (.aload_n 0, 1) := by decide +kernel
theorem dX9_unplug_1 : decode cX9_unplug 1 = .ok (.iload_n 1, 1) := by decide +kernel
theorem dX9_unplug_2 : decode cX9_unplug 2 = .ok (.invokevirtual 185, 3) := by decide +kernel
theorem dX9_unplug_5 : decode cX9_unplug 5 = .ok (.astore_n 2, 1) := by decide +kernel
theorem dX9_unplug_6 : decode cX9_unplug 6 = .ok (.aload_n 2, 1) := by decide +kernel
theorem dX9_unplug_7 : decode cX9_unplug 7 = .ok (.getfield 74, 3) := by decide +kernel
theorem dX9_unplug_10 : decode cX9_unplug 10 = .ok (.bipush 117, 2) := by decide +kernel
theorem dX9_unplug_12 : decode cX9_unplug 12 = .ok (.if_icmp .ne 13, 3) := by decide +kernel
theorem dX9_unplug_15 : decode cX9_unplug 15 = .ok (.new 139, 3) := by decide +kernel
theorem dX9_unplug_18 : decode cX9_unplug 18 = .ok (.dup, 1) := by decide +kernel
theorem dX9_unplug_19 : decode cX9_unplug 19 = .ok (.ldc 188, 2) := by decide +kernel
theorem dX9_unplug_21 : decode cX9_unplug 21 = .ok (.invokespecial 143, 3) := by decide +kernel
theorem dX9_unplug_24 : decode cX9_unplug 24 = .ok (.athrow, 1) := by decide +kernel
theorem dX9_unplug_25 : decode cX9_unplug 25 = .ok (.aload_n 0, 1) := by decide +kernel
theorem dX9_unplug_26 : decode cX9_unplug 26 = .ok (.aload_n 2, 1) := by decide +kernel
theorem dX9_unplug_27 : decode cX9_unplug 27 = .ok (.iconst 1, 1) := by decide +kernel
theorem dX9_unplug_28 : decode cX9_unplug 28 = .ok (.invokevirtual 190, 3) := by decide +kernel
theorem dX9_unplug_31 : decode cX9_unplug 31 = .ok (.ireturn, 1) := by decide +kernel
set_option maxRecDepth 20000 in
theorem ggX9_stateOf_X9_deviceAt : GoodIn wsX9_stateOf wsX9_deviceAt := goodIn_ca (goodIn_r _ [5, 6, 7, 8, 9, 30, 31, 32, 33, 34, 35, 36, 37, 38, 39, 40, 41, 42] (by decide +kernel) (by decide +kernel)) (goodIn_sub (fun _ h => List.mem_cons_of_mem _ (List.mem_append_right _ h)) (by decide +kernel))
set_option maxRecDepth 20000 in
theorem gX9_stateOf_X9_deviceAt : GoodIn wsX9_stateOf (wsV RX9 124 RX9 yX9_deviceAt wsX9_deviceAt) := goodIn_app (goodIn_of _ (by decide +kernel)) ggX9_stateOf_X9_deviceAt
theorem dX9_stateOf_0 : decode cX9_stateOf 0 = .ok (.aload_n 0, 1) := by decide +kernel
theorem dX9_stateOf_1 : decode cX9_stateOf 1 = .ok (.iload_n 1, 1) := by decide +kernel
theorem dX9_stateOf_2 : decode cX9_stateOf 2 = .ok (.invokevirtual 124, 3) := by decide +kernel
theorem dX9_stateOf_5 : decode cX9_stateOf 5 = .ok (.getfield 74, 3) := by decide +kernel
theorem dX9_stateOf_8 : decode cX9_stateOf 8 = .ok (.ireturn, 1) := by decide +kernel
set_option maxRecDepth 20000 in
theorem ggX9_hubOf_X9_deviceAt : GoodIn wsX9_hubOf wsX9_deviceAt := goodIn_ca (goodIn_r _ [5, 6, 7, 8, 9, 30, 31, 32, 33, 34, 35, 36, 37, 38, 39, 40, 41, 42] (by decide +kernel) (by decide +kernel)) (goodIn_sub (fun _ h => List.mem_cons_of_mem _ (List.mem_append_right _ h)) (by decide +kernel))
set_option maxRecDepth 20000 in
theorem gX9_hubOf_X9_deviceAt : GoodIn wsX9_hubOf (wsV RX9 124 RX9 yX9_deviceAt wsX9_deviceAt) := goodIn_app (goodIn_of _ (by decide +kernel)) ggX9_hubOf_X9_deviceAt
theorem dX9_hubOf_0 : decode cX9_hubOf 0 = .ok (.aload_n 0, 1) := by decide +kernel
theorem dX9_hubOf_1 : decode cX9_hubOf 1 = .ok (.iload_n 1, 1) := by decide +kernel
theorem dX9_hubOf_2 : decode cX9_hubOf 2 = .ok (.invokevirtual 124, 3) := by decide +kernel
theorem dX9_hubOf_5 : decode cX9_hubOf 5 = .ok (.getfield 171, 3) := by decide +kernel
theorem dX9_hubOf_8 : decode cX9_hubOf 8 = .ok (.astore_n 2, 1) := by decide +kernel
theorem dX9_hubOf_9 : decode cX9_hubOf 9 = .ok (.aload_n 2, 1) := by decide +kernel
theorem dX9_hubOf_10 : decode cX9_hubOf 10 = .ok (.ifnonnull 7, 3) := by decide +kernel
theorem dX9_hubOf_13 : decode cX9_hubOf 13 = .ok (.iconst (-1), 1) := by decide +kernel
theorem dX9_hubOf_14 : decode cX9_hubOf 14 = .ok (.goto 7, 3) := by decide +kernel
theorem dX9_hubOf_17 : decode cX9_hubOf 17 = .ok (.aload_n 2, 1) := by decide +kernel
theorem dX9_hubOf_18 : decode cX9_hubOf 18 = .ok (.getfield 121, 3) := by decide +kernel
theorem dX9_hubOf_21 : decode cX9_hubOf 21 = .ok (.ireturn, 1) := by decide +kernel
set_option maxRecDepth 20000 in
theorem ggX9_depthOf_X9_deviceAt : GoodIn wsX9_depthOf wsX9_deviceAt := goodIn_ca (goodIn_r _ [5, 6, 7, 8, 9, 30, 31, 32, 33, 34, 35, 36, 37, 38, 39, 40, 41, 42] (by decide +kernel) (by decide +kernel)) (goodIn_sub (fun _ h => List.mem_cons_of_mem _ (List.mem_append_right _ h)) (by decide +kernel))
set_option maxRecDepth 20000 in
theorem gX9_depthOf_X9_deviceAt : GoodIn wsX9_depthOf (wsV RX9 124 RX9 yX9_deviceAt wsX9_deviceAt) := goodIn_app (goodIn_of _ (by decide +kernel)) ggX9_depthOf_X9_deviceAt
theorem dX9_depthOf_0 : decode cX9_depthOf 0 = .ok (.aload_n 0, 1) := by decide +kernel
theorem dX9_depthOf_1 : decode cX9_depthOf 1 = .ok (.iload_n 1, 1) := by decide +kernel
theorem dX9_depthOf_2 : decode cX9_depthOf 2 = .ok (.invokevirtual 124, 3) := by decide +kernel
theorem dX9_depthOf_5 : decode cX9_depthOf 5 = .ok (.getfield 78, 3) := by decide +kernel
theorem dX9_depthOf_8 : decode cX9_depthOf 8 = .ok (.ireturn, 1) := by decide +kernel
set_option maxRecDepth 20000 in
theorem ggX9_speedOf_X9_deviceAt : GoodIn wsX9_speedOf wsX9_deviceAt := goodIn_ca (goodIn_r _ [5, 6, 7, 8, 9, 30, 31, 32, 33, 34, 35, 36, 37, 38, 39, 40, 41, 42] (by decide +kernel) (by decide +kernel)) (goodIn_sub (fun _ h => List.mem_cons_of_mem _ (List.mem_append_right _ h)) (by decide +kernel))
set_option maxRecDepth 20000 in
theorem gX9_speedOf_X9_deviceAt : GoodIn wsX9_speedOf (wsV RX9 124 RX9 yX9_deviceAt wsX9_deviceAt) := goodIn_app (goodIn_of _ (by decide +kernel)) ggX9_speedOf_X9_deviceAt
theorem dX9_speedOf_0 : decode cX9_speedOf 0 = .ok (.aload_n 0, 1) := by decide +kernel
theorem dX9_speedOf_1 : decode cX9_speedOf 1 = .ok (.iload_n 1, 1) := by decide +kernel
theorem dX9_speedOf_2 : decode cX9_speedOf 2 = .ok (.invokevirtual 124, 3) := by decide +kernel
theorem dX9_speedOf_5 : decode cX9_speedOf 5 = .ok (.getfield 109, 3) := by decide +kernel
theorem dX9_speedOf_8 : decode cX9_speedOf 8 = .ok (.ireturn, 1) := by decide +kernel
set_option maxRecDepth 20000 in
theorem ggX9_translator_X9_deviceAt : GoodIn wsX9_translator wsX9_deviceAt := goodIn_ca (goodIn_r _ [7, 8, 9, 10, 11, 32, 33, 34, 35, 36, 37, 38, 39, 40, 41, 42, 43, 44] (by decide +kernel) (by decide +kernel)) (goodIn_sub (fun _ h => List.mem_cons_of_mem _ (List.mem_append_right _ h)) (by decide +kernel))
set_option maxRecDepth 20000 in
theorem gX9_translator_X9_deviceAt : GoodIn wsX9_translator (wsV RX9 124 RX9 yX9_deviceAt wsX9_deviceAt) := goodIn_app (goodIn_of _ (by decide +kernel)) ggX9_translator_X9_deviceAt
theorem dX9_translator_0 : decode cX9_translator 0 = .ok (.aload_n 0, 1) := by decide +kernel
theorem dX9_translator_1 : decode cX9_translator 1 = .ok (.iload_n 1, 1) := by decide +kernel
theorem dX9_translator_2 : decode cX9_translator 2 = .ok (.invokevirtual 124, 3) := by decide +kernel
theorem dX9_translator_5 : decode cX9_translator 5 = .ok (.astore_n 2, 1) := by decide +kernel
theorem dX9_translator_6 : decode cX9_translator 6 = .ok (.aload_n 2, 1) := by decide +kernel
theorem dX9_translator_7 : decode cX9_translator 7 = .ok (.getfield 171, 3) := by decide +kernel
theorem dX9_translator_10 : decode cX9_translator 10 = .ok (.ifnonnull 13, 3) := by decide +kernel
theorem dX9_translator_13 : decode cX9_translator 13 = .ok (.new 139, 3) := by decide +kernel
theorem dX9_translator_16 : decode cX9_translator 16 = .ok (.dup, 1) := by decide +kernel
theorem dX9_translator_17 : decode cX9_translator 17 = .ok (.ldc 194, 2) := by decide +kernel
theorem dX9_translator_19 : decode cX9_translator 19 = .ok (.invokespecial 143, 3) := by decide +kernel
theorem dX9_translator_22 : decode cX9_translator 22 = .ok (.athrow, 1) := by decide +kernel
theorem dX9_translator_23 : decode cX9_translator 23 = .ok (.aload_n 2, 1) := by decide +kernel
theorem dX9_translator_24 : decode cX9_translator 24 = .ok (.getfield 182, 3) := by decide +kernel
theorem dX9_translator_27 : decode cX9_translator 27 = .ok (.ireturn, 1) := by decide +kernel
set_option maxRecDepth 20000 in
theorem ggX9_addressOf_X9_deviceAt : GoodIn wsX9_addressOf wsX9_deviceAt := goodIn_ca (goodIn_r _ [5, 6, 7, 8, 9, 30, 31, 32, 33, 34, 35, 36, 37, 38, 39, 40, 41, 42] (by decide +kernel) (by decide +kernel)) (goodIn_sub (fun _ h => List.mem_cons_of_mem _ (List.mem_append_right _ h)) (by decide +kernel))
set_option maxRecDepth 20000 in
theorem gX9_addressOf_X9_deviceAt : GoodIn wsX9_addressOf (wsV RX9 124 RX9 yX9_deviceAt wsX9_deviceAt) := goodIn_app (goodIn_of _ (by decide +kernel)) ggX9_addressOf_X9_deviceAt
theorem dX9_addressOf_0 : decode cX9_addressOf 0 = .ok (.aload_n 0, 1) := by decide +kernel
theorem dX9_addressOf_1 : decode cX9_addressOf 1 = .ok (.iload_n 1, 1) := by decide +kernel
theorem dX9_addressOf_2 : decode cX9_addressOf 2 = .ok (.invokevirtual 124, 3) := by decide +kernel
theorem dX9_addressOf_5 : decode cX9_addressOf 5 = .ok (.getfield 196, 3) := by decide +kernel
theorem dX9_addressOf_8 : decode cX9_addressOf 8 = .ok (.ireturn, 1) := by decide +kernel
set_option maxRecDepth 20000 in
theorem ggX9_look_X9_firstNewDevice : GoodIn wsX9_look wsX9_firstNewDevice := goodIn_r _ [7, 8, 145, 146, 147, 148, 149, 150, 151, 152, 153, 154, 155, 156, 157, 125, 126, 127, 128, 129, 130, 131, 132, 133, 134, 135, 136, 137, 138, 139, 140, 141, 142, 143, 144] (by decide +kernel) (by decide +kernel)
set_option maxRecDepth 20000 in
theorem gX9_look_X9_firstNewDevice : GoodIn wsX9_look (wsV RX9 199 RX9 yX9_firstNewDevice wsX9_firstNewDevice) := goodIn_app (goodIn_of _ (by decide +kernel)) ggX9_look_X9_firstNewDevice
set_option maxRecDepth 20000 in
theorem ggX9_look_X9_answersControl : GoodIn wsX9_look wsX9_answersControl := goodIn_r _ [12, 13, 14, 15, 16, 17, 18, 19, 145, 146, 147, 148, 149, 150, 151, 152, 153, 154, 155, 156, 157, 158, 159, 160, 125, 126, 127, 128, 129, 130, 131, 132, 133, 134, 135, 136, 137, 138, 139, 140, 141, 142, 143, 144, 161, 162] (by decide +kernel) (by decide +kernel)
set_option maxRecDepth 20000 in
theorem gX9_look_X9_answersControl : GoodIn wsX9_look (wsV RX9 208 RX9 yX9_answersControl wsX9_answersControl) := goodIn_app (goodIn_of _ (by decide +kernel)) ggX9_look_X9_answersControl
set_option maxRecDepth 20000 in
theorem ggX9_look_X9_disable : GoodIn wsX9_look wsX9_disable := goodIn_ca (goodIn_r _ [23, 24, 25, 26, 6, 27, 8, 28, 29, 30, 31, 32, 33, 34, 35, 36, 37, 38, 39, 40, 41, 42, 43, 44, 45, 46, 47, 48, 49, 50, 51, 52, 53, 54, 55, 56, 57, 58, 59, 60, 61, 62, 63, 64, 65, 66, 67, 68, 69, 70, 71, 72, 73, 74, 75, 76, 77, 78, 79, 80, 81, 82, 83, 84, 85, 86, 87, 88, 89, 90, 91, 92, 93, 94, 95, 96, 97, 98, 99, 100, 101, 102, 125, 126, 127, 128, 129, 130, 131, 132, 133, 134, 135, 136, 137, 138, 139, 140, 141, 142, 143, 144, 145, 146, 147, 148, 149, 150, 151, 152, 153, 154, 155, 156, 157, 163, 164, 165, 166, 167, 168, 169, 170, 171, 172, 173, 174, 175, 176, 177, 178, 179, 180, 181, 182, 183, 184, 185, 186, 187, 188, 189, 190, 191, 192, 193, 194, 195, 196, 197, 198, 199, 200, 201, 202, 203, 204, 205, 206] (by decide +kernel) (by decide +kernel)) (goodIn_sub (fun _ h => List.mem_cons_of_mem _ (List.mem_append_right _ h)) (by decide +kernel))
set_option maxRecDepth 20000 in
theorem gX9_look_X9_disable : GoodIn wsX9_look (wsV RX9 211 RX9 yX9_disable wsX9_disable) := goodIn_app (goodIn_of _ (by decide +kernel)) ggX9_look_X9_disable
set_option maxRecDepth 20000 in
theorem ggX9_look_X9_lowestFreeAddress : GoodIn wsX9_look wsX9_lowestFreeAddress := goodIn_r _ [106, 107, 108, 109, 6, 110, 8, 145, 146, 147, 148, 149, 150, 151, 152, 153, 154, 155, 156, 157, 125, 126, 127, 128, 129, 130, 131, 132, 133, 134, 135, 136, 137, 138, 139, 140, 141, 142, 143, 144] (by decide +kernel) (by decide +kernel)
set_option maxRecDepth 20000 in
theorem gX9_look_X9_lowestFreeAddress : GoodIn wsX9_look (wsV RX9 215 RX9 yX9_lowestFreeAddress wsX9_lowestFreeAddress) := goodIn_app (goodIn_of _ (by decide +kernel)) ggX9_look_X9_lowestFreeAddress
set_option maxRecDepth 20000 in
theorem ggX9_look_X9_portPower : GoodIn wsX9_look wsX9_portPower := goodIn_r _ [113, 125, 126, 127, 128, 129, 130, 131, 132, 133, 134, 135, 136, 137, 138, 139, 140, 141, 142, 143, 144] (by decide +kernel) (by decide +kernel)
set_option maxRecDepth 20000 in
theorem gX9_look_X9_portPower : GoodIn wsX9_look (va_wsS RX9 218 yX9_portPower wsX9_portPower) := goodIn_app (goodIn_of _ (by decide +kernel)) ggX9_look_X9_portPower
set_option maxRecDepth 20000 in
theorem ggX9_look_X9_fittingDriver : GoodIn wsX9_look wsX9_fittingDriver := goodIn_ca (goodIn_r _ [117, 118, 119, 120, 6, 121, 122, 123, 124, 145, 146, 147, 148, 149, 150, 151, 152, 153, 154, 155, 156, 157] (by decide +kernel) (by decide +kernel)) (goodIn_sub (fun _ h => List.mem_cons_of_mem _ (List.mem_append_right _ h)) (by decide +kernel))
set_option maxRecDepth 20000 in
theorem gX9_look_X9_fittingDriver : GoodIn wsX9_look (wsV RX9 222 RX9 yX9_fittingDriver wsX9_fittingDriver) := goodIn_app (goodIn_of _ (by decide +kernel)) ggX9_look_X9_fittingDriver
theorem dX9_look_0 : decode cX9_look 0 = .ok (.aload_n 0, 1) := by decide +kernel
theorem dX9_look_1 : decode cX9_look 1 = .ok (.invokevirtual 199, 3) := by decide +kernel
theorem dX9_look_4 : decode cX9_look 4 = .ok (.astore_n 1, 1) := by decide +kernel
theorem dX9_look_5 : decode cX9_look 5 = .ok (.aload_n 1, 1) := by decide +kernel
theorem dX9_look_6 : decode cX9_look 6 = .ok (.ifnonnull 13, 3) := by decide +kernel
theorem dX9_look_9 : decode cX9_look 9 = .ok (.new 203, 3) := by decide +kernel
theorem dX9_look_12 : decode cX9_look 12 = .ok (.dup, 1) := by decide +kernel
theorem dX9_look_13 : decode cX9_look 13 = .ok (.ldc 205, 2) := by decide +kernel
theorem dX9_look_15 : decode cX9_look 15 = .ok (.invokespecial 207, 3) := by decide +kernel
theorem dX9_look_18 : decode cX9_look 18 = .ok (.athrow, 1) := by decide +kernel
theorem dX9_look_19 : decode cX9_look 19 = .ok (.aload_n 0, 1) := by decide +kernel
theorem dX9_look_20 : decode cX9_look 20 = .ok (.aload_n 1, 1) := by decide +kernel
theorem dX9_look_21 : decode cX9_look 21 = .ok (.invokevirtual 208, 3) := by decide +kernel
theorem dX9_look_24 : decode cX9_look 24 = .ok (.ifCond .ne 15, 3) := by decide +kernel
theorem dX9_look_27 : decode cX9_look 27 = .ok (.aload_n 0, 1) := by decide +kernel
theorem dX9_look_28 : decode cX9_look 28 = .ok (.aload_n 1, 1) := by decide +kernel
theorem dX9_look_29 : decode cX9_look 29 = .ok (.bipush 120, 2) := by decide +kernel
theorem dX9_look_31 : decode cX9_look 31 = .ok (.invokevirtual 211, 3) := by decide +kernel
theorem dX9_look_34 : decode cX9_look 34 = .ok (.aload_n 1, 1) := by decide +kernel
theorem dX9_look_35 : decode cX9_look 35 = .ok (.getfield 121, 3) := by decide +kernel
theorem dX9_look_38 : decode cX9_look 38 = .ok (.ireturn, 1) := by decide +kernel
theorem dX9_look_39 : decode cX9_look 39 = .ok (.aload_n 1, 1) := by decide +kernel
theorem dX9_look_40 : decode cX9_look 40 = .ok (.aload_n 0, 1) := by decide +kernel
theorem dX9_look_41 : decode cX9_look 41 = .ok (.invokevirtual 215, 3) := by decide +kernel
theorem dX9_look_44 : decode cX9_look 44 = .ok (.putfield 196, 3) := by decide +kernel
theorem dX9_look_47 : decode cX9_look 47 = .ok (.aload_n 1, 1) := by decide +kernel
theorem dX9_look_48 : decode cX9_look 48 = .ok (.getfield 70, 3) := by decide +kernel
theorem dX9_look_51 : decode cX9_look 51 = .ok (.ifCond .ne 23, 3) := by decide +kernel
theorem dX9_look_54 : decode cX9_look 54 = .ok (.aload_n 1, 1) := by decide +kernel
theorem dX9_look_55 : decode cX9_look 55 = .ok (.getfield 112, 3) := by decide +kernel
theorem dX9_look_58 : decode cX9_look 58 = .ok (.aload_n 1, 1) := by decide +kernel
theorem dX9_look_59 : decode cX9_look 59 = .ok (.invokestatic 218, 3) := by decide +kernel
theorem dX9_look_62 : decode cX9_look 62 = .ok (.if_icmp .le 12, 3) := by decide +kernel
theorem dX9_look_65 : decode cX9_look 65 = .ok (.aload_n 1, 1) := by decide +kernel
theorem dX9_look_66 : decode cX9_look 66 = .ok (.bipush 112, 2) := by decide +kernel
theorem dX9_look_68 : decode cX9_look 68 = .ok (.putfield 74, 3) := by decide +kernel
theorem dX9_look_71 : decode cX9_look 71 = .ok (.goto 31, 3) := by decide +kernel
theorem dX9_look_74 : decode cX9_look 74 = .ok (.aload_n 1, 1) := by decide +kernel
theorem dX9_look_75 : decode cX9_look 75 = .ok (.bipush 99, 2) := by decide +kernel
theorem dX9_look_77 : decode cX9_look 77 = .ok (.putfield 74, 3) := by decide +kernel
theorem dX9_look_80 : decode cX9_look 80 = .ok (.aload_n 1, 1) := by decide +kernel
theorem dX9_look_81 : decode cX9_look 81 = .ok (.aload_n 0, 1) := by decide +kernel
theorem dX9_look_82 : decode cX9_look 82 = .ok (.aload_n 1, 1) := by decide +kernel
theorem dX9_look_83 : decode cX9_look 83 = .ok (.getfield 118, 3) := by decide +kernel
theorem dX9_look_86 : decode cX9_look 86 = .ok (.bipush 10, 2) := by decide +kernel
theorem dX9_look_88 : decode cX9_look 88 = .ok (.idiv, 1) := by decide +kernel
theorem dX9_look_89 : decode cX9_look 89 = .ok (.aload_n 1, 1) := by decide +kernel
theorem dX9_look_90 : decode cX9_look 90 = .ok (.getfield 118, 3) := by decide +kernel
theorem dX9_look_93 : decode cX9_look 93 = .ok (.bipush 10, 2) := by decide +kernel
theorem dX9_look_95 : decode cX9_look 95 = .ok (.irem, 1) := by decide +kernel
theorem dX9_look_96 : decode cX9_look 96 = .ok (.invokevirtual 222, 3) := by decide +kernel
theorem dX9_look_99 : decode cX9_look 99 = .ok (.putfield 226, 3) := by decide +kernel
theorem dX9_look_102 : decode cX9_look 102 = .ok (.aload_n 1, 1) := by decide +kernel
theorem dX9_look_103 : decode cX9_look 103 = .ok (.getfield 121, 3) := by decide +kernel
theorem dX9_look_106 : decode cX9_look 106 = .ok (.ireturn, 1) := by decide +kernel
set_option maxRecDepth 20000 in
theorem ggX9_driver_X9_isWithin : GoodIn wsX9_driver wsX9_isWithin := goodIn_r _ [11] (by decide +kernel) (by decide +kernel)
set_option maxRecDepth 20000 in
theorem gX9_driver_X9_isWithin : GoodIn wsX9_driver (va_wsS RX9 88 yX9_isWithin wsX9_isWithin) := goodIn_app (goodIn_of _ (by decide +kernel)) ggX9_driver_X9_isWithin
theorem dX9_driver_0 : decode cX9_driver 0 = .ok (.iload_n 1, 1) := by decide +kernel
theorem dX9_driver_1 : decode cX9_driver 1 = .ok (.iconst 0, 1) := by decide +kernel
theorem dX9_driver_2 : decode cX9_driver 2 = .ok (.bipush 9, 2) := by decide +kernel
theorem dX9_driver_4 : decode cX9_driver 4 = .ok (.invokestatic 88, 3) := by decide +kernel
theorem dX9_driver_7 : decode cX9_driver 7 = .ok (.ifCond .eq 13, 3) := by decide +kernel
theorem dX9_driver_10 : decode cX9_driver 10 = .ok (.iload_n 2, 1) := by decide +kernel
theorem dX9_driver_11 : decode cX9_driver 11 = .ok (.iconst (-1), 1) := by decide +kernel
theorem dX9_driver_12 : decode cX9_driver 12 = .ok (.bipush 9, 2) := by decide +kernel
theorem dX9_driver_14 : decode cX9_driver 14 = .ok (.invokestatic 88, 3) := by decide +kernel
theorem dX9_driver_17 : decode cX9_driver 17 = .ok (.ifCond .ne 13, 3) := by decide +kernel
theorem dX9_driver_20 : decode cX9_driver 20 = .ok (.new 92, 3) := by decide +kernel
theorem dX9_driver_23 : decode cX9_driver 23 = .ok (.dup, 1) := by decide +kernel
theorem dX9_driver_24 : decode cX9_driver 24 = .ok (.ldc 229, 2) := by decide +kernel
theorem dX9_driver_26 : decode cX9_driver 26 = .ok (.invokespecial 96, 3) := by decide +kernel
theorem dX9_driver_29 : decode cX9_driver 29 = .ok (.athrow, 1) := by decide +kernel
theorem dX9_driver_30 : decode cX9_driver 30 = .ok (.aload_n 0, 1) := by decide +kernel
theorem dX9_driver_31 : decode cX9_driver 31 = .ok (.getfield 231, 3) := by decide +kernel
theorem dX9_driver_34 : decode cX9_driver 34 = .ok (.bipush 8, 2) := by decide +kernel
theorem dX9_driver_36 : decode cX9_driver 36 = .ok (.if_icmp .lt 13, 3) := by decide +kernel
theorem dX9_driver_39 : decode cX9_driver 39 = .ok (.new 101, 3) := by decide +kernel
theorem dX9_driver_42 : decode cX9_driver 42 = .ok (.dup, 1) := by decide +kernel
theorem dX9_driver_43 : decode cX9_driver 43 = .ok (.ldc 234, 2) := by decide +kernel
theorem dX9_driver_45 : decode cX9_driver 45 = .ok (.invokespecial 105, 3) := by decide +kernel
theorem dX9_driver_48 : decode cX9_driver 48 = .ok (.athrow, 1) := by decide +kernel
theorem dX9_driver_49 : decode cX9_driver 49 = .ok (.aload_n 0, 1) := by decide +kernel
theorem dX9_driver_50 : decode cX9_driver 50 = .ok (.getfield 15, 3) := by decide +kernel
theorem dX9_driver_53 : decode cX9_driver 53 = .ok (.aload_n 0, 1) := by decide +kernel
theorem dX9_driver_54 : decode cX9_driver 54 = .ok (.getfield 231, 3) := by decide +kernel
theorem dX9_driver_57 : decode cX9_driver 57 = .ok (.iload_n 1, 1) := by decide +kernel
theorem dX9_driver_58 : decode cX9_driver 58 = .ok (.iastore, 1) := by decide +kernel
theorem dX9_driver_59 : decode cX9_driver 59 = .ok (.aload_n 0, 1) := by decide +kernel
theorem dX9_driver_60 : decode cX9_driver 60 = .ok (.getfield 19, 3) := by decide +kernel
theorem dX9_driver_63 : decode cX9_driver 63 = .ok (.aload_n 0, 1) := by decide +kernel
theorem dX9_driver_64 : decode cX9_driver 64 = .ok (.getfield 231, 3) := by decide +kernel
theorem dX9_driver_67 : decode cX9_driver 67 = .ok (.iload_n 2, 1) := by decide +kernel
theorem dX9_driver_68 : decode cX9_driver 68 = .ok (.iastore, 1) := by decide +kernel
theorem dX9_driver_69 : decode cX9_driver 69 = .ok (.aload_n 0, 1) := by decide +kernel
theorem dX9_driver_70 : decode cX9_driver 70 = .ok (.dup, 1) := by decide +kernel
theorem dX9_driver_71 : decode cX9_driver 71 = .ok (.getfield 231, 3) := by decide +kernel
theorem dX9_driver_74 : decode cX9_driver 74 = .ok (.iconst 1, 1) := by decide +kernel
theorem dX9_driver_75 : decode cX9_driver 75 = .ok (.iadd, 1) := by decide +kernel
theorem dX9_driver_76 : decode cX9_driver 76 = .ok (.putfield 231, 3) := by decide +kernel
theorem dX9_driver_79 : decode cX9_driver 79 = .ok (.aload_n 0, 1) := by decide +kernel
theorem dX9_driver_80 : decode cX9_driver 80 = .ok (.getfield 231, 3) := by decide +kernel
theorem dX9_driver_83 : decode cX9_driver 83 = .ok (.iconst 1, 1) := by decide +kernel
theorem dX9_driver_84 : decode cX9_driver 84 = .ok (.isub, 1) := by decide +kernel
theorem dX9_driver_85 : decode cX9_driver 85 = .ok (.ireturn, 1) := by decide +kernel
set_option maxRecDepth 20000 in
theorem ggX9_driverOf_X9_deviceAt : GoodIn wsX9_driverOf wsX9_deviceAt := goodIn_ca (goodIn_r _ [5, 6, 7, 8, 9, 30, 31, 32, 33, 34, 35, 36, 37, 38, 39, 40, 41, 42] (by decide +kernel) (by decide +kernel)) (goodIn_sub (fun _ h => List.mem_cons_of_mem _ (List.mem_append_right _ h)) (by decide +kernel))
set_option maxRecDepth 20000 in
theorem gX9_driverOf_X9_deviceAt : GoodIn wsX9_driverOf (wsV RX9 124 RX9 yX9_deviceAt wsX9_deviceAt) := goodIn_app (goodIn_of _ (by decide +kernel)) ggX9_driverOf_X9_deviceAt
theorem dX9_driverOf_0 : decode cX9_driverOf 0 = .ok (.aload_n 0, 1) := by decide +kernel
theorem dX9_driverOf_1 : decode cX9_driverOf 1 = .ok (.iload_n 1, 1) := by decide +kernel
theorem dX9_driverOf_2 : decode cX9_driverOf 2 = .ok (.invokevirtual 124, 3) := by decide +kernel
theorem dX9_driverOf_5 : decode cX9_driverOf 5 = .ok (.getfield 226, 3) := by decide +kernel
theorem dX9_driverOf_8 : decode cX9_driverOf 8 = .ok (.ireturn, 1) := by decide +kernel
set_option maxRecDepth 20000 in
theorem ggX9_draw_X9_deviceBelowHost : GoodIn wsX9_draw wsX9_deviceBelowHost := goodIn_ca (goodIn_r _ [7, 8, 9, 10, 11, 12, 6, 13, 14, 15, 42, 43, 44, 45, 46, 47, 48, 49, 50, 51, 52, 53, 54] (by decide +kernel) (by decide +kernel)) (goodIn_sub (fun _ h => List.mem_cons_of_mem _ (List.mem_append_right _ h)) (by decide +kernel))
set_option maxRecDepth 20000 in
theorem gX9_draw_X9_deviceBelowHost : GoodIn wsX9_draw (wsV RX9 185 RX9 yX9_deviceBelowHost wsX9_deviceBelowHost) := goodIn_app (goodIn_of _ (by decide +kernel)) ggX9_draw_X9_deviceBelowHost
set_option maxRecDepth 20000 in
theorem ggX9_draw_X9_isWithin : GoodIn wsX9_draw wsX9_isWithin := goodIn_r _ [18] (by decide +kernel) (by decide +kernel)
set_option maxRecDepth 20000 in
theorem gX9_draw_X9_isWithin : GoodIn wsX9_draw (va_wsS RX9 88 yX9_isWithin wsX9_isWithin) := goodIn_app (goodIn_of _ (by decide +kernel)) ggX9_draw_X9_isWithin
set_option maxRecDepth 20000 in
theorem ggX9_draw_X9_drawnBy : GoodIn wsX9_draw wsX9_drawnBy := goodIn_r _ [21, 22, 23, 24, 25, 26, 27, 28, 29, 30, 31, 32, 33, 34, 35, 36, 37, 38, 39, 40, 41] (by decide +kernel) (by decide +kernel)
set_option maxRecDepth 20000 in
theorem gX9_draw_X9_drawnBy : GoodIn wsX9_draw (va_wsS RX9 238 yX9_drawnBy wsX9_drawnBy) := goodIn_app (goodIn_of _ (by decide +kernel)) ggX9_draw_X9_drawnBy
theorem dX9_draw_0 : decode cX9_draw 0 = .ok (.aload_n 0, 1) := by decide +kernel
theorem dX9_draw_1 : decode cX9_draw 1 = .ok (.iload_n 1, 1) := by decide +kernel
theorem dX9_draw_2 : decode cX9_draw 2 = .ok (.invokevirtual 185, 3) := by decide +kernel
theorem dX9_draw_5 : decode cX9_draw 5 = .ok (.astore_n 3, 1) := by decide +kernel
theorem dX9_draw_6 : decode cX9_draw 6 = .ok (.iload_n 2, 1) := by decide +kernel
theorem dX9_draw_7 : decode cX9_draw 7 = .ok (.iconst 0, 1) := by decide +kernel
theorem dX9_draw_8 : decode cX9_draw 8 = .ok (.bipush 9, 2) := by decide +kernel
theorem dX9_draw_10 : decode cX9_draw 10 = .ok (.invokestatic 88, 3) := by decide +kernel
theorem dX9_draw_13 : decode cX9_draw 13 = .ok (.ifCond .ne 13, 3) := by decide +kernel
theorem dX9_draw_16 : decode cX9_draw 16 = .ok (.new 92, 3) := by decide +kernel
theorem dX9_draw_19 : decode cX9_draw 19 = .ok (.dup, 1) := by decide +kernel
theorem dX9_draw_20 : decode cX9_draw 20 = .ok (.ldc 236, 2) := by decide +kernel
theorem dX9_draw_22 : decode cX9_draw 22 = .ok (.invokespecial 96, 3) := by decide +kernel
theorem dX9_draw_25 : decode cX9_draw 25 = .ok (.athrow, 1) := by decide +kernel
theorem dX9_draw_26 : decode cX9_draw 26 = .ok (.aload_n 3, 1) := by decide +kernel
theorem dX9_draw_27 : decode cX9_draw 27 = .ok (.invokestatic 238, 3) := by decide +kernel
theorem dX9_draw_30 : decode cX9_draw 30 = .ok (.istore 4, 2) := by decide +kernel
theorem dX9_draw_32 : decode cX9_draw 32 = .ok (.aload_n 3, 1) := by decide +kernel
theorem dX9_draw_33 : decode cX9_draw 33 = .ok (.iload_n 2, 1) := by decide +kernel
theorem dX9_draw_34 : decode cX9_draw 34 = .ok (.putfield 115, 3) := by decide +kernel
theorem dX9_draw_37 : decode cX9_draw 37 = .ok (.iload 4, 2) := by decide +kernel
theorem dX9_draw_39 : decode cX9_draw 39 = .ok (.ireturn, 1) := by decide +kernel
set_option maxRecDepth 20000 in
theorem ggX9_sleep_X9_deviceBelowHost : GoodIn wsX9_sleep wsX9_deviceBelowHost := goodIn_ca (goodIn_r _ [8, 9, 10, 11, 12, 13, 7, 14, 15, 3, 44, 45, 46, 47, 48, 49, 50, 51, 52, 53, 54, 55, 56] (by decide +kernel) (by decide +kernel)) (goodIn_sub (fun _ h => List.mem_cons_of_mem _ (List.mem_append_right _ h)) (by decide +kernel))
set_option maxRecDepth 20000 in
theorem gX9_sleep_X9_deviceBelowHost : GoodIn wsX9_sleep (wsV RX9 185 RX9 yX9_deviceBelowHost wsX9_deviceBelowHost) := goodIn_app (goodIn_of _ (by decide +kernel)) ggX9_sleep_X9_deviceBelowHost
set_option maxRecDepth 20000 in
theorem ggX9_sleep_X9_hasTransferWithin : GoodIn wsX9_sleep wsX9_hasTransferWithin := goodIn_r _ [19, 20, 21, 22, 7, 23, 44, 45, 46, 47, 48, 49, 50, 51, 52, 53, 54, 55, 56, 57, 58, 59, 60, 61, 62, 63, 64, 65, 66, 67, 68, 69, 70, 24, 25, 26, 27, 28, 29, 30, 31, 32, 33, 34, 35, 36, 37, 38, 39, 40, 41, 42, 43] (by decide +kernel) (by decide +kernel)
set_option maxRecDepth 20000 in
theorem gX9_sleep_X9_hasTransferWithin : GoodIn wsX9_sleep (wsV RX9 241 RX9 yX9_hasTransferWithin wsX9_hasTransferWithin) := goodIn_app (goodIn_of _ (by decide +kernel)) ggX9_sleep_X9_hasTransferWithin
set_option maxRecDepth 20000 in
theorem ggX9_sleep_X9_isSameOrBelow : GoodIn wsX9_sleep wsX9_isSameOrBelow := goodIn_r _ [23, 24, 25, 26, 27, 28, 29, 30, 31, 32, 33, 34, 35, 36, 37, 38, 39, 40, 41, 42, 43] (by decide +kernel) (by decide +kernel)
set_option maxRecDepth 20000 in
theorem gX9_sleep_X9_isSameOrBelow : GoodIn wsX9_sleep (va_wsS RX9 246 yX9_isSameOrBelow wsX9_isSameOrBelow) := goodIn_app (goodIn_of _ (by decide +kernel)) ggX9_sleep_X9_isSameOrBelow
theorem dX9_sleep_0 : decode cX9_sleep 0 = .ok (.aload_n 0, 1) := by decide +kernel
theorem dX9_sleep_1 : decode cX9_sleep 1 = .ok (.iload_n 1, 1) := by decide +kernel
theorem dX9_sleep_2 : decode cX9_sleep 2 = .ok (.invokevirtual 185, 3) := by decide +kernel
theorem dX9_sleep_5 : decode cX9_sleep 5 = .ok (.astore_n 2, 1) := by decide +kernel
theorem dX9_sleep_6 : decode cX9_sleep 6 = .ok (.aload_n 2, 1) := by decide +kernel
theorem dX9_sleep_7 : decode cX9_sleep 7 = .ok (.getfield 74, 3) := by decide +kernel
theorem dX9_sleep_10 : decode cX9_sleep 10 = .ok (.bipush 99, 2) := by decide +kernel
theorem dX9_sleep_12 : decode cX9_sleep 12 = .ok (.if_icmp .ne 11, 3) := by decide +kernel
theorem dX9_sleep_15 : decode cX9_sleep 15 = .ok (.aload_n 0, 1) := by decide +kernel
theorem dX9_sleep_16 : decode cX9_sleep 16 = .ok (.aload_n 2, 1) := by decide +kernel
theorem dX9_sleep_17 : decode cX9_sleep 17 = .ok (.invokevirtual 241, 3) := by decide +kernel
theorem dX9_sleep_20 : decode cX9_sleep 20 = .ok (.ifCond .eq 13, 3) := by decide +kernel
theorem dX9_sleep_23 : decode cX9_sleep 23 = .ok (.new 139, 3) := by decide +kernel
theorem dX9_sleep_26 : decode cX9_sleep 26 = .ok (.dup, 1) := by decide +kernel
theorem dX9_sleep_27 : decode cX9_sleep 27 = .ok (.ldc 244, 2) := by decide +kernel
theorem dX9_sleep_29 : decode cX9_sleep 29 = .ok (.invokespecial 143, 3) := by decide +kernel
theorem dX9_sleep_32 : decode cX9_sleep 32 = .ok (.athrow, 1) := by decide +kernel
theorem dX9_sleep_33 : decode cX9_sleep 33 = .ok (.iconst 0, 1) := by decide +kernel
theorem dX9_sleep_34 : decode cX9_sleep 34 = .ok (.istore_n 3, 1) := by decide +kernel
theorem dX9_sleep_35 : decode cX9_sleep 35 = .ok (.iconst 0, 1) := by decide +kernel
theorem dX9_sleep_36 : decode cX9_sleep 36 = .ok (.istore 4, 2) := by decide +kernel
theorem dX9_sleep_38 : decode cX9_sleep 38 = .ok (.iload 4, 2) := by decide +kernel
theorem dX9_sleep_40 : decode cX9_sleep 40 = .ok (.bipush 16, 2) := by decide +kernel
theorem dX9_sleep_42 : decode cX9_sleep 42 = .ok (.if_icmp .ge 47, 3) := by decide +kernel
theorem dX9_sleep_45 : decode cX9_sleep 45 = .ok (.aload_n 0, 1) := by decide +kernel
theorem dX9_sleep_46 : decode cX9_sleep 46 = .ok (.getfield 11, 3) := by decide +kernel
theorem dX9_sleep_49 : decode cX9_sleep 49 = .ok (.iload 4, 2) := by decide +kernel
theorem dX9_sleep_51 : decode cX9_sleep 51 = .ok (.aaload, 1) := by decide +kernel
theorem dX9_sleep_52 : decode cX9_sleep 52 = .ok (.astore 5, 2) := by decide +kernel
theorem dX9_sleep_54 : decode cX9_sleep 54 = .ok (.aload 5, 2) := by decide +kernel
theorem dX9_sleep_56 : decode cX9_sleep 56 = .ok (.getfield 74, 3) := by decide +kernel
theorem dX9_sleep_59 : decode cX9_sleep 59 = .ok (.bipush 99, 2) := by decide +kernel
theorem dX9_sleep_61 : decode cX9_sleep 61 = .ok (.if_icmp .ne 22, 3) := by decide +kernel
theorem dX9_sleep_64 : decode cX9_sleep 64 = .ok (.aload 5, 2) := by decide +kernel
theorem dX9_sleep_66 : decode cX9_sleep 66 = .ok (.aload_n 2, 1) := by decide +kernel
theorem dX9_sleep_67 : decode cX9_sleep 67 = .ok (.invokestatic 246, 3) := by decide +kernel
theorem dX9_sleep_70 : decode cX9_sleep 70 = .ok (.ifCond .eq 13, 3) := by decide +kernel
theorem dX9_sleep_73 : decode cX9_sleep 73 = .ok (.aload 5, 2) := by decide +kernel
theorem dX9_sleep_75 : decode cX9_sleep 75 = .ok (.bipush 122, 2) := by decide +kernel
theorem dX9_sleep_77 : decode cX9_sleep 77 = .ok (.putfield 74, 3) := by decide +kernel
theorem dX9_sleep_80 : decode cX9_sleep 80 = .ok (.iinc 3 1, 3) := by decide +kernel
theorem dX9_sleep_83 : decode cX9_sleep 83 = .ok (.iinc 4 1, 3) := by decide +kernel
theorem dX9_sleep_86 : decode cX9_sleep 86 = .ok (.goto (-48), 3) := by decide +kernel
theorem dX9_sleep_89 : decode cX9_sleep 89 = .ok (.iload_n 3, 1) := by decide +kernel
theorem dX9_sleep_90 : decode cX9_sleep 90 = .ok (.ireturn, 1) := by decide +kernel
set_option maxRecDepth 20000 in
theorem ggX9_wake_X9_deviceAt : GoodIn wsX9_wake wsX9_deviceAt := goodIn_ca (goodIn_r _ [8, 9, 10, 11, 12, 33, 34, 35, 36, 37, 38, 39, 40, 41, 42, 43, 44, 45] (by decide +kernel) (by decide +kernel)) (goodIn_sub (fun _ h => List.mem_cons_of_mem _ (List.mem_append_right _ h)) (by decide +kernel))
set_option maxRecDepth 20000 in
theorem gX9_wake_X9_deviceAt : GoodIn wsX9_wake (wsV RX9 124 RX9 yX9_deviceAt wsX9_deviceAt) := goodIn_app (goodIn_of _ (by decide +kernel)) ggX9_wake_X9_deviceAt
theorem dX9_wake_0 : decode cX9_wake 0 = .ok (.aload_n 0, 1) := by decide +kernel
theorem dX9_wake_1 : decode cX9_wake 1 = .ok (.iload_n 1, 1) := by decide +kernel
theorem dX9_wake_2 : decode cX9_wake 2 = .ok (.invokevirtual 124, 3) := by decide +kernel
theorem dX9_wake_5 : decode cX9_wake 5 = .ok (.astore_n 2, 1) := by decide +kernel
theorem dX9_wake_6 : decode cX9_wake 6 = .ok (.aload_n 2, 1) := by decide +kernel
theorem dX9_wake_7 : decode cX9_wake 7 = .ok (.getfield 74, 3) := by decide +kernel
theorem dX9_wake_10 : decode cX9_wake 10 = .ok (.bipush 122, 2) := by decide +kernel
theorem dX9_wake_12 : decode cX9_wake 12 = .ok (.if_icmp .eq 13, 3) := by decide +kernel
theorem dX9_wake_15 : decode cX9_wake 15 = .ok (.new 139, 3) := by decide +kernel
theorem dX9_wake_18 : decode cX9_wake 18 = .ok (.dup, 1) := by decide +kernel
theorem dX9_wake_19 : decode cX9_wake 19 = .ok (.ldc 250, 2) := by decide +kernel
theorem dX9_wake_21 : decode cX9_wake 21 = .ok (.invokespecial 143, 3) := by decide +kernel
theorem dX9_wake_24 : decode cX9_wake 24 = .ok (.athrow, 1) := by decide +kernel
theorem dX9_wake_25 : decode cX9_wake 25 = .ok (.iconst 0, 1) := by decide +kernel
theorem dX9_wake_26 : decode cX9_wake 26 = .ok (.istore_n 3, 1) := by decide +kernel
theorem dX9_wake_27 : decode cX9_wake 27 = .ok (.aload_n 2, 1) := by decide +kernel
theorem dX9_wake_28 : decode cX9_wake 28 = .ok (.astore 4, 2) := by decide +kernel
theorem dX9_wake_30 : decode cX9_wake 30 = .ok (.iconst 0, 1) := by decide +kernel
theorem dX9_wake_31 : decode cX9_wake 31 = .ok (.istore 5, 2) := by decide +kernel
theorem dX9_wake_33 : decode cX9_wake 33 = .ok (.iload 5, 2) := by decide +kernel
theorem dX9_wake_35 : decode cX9_wake 35 = .ok (.bipush 16, 2) := by decide +kernel
theorem dX9_wake_37 : decode cX9_wake 37 = .ok (.if_icmp .ge 41, 3) := by decide +kernel
theorem dX9_wake_40 : decode cX9_wake 40 = .ok (.aload 4, 2) := by decide +kernel
theorem dX9_wake_42 : decode cX9_wake 42 = .ok (.ifnull 36, 3) := by decide +kernel
theorem dX9_wake_45 : decode cX9_wake 45 = .ok (.aload 4, 2) := by decide +kernel
theorem dX9_wake_47 : decode cX9_wake 47 = .ok (.getfield 74, 3) := by decide +kernel
theorem dX9_wake_50 : decode cX9_wake 50 = .ok (.bipush 122, 2) := by decide +kernel
theorem dX9_wake_52 : decode cX9_wake 52 = .ok (.if_icmp .ne 13, 3) := by decide +kernel
theorem dX9_wake_55 : decode cX9_wake 55 = .ok (.aload 4, 2) := by decide +kernel
theorem dX9_wake_57 : decode cX9_wake 57 = .ok (.bipush 99, 2) := by decide +kernel
theorem dX9_wake_59 : decode cX9_wake 59 = .ok (.putfield 74, 3) := by decide +kernel
theorem dX9_wake_62 : decode cX9_wake 62 = .ok (.iinc 3 1, 3) := by decide +kernel
theorem dX9_wake_65 : decode cX9_wake 65 = .ok (.aload 4, 2) := by decide +kernel
theorem dX9_wake_67 : decode cX9_wake 67 = .ok (.getfield 171, 3) := by decide +kernel
theorem dX9_wake_70 : decode cX9_wake 70 = .ok (.astore 4, 2) := by decide +kernel
theorem dX9_wake_72 : decode cX9_wake 72 = .ok (.iinc 5 1, 3) := by decide +kernel
theorem dX9_wake_75 : decode cX9_wake 75 = .ok (.goto (-42), 3) := by decide +kernel
theorem dX9_wake_78 : decode cX9_wake 78 = .ok (.aload_n 2, 1) := by decide +kernel
theorem dX9_wake_79 : decode cX9_wake 79 = .ok (.aload_n 0, 1) := by decide +kernel
theorem dX9_wake_80 : decode cX9_wake 80 = .ok (.getfield 252, 3) := by decide +kernel
theorem dX9_wake_83 : decode cX9_wake 83 = .ok (.iload_n 3, 1) := by decide +kernel
theorem dX9_wake_84 : decode cX9_wake 84 = .ok (.iadd, 1) := by decide +kernel
theorem dX9_wake_85 : decode cX9_wake 85 = .ok (.putfield 255, 3) := by decide +kernel
theorem dX9_wake_88 : decode cX9_wake 88 = .ok (.iload_n 3, 1) := by decide +kernel
theorem dX9_wake_89 : decode cX9_wake 89 = .ok (.ireturn, 1) := by decide +kernel
set_option maxRecDepth 20000 in
theorem ggX9_five_X9_isWithin : GoodIn wsX9_five wsX9_isWithin := goodIn_r _ [6] (by decide +kernel) (by decide +kernel)
set_option maxRecDepth 20000 in
theorem gX9_five_X9_isWithin : GoodIn wsX9_five (va_wsS RX9 88 yX9_isWithin wsX9_isWithin) := goodIn_app (goodIn_of _ (by decide +kernel)) ggX9_five_X9_isWithin
set_option maxRecDepth 20000 in
theorem ggX9_five_X9_checkBit : GoodIn wsX9_five wsX9_checkBit := goodIn_r _ [9] (by decide +kernel) (by decide +kernel)
set_option maxRecDepth 20000 in
theorem gX9_five_X9_checkBit : GoodIn wsX9_five (va_wsS RX9 260 yX9_checkBit wsX9_checkBit) := goodIn_app (goodIn_of _ (by decide +kernel)) ggX9_five_X9_checkBit
theorem dX9_five_0 : decode cX9_five 0 = .ok (.iload_n 1, 1) := by decide +kernel
theorem dX9_five_1 : decode cX9_five 1 = .ok (.iconst 0, 1) := by decide +kernel
theorem dX9_five_2 : decode cX9_five 2 = .ok (.sipush 2047, 3) := by decide +kernel
theorem dX9_five_5 : decode cX9_five 5 = .ok (.invokestatic 88, 3) := by decide +kernel
theorem dX9_five_8 : decode cX9_five 8 = .ok (.ifCond .ne 14, 3) := by decide +kernel
theorem dX9_five_11 : decode cX9_five 11 = .ok (.new 92, 3) := by decide +kernel
theorem dX9_five_14 : decode cX9_five 14 = .ok (.dup, 1) := by decide +kernel
theorem dX9_five_15 : decode cX9_five 15 = .ok (.ldc_w 258, 3) := by decide +kernel
theorem dX9_five_18 : decode cX9_five 18 = .ok (.invokespecial 96, 3) := by decide +kernel
theorem dX9_five_21 : decode cX9_five 21 = .ok (.athrow, 1) := by decide +kernel
theorem dX9_five_22 : decode cX9_five 22 = .ok (.bipush 31, 2) := by decide +kernel
theorem dX9_five_24 : decode cX9_five 24 = .ok (.istore_n 2, 1) := by decide +kernel
theorem dX9_five_25 : decode cX9_five 25 = .ok (.iconst 0, 1) := by decide +kernel
theorem dX9_five_26 : decode cX9_five 26 = .ok (.istore_n 3, 1) := by decide +kernel
theorem dX9_five_27 : decode cX9_five 27 = .ok (.iload_n 3, 1) := by decide +kernel
theorem dX9_five_28 : decode cX9_five 28 = .ok (.bipush 11, 2) := by decide +kernel
theorem dX9_five_30 : decode cX9_five 30 = .ok (.if_icmp .ge 21, 3) := by decide +kernel
theorem dX9_five_33 : decode cX9_five 33 = .ok (.iload_n 2, 1) := by decide +kernel
theorem dX9_five_34 : decode cX9_five 34 = .ok (.iload_n 1, 1) := by decide +kernel
theorem dX9_five_35 : decode cX9_five 35 = .ok (.iload_n 3, 1) := by decide +kernel
theorem dX9_five_36 : decode cX9_five 36 = .ok (.ishr, 1) := by decide +kernel
theorem dX9_five_37 : decode cX9_five 37 = .ok (.iconst 1, 1) := by decide +kernel
theorem dX9_five_38 : decode cX9_five 38 = .ok (.iand, 1) := by decide +kernel
theorem dX9_five_39 : decode cX9_five 39 = .ok (.iconst 4, 1) := by decide +kernel
theorem dX9_five_40 : decode cX9_five 40 = .ok (.iconst 5, 1) := by decide +kernel
theorem dX9_five_41 : decode cX9_five 41 = .ok (.invokestatic 260, 3) := by decide +kernel
theorem dX9_five_44 : decode cX9_five 44 = .ok (.istore_n 2, 1) := by decide +kernel
theorem dX9_five_45 : decode cX9_five 45 = .ok (.iinc 3 1, 3) := by decide +kernel
theorem dX9_five_48 : decode cX9_five 48 = .ok (.goto (-21), 3) := by decide +kernel
theorem dX9_five_51 : decode cX9_five 51 = .ok (.bipush 31, 2) := by decide +kernel
theorem dX9_five_53 : decode cX9_five 53 = .ok (.iload_n 2, 1) := by decide +kernel
theorem dX9_five_54 : decode cX9_five 54 = .ok (.isub, 1) := by decide +kernel
theorem dX9_five_55 : decode cX9_five 55 = .ok (.ireturn, 1) := by decide +kernel
set_option maxRecDepth 20000 in
theorem ggX9_type_X9_isWithin : GoodIn wsX9_type wsX9_isWithin := goodIn_r _ [9] (by decide +kernel) (by decide +kernel)
set_option maxRecDepth 20000 in
theorem gX9_type_X9_isWithin : GoodIn wsX9_type (va_wsS RX9 88 yX9_isWithin wsX9_isWithin) := goodIn_app (goodIn_of _ (by decide +kernel)) ggX9_type_X9_isWithin
set_option maxRecDepth 20000 in
theorem ggX9_type_X0_add : GoodIn wsX9_type wsX0_add := goodIn_ca (goodIn_r _ [13, 14, 15, 16, 17, 31, 32, 33, 34] (by decide +kernel) (by decide +kernel)) (goodIn_sub (fun _ h => List.mem_cons_of_mem _ (List.mem_append_right _ h)) (by decide +kernel))
set_option maxRecDepth 20000 in
theorem gX9_type_X0_add_n271 : GoodIn wsX9_type (wsX0_add) := ggX9_type_X0_add
theorem dX9_type_0 : decode cX9_type 0 = .ok (.iload_n 1, 1) := by decide +kernel
theorem dX9_type_1 : decode cX9_type 1 = .ok (.iconst 0, 1) := by decide +kernel
theorem dX9_type_2 : decode cX9_type 2 = .ok (.sipush 255, 3) := by decide +kernel
theorem dX9_type_5 : decode cX9_type 5 = .ok (.invokestatic 88, 3) := by decide +kernel
theorem dX9_type_8 : decode cX9_type 8 = .ok (.ifCond .ne 14, 3) := by decide +kernel
theorem dX9_type_11 : decode cX9_type 11 = .ok (.new 92, 3) := by decide +kernel
theorem dX9_type_14 : decode cX9_type 14 = .ok (.dup, 1) := by decide +kernel
theorem dX9_type_15 : decode cX9_type 15 = .ok (.ldc_w 264, 3) := by decide +kernel
theorem dX9_type_18 : decode cX9_type 18 = .ok (.invokespecial 96, 3) := by decide +kernel
theorem dX9_type_21 : decode cX9_type 21 = .ok (.athrow, 1) := by decide +kernel
theorem dX9_type_22 : decode cX9_type 22 = .ok (.aload_n 0, 1) := by decide +kernel
theorem dX9_type_23 : decode cX9_type 23 = .ok (.getfield 35, 3) := by decide +kernel
theorem dX9_type_26 : decode cX9_type 26 = .ok (.getfield 266, 3) := by decide +kernel
theorem dX9_type_29 : decode cX9_type 29 = .ok (.bipush 16, 2) := by decide +kernel
theorem dX9_type_31 : decode cX9_type 31 = .ok (.if_icmp .lt 14, 3) := by decide +kernel
theorem dX9_type_34 : decode cX9_type 34 = .ok (.new 101, 3) := by decide +kernel
theorem dX9_type_37 : decode cX9_type 37 = .ok (.dup, 1) := by decide +kernel
theorem dX9_type_38 : decode cX9_type 38 = .ok (.ldc_w 269, 3) := by decide +kernel
theorem dX9_type_41 : decode cX9_type 41 = .ok (.invokespecial 105, 3) := by decide +kernel
theorem dX9_type_44 : decode cX9_type 44 = .ok (.athrow, 1) := by decide +kernel
theorem dX9_type_45 : decode cX9_type 45 = .ok (.aload_n 0, 1) := by decide +kernel
theorem dX9_type_46 : decode cX9_type 46 = .ok (.getfield 35, 3) := by decide +kernel
theorem dX9_type_49 : decode cX9_type 49 = .ok (.iload_n 1, 1) := by decide +kernel
theorem dX9_type_50 : decode cX9_type 50 = .ok (.invokevirtual 271, 3) := by decide +kernel
theorem dX9_type_53 : decode cX9_type 53 = .ok (.aload_n 0, 1) := by decide +kernel
theorem dX9_type_54 : decode cX9_type 54 = .ok (.getfield 35, 3) := by decide +kernel
theorem dX9_type_57 : decode cX9_type 57 = .ok (.getfield 266, 3) := by decide +kernel
theorem dX9_type_60 : decode cX9_type 60 = .ok (.ireturn, 1) := by decide +kernel
set_option maxRecDepth 20000 in
theorem ggX9_wipe_X0_drop : GoodIn wsX9_wipe wsX0_drop := goodIn_r _ [5, 6, 7, 8, 9, 10, 11, 25, 26, 27, 28] (by decide +kernel) (by decide +kernel)
set_option maxRecDepth 20000 in
theorem gX9_wipe_X0_drop_n274 : GoodIn wsX9_wipe (wsX0_drop) := ggX9_wipe_X0_drop
theorem dX9_wipe_0 : decode cX9_wipe 0 = .ok (.aload_n 0, 1) := by decide +kernel
theorem dX9_wipe_1 : decode cX9_wipe 1 = .ok (.getfield 35, 3) := by decide +kernel
theorem dX9_wipe_4 : decode cX9_wipe 4 = .ok (.getfield 266, 3) := by decide +kernel
theorem dX9_wipe_7 : decode cX9_wipe 7 = .ok (.istore_n 1, 1) := by decide +kernel
theorem dX9_wipe_8 : decode cX9_wipe 8 = .ok (.aload_n 0, 1) := by decide +kernel
theorem dX9_wipe_9 : decode cX9_wipe 9 = .ok (.getfield 35, 3) := by decide +kernel
theorem dX9_wipe_12 : decode cX9_wipe 12 = .ok (.iload_n 1, 1) := by decide +kernel
theorem dX9_wipe_13 : decode cX9_wipe 13 = .ok (.invokevirtual 274, 3) := by decide +kernel
theorem dX9_wipe_16 : decode cX9_wipe 16 = .ok (.iload_n 1, 1) := by decide +kernel
theorem dX9_wipe_17 : decode cX9_wipe 17 = .ok (.ireturn, 1) := by decide +kernel
set_option maxRecDepth 20000 in
theorem ggX9_sixteen_X0_at : GoodIn wsX9_sixteen wsX0_at := goodIn_ca (goodIn_r _ [7, 8, 9, 27, 28, 29, 30] (by decide +kernel) (by decide +kernel)) (goodIn_sub (fun _ h => List.mem_cons_of_mem _ (List.mem_append_right _ h)) (by decide +kernel))
set_option maxRecDepth 20000 in
theorem gX9_sixteen_X0_at_n278 : GoodIn wsX9_sixteen (wsX0_at) := ggX9_sixteen_X0_at
set_option maxRecDepth 20000 in
theorem ggX9_sixteen_X9_checkBit : GoodIn wsX9_sixteen wsX9_checkBit := goodIn_r _ [13] (by decide +kernel) (by decide +kernel)
set_option maxRecDepth 20000 in
theorem gX9_sixteen_X9_checkBit : GoodIn wsX9_sixteen (va_wsS RX9 260 yX9_checkBit wsX9_checkBit) := goodIn_app (goodIn_of _ (by decide +kernel)) ggX9_sixteen_X9_checkBit
theorem dX9_sixteen_0 : decode cX9_sixteen 0 = .ok (.ldc_w 277, 3) := by decide +kernel
theorem dX9_sixteen_3 : decode cX9_sixteen 3 = .ok (.istore_n 1, 1) := by decide +kernel
theorem dX9_sixteen_4 : decode cX9_sixteen 4 = .ok (.iconst 0, 1) := by decide +kernel
theorem dX9_sixteen_5 : decode cX9_sixteen 5 = .ok (.istore_n 2, 1) := by decide +kernel
theorem dX9_sixteen_6 : decode cX9_sixteen 6 = .ok (.iload_n 2, 1) := by decide +kernel
theorem dX9_sixteen_7 : decode cX9_sixteen 7 = .ok (.aload_n 0, 1) := by decide +kernel
theorem dX9_sixteen_8 : decode cX9_sixteen 8 = .ok (.getfield 35, 3) := by decide +kernel
theorem dX9_sixteen_11 : decode cX9_sixteen 11 = .ok (.getfield 266, 3) := by decide +kernel
theorem dX9_sixteen_14 : decode cX9_sixteen 14 = .ok (.if_icmp .ge 50, 3) := by decide +kernel
theorem dX9_sixteen_17 : decode cX9_sixteen 17 = .ok (.aload_n 0, 1) := by decide +kernel
theorem dX9_sixteen_18 : decode cX9_sixteen 18 = .ok (.getfield 35, 3) := by decide +kernel
theorem dX9_sixteen_21 : decode cX9_sixteen 21 = .ok (.iload_n 2, 1) := by decide +kernel
theorem dX9_sixteen_22 : decode cX9_sixteen 22 = .ok (.invokevirtual 278, 3) := by decide +kernel
theorem dX9_sixteen_25 : decode cX9_sixteen 25 = .ok (.istore_n 3, 1) := by decide +kernel
theorem dX9_sixteen_26 : decode cX9_sixteen 26 = .ok (.iconst 0, 1) := by decide +kernel
theorem dX9_sixteen_27 : decode cX9_sixteen 27 = .ok (.istore 4, 2) := by decide +kernel
theorem dX9_sixteen_29 : decode cX9_sixteen 29 = .ok (.iload 4, 2) := by decide +kernel
theorem dX9_sixteen_31 : decode cX9_sixteen 31 = .ok (.bipush 8, 2) := by decide +kernel
theorem dX9_sixteen_33 : decode cX9_sixteen 33 = .ok (.if_icmp .ge 25, 3) := by decide +kernel
theorem dX9_sixteen_36 : decode cX9_sixteen 36 = .ok (.iload_n 1, 1) := by decide +kernel
theorem dX9_sixteen_37 : decode cX9_sixteen 37 = .ok (.iload_n 3, 1) := by decide +kernel
theorem dX9_sixteen_38 : decode cX9_sixteen 38 = .ok (.iload 4, 2) := by decide +kernel
theorem dX9_sixteen_40 : decode cX9_sixteen 40 = .ok (.ishr, 1) := by decide +kernel
theorem dX9_sixteen_41 : decode cX9_sixteen 41 = .ok (.iconst 1, 1) := by decide +kernel
theorem dX9_sixteen_42 : decode cX9_sixteen 42 = .ok (.iand, 1) := by decide +kernel
theorem dX9_sixteen_43 : decode cX9_sixteen 43 = .ok (.bipush 15, 2) := by decide +kernel
theorem dX9_sixteen_45 : decode cX9_sixteen 45 = .ok (.ldc_w 282, 3) := by decide +kernel
theorem dX9_sixteen_48 : decode cX9_sixteen 48 = .ok (.invokestatic 260, 3) := by decide +kernel
theorem dX9_sixteen_51 : decode cX9_sixteen 51 = .ok (.istore_n 1, 1) := by decide +kernel
theorem dX9_sixteen_52 : decode cX9_sixteen 52 = .ok (.iinc 4 1, 3) := by decide +kernel
theorem dX9_sixteen_55 : decode cX9_sixteen 55 = .ok (.goto (-26), 3) := by decide +kernel
theorem dX9_sixteen_58 : decode cX9_sixteen 58 = .ok (.iinc 2 1, 3) := by decide +kernel
theorem dX9_sixteen_61 : decode cX9_sixteen 61 = .ok (.goto (-55), 3) := by decide +kernel
theorem dX9_sixteen_64 : decode cX9_sixteen 64 = .ok (.ldc_w 277, 3) := by decide +kernel
theorem dX9_sixteen_67 : decode cX9_sixteen 67 = .ok (.iload_n 1, 1) := by decide +kernel
theorem dX9_sixteen_68 : decode cX9_sixteen 68 = .ok (.isub, 1) := by decide +kernel
theorem dX9_sixteen_69 : decode cX9_sixteen 69 = .ok (.ireturn, 1) := by decide +kernel
set_option maxRecDepth 20000 in
theorem ggX9_stuffed_X0_at : GoodIn wsX9_stuffed wsX0_at := goodIn_ca (goodIn_r _ [5, 6, 7, 21, 22, 23, 24] (by decide +kernel) (by decide +kernel)) (goodIn_sub (fun _ h => List.mem_cons_of_mem _ (List.mem_append_right _ h)) (by decide +kernel))
set_option maxRecDepth 20000 in
theorem gX9_stuffed_X0_at_n278 : GoodIn wsX9_stuffed (wsX0_at) := ggX9_stuffed_X0_at
theorem dX9_stuffed_0 : decode cX9_stuffed 0 = .ok (.iconst 0, 1) := by decide +kernel
theorem dX9_stuffed_1 : decode cX9_stuffed 1 = .ok (.istore_n 1, 1) := by decide +kernel
theorem dX9_stuffed_2 : decode cX9_stuffed 2 = .ok (.iconst 0, 1) := by decide +kernel
theorem dX9_stuffed_3 : decode cX9_stuffed 3 = .ok (.istore_n 2, 1) := by decide +kernel
theorem dX9_stuffed_4 : decode cX9_stuffed 4 = .ok (.iconst 0, 1) := by decide +kernel
theorem dX9_stuffed_5 : decode cX9_stuffed 5 = .ok (.istore_n 3, 1) := by decide +kernel
theorem dX9_stuffed_6 : decode cX9_stuffed 6 = .ok (.iload_n 3, 1) := by decide +kernel
theorem dX9_stuffed_7 : decode cX9_stuffed 7 = .ok (.aload_n 0, 1) := by decide +kernel
theorem dX9_stuffed_8 : decode cX9_stuffed 8 = .ok (.getfield 35, 3) := by decide +kernel
theorem dX9_stuffed_11 : decode cX9_stuffed 11 = .ok (.getfield 266, 3) := by decide +kernel
theorem dX9_stuffed_14 : decode cX9_stuffed 14 = .ok (.if_icmp .ge 68, 3) := by decide +kernel
theorem dX9_stuffed_17 : decode cX9_stuffed 17 = .ok (.aload_n 0, 1) := by decide +kernel
theorem dX9_stuffed_18 : decode cX9_stuffed 18 = .ok (.getfield 35, 3) := by decide +kernel
theorem dX9_stuffed_21 : decode cX9_stuffed 21 = .ok (.iload_n 3, 1) := by decide +kernel
theorem dX9_stuffed_22 : decode cX9_stuffed 22 = .ok (.invokevirtual 278, 3) := by decide +kernel
theorem dX9_stuffed_25 : decode cX9_stuffed 25 = .ok (.istore 4, 2) := by decide +kernel
theorem dX9_stuffed_27 : decode cX9_stuffed 27 = .ok (.iconst 0, 1) := by decide +kernel
theorem dX9_stuffed_28 : decode cX9_stuffed 28 = .ok (.istore 5, 2) := by decide +kernel
theorem dX9_stuffed_30 : decode cX9_stuffed 30 = .ok (.iload 5, 2) := by decide +kernel
theorem dX9_stuffed_32 : decode cX9_stuffed 32 = .ok (.bipush 8, 2) := by decide +kernel
theorem dX9_stuffed_34 : decode cX9_stuffed 34 = .ok (.if_icmp .ge 42, 3) := by decide +kernel
theorem dX9_stuffed_37 : decode cX9_stuffed 37 = .ok (.iinc 1 1, 3) := by decide +kernel
theorem dX9_stuffed_40 : decode cX9_stuffed 40 = .ok (.iload 4, 2) := by decide +kernel
theorem dX9_stuffed_42 : decode cX9_stuffed 42 = .ok (.iload 5, 2) := by decide +kernel
theorem dX9_stuffed_44 : decode cX9_stuffed 44 = .ok (.ishr, 1) := by decide +kernel
theorem dX9_stuffed_45 : decode cX9_stuffed 45 = .ok (.iconst 1, 1) := by decide +kernel
theorem dX9_stuffed_46 : decode cX9_stuffed 46 = .ok (.iand, 1) := by decide +kernel
theorem dX9_stuffed_47 : decode cX9_stuffed 47 = .ok (.iconst 1, 1) := by decide +kernel
theorem dX9_stuffed_48 : decode cX9_stuffed 48 = .ok (.if_icmp .ne 9, 3) := by decide +kernel
theorem dX9_stuffed_51 : decode cX9_stuffed 51 = .ok (.iload_n 2, 1) := by decide +kernel
theorem dX9_stuffed_52 : decode cX9_stuffed 52 = .ok (.iconst 1, 1) := by decide +kernel
theorem dX9_stuffed_53 : decode cX9_stuffed 53 = .ok (.iadd, 1) := by decide +kernel
theorem dX9_stuffed_54 : decode cX9_stuffed 54 = .ok (.goto 4, 3) := by decide +kernel
theorem dX9_stuffed_57 : decode cX9_stuffed 57 = .ok (.iconst 0, 1) := by decide +kernel
theorem dX9_stuffed_58 : decode cX9_stuffed 58 = .ok (.istore_n 2, 1) := by decide +kernel
theorem dX9_stuffed_59 : decode cX9_stuffed 59 = .ok (.iload_n 2, 1) := by decide +kernel
theorem dX9_stuffed_60 : decode cX9_stuffed 60 = .ok (.bipush 6, 2) := by decide +kernel
theorem dX9_stuffed_62 : decode cX9_stuffed 62 = .ok (.if_icmp .ne 8, 3) := by decide +kernel
theorem dX9_stuffed_65 : decode cX9_stuffed 65 = .ok (.iinc 1 1, 3) := by decide +kernel
theorem dX9_stuffed_68 : decode cX9_stuffed 68 = .ok (.iconst 0, 1) := by decide +kernel
theorem dX9_stuffed_69 : decode cX9_stuffed 69 = .ok (.istore_n 2, 1) := by decide +kernel
theorem dX9_stuffed_70 : decode cX9_stuffed 70 = .ok (.iinc 5 1, 3) := by decide +kernel
theorem dX9_stuffed_73 : decode cX9_stuffed 73 = .ok (.goto (-43), 3) := by decide +kernel
