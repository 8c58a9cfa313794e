set_option maxRecDepth 20000 in
theorem ggX9_nextBulkPipe_X9_canGo : GoodIn wsX9_nextBulkPipe wsX9_canGo := goodIn_ca (goodIn_r _ [7, 8, 9, 10, 11, 12, 13, 14, 15, 16, 17, 6, 18, 19, 20, 21, 22, 23, 24, 25, 26, 27, 28, 29, 30, 31, 32, 33, 34, 35, 36, 37, 38, 39, 40, 54, 55, 56, 57, 58, 59, 60, 61, 62, 63, 64, 65, 66, 67, 68, 69, 70, 71, 72, 73, 74, 75, 76, 77, 78, 79, 80, 81, 82, 83, 84, 85, 86, 87, 88, 89, 90, 91, 92, 93, 41, 42, 43, 44, 45, 46, 47, 48, 49, 50, 51, 52, 53, 94, 95, 96, 97, 98, 99, 100, 101, 102, 103, 104, 105, 106, 107, 108, 109, 110, 111] (by decide +kernel) (by decide +kernel)) (goodIn_sub (fun _ h => List.mem_cons_of_mem _ (List.mem_append_right _ h)) (by decide +kernel))
set_option maxRecDepth 20000 in
theorem gX9_nextBulkPipe_X9_canGo : GoodIn wsX9_nextBulkPipe (wsV RX9 433 RX9 yX9_canGo wsX9_canGo) := goodIn_app (goodIn_of _ (by decide +kernel)) ggX9_nextBulkPipe_X9_canGo
theorem dX9_nextBulkPipe_0 : decode cX9_nextBulkPipe 0 = .ok (.iconst 1, 1) := by decide +kernel
theorem dX9_nextBulkPipe_1 : decode cX9_nextBulkPipe 1 = .ok (.istore_n 1, 1) := by decide +kernel
theorem dX9_nextBulkPipe_2 : decode cX9_nextBulkPipe 2 = .ok (.iload_n 1, 1) := by decide +kernel
theorem dX9_nextBulkPipe_3 : decode cX9_nextBulkPipe 3 = .ok (.bipush 12, 2) := by decide +kernel
theorem dX9_nextBulkPipe_5 : decode cX9_nextBulkPipe 5 = .ok (.if_icmp .gt 50, 3) := by decide +kernel
theorem dX9_nextBulkPipe_8 : decode cX9_nextBulkPipe 8 = .ok (.aload_n 0, 1) := by decide +kernel
theorem dX9_nextBulkPipe_9 : decode cX9_nextBulkPipe 9 = .ok (.getfield 24, 3) := by decide +kernel
theorem dX9_nextBulkPipe_12 : decode cX9_nextBulkPipe 12 = .ok (.aload_n 0, 1) := by decide +kernel
theorem dX9_nextBulkPipe_13 : decode cX9_nextBulkPipe 13 = .ok (.getfield 28, 3) := by decide +kernel
theorem dX9_nextBulkPipe_16 : decode cX9_nextBulkPipe 16 = .ok (.iload_n 1, 1) := by decide +kernel
theorem dX9_nextBulkPipe_17 : decode cX9_nextBulkPipe 17 = .ok (.iadd, 1) := by decide +kernel
theorem dX9_nextBulkPipe_18 : decode cX9_nextBulkPipe 18 = .ok (.bipush 12, 2) := by decide +kernel
theorem dX9_nextBulkPipe_20 : decode cX9_nextBulkPipe 20 = .ok (.irem, 1) := by decide +kernel
theorem dX9_nextBulkPipe_21 : decode cX9_nextBulkPipe 21 = .ok (.aaload, 1) := by decide +kernel
theorem dX9_nextBulkPipe_22 : decode cX9_nextBulkPipe 22 = .ok (.astore_n 2, 1) := by decide +kernel
theorem dX9_nextBulkPipe_23 : decode cX9_nextBulkPipe 23 = .ok (.aload_n 2, 1) := by decide +kernel
theorem dX9_nextBulkPipe_24 : decode cX9_nextBulkPipe 24 = .ok (.getfield 574, 3) := by decide +kernel
theorem dX9_nextBulkPipe_27 : decode cX9_nextBulkPipe 27 = .ok (.bipush 98, 2) := by decide +kernel
theorem dX9_nextBulkPipe_29 : decode cX9_nextBulkPipe 29 = .ok (.if_icmp .ne 20, 3) := by decide +kernel
theorem dX9_nextBulkPipe_32 : decode cX9_nextBulkPipe 32 = .ok (.aload_n 2, 1) := by decide +kernel
theorem dX9_nextBulkPipe_33 : decode cX9_nextBulkPipe 33 = .ok (.getfield 427, 3) := by decide +kernel
theorem dX9_nextBulkPipe_36 : decode cX9_nextBulkPipe 36 = .ok (.ifCond .ne 13, 3) := by decide +kernel
theorem dX9_nextBulkPipe_39 : decode cX9_nextBulkPipe 39 = .ok (.aload_n 0, 1) := by decide +kernel
theorem dX9_nextBulkPipe_40 : decode cX9_nextBulkPipe 40 = .ok (.aload_n 2, 1) := by decide +kernel
theorem dX9_nextBulkPipe_41 : decode cX9_nextBulkPipe 41 = .ok (.invokevirtual 433, 3) := by decide +kernel
theorem dX9_nextBulkPipe_44 : decode cX9_nextBulkPipe 44 = .ok (.ifCond .eq 5, 3) := by decide +kernel
theorem dX9_nextBulkPipe_49 : decode cX9_nextBulkPipe 49 = .ok (.iinc 1 1, 3) := by decide +kernel
theorem dX9_nextBulkPipe_52 : decode cX9_nextBulkPipe 52 = .ok (.goto (-50), 3) := by decide +kernel
theorem dX9_nextBulkPipe_55 : decode cX9_nextBulkPipe 55 = .ok (.aconst_null, 1) := by decide +kernel
theorem dX9_nextBulkPipe_56 : decode cX9_nextBulkPipe 56 = .ok (.areturn, 1) := by decide +kernel
theorem dX9_canGo_0 : decode cX9_canGo 0 = .ok (.aload_n 1, 1) := by decide +kernel
theorem dX9_canGo_1 : decode cX9_canGo 1 = .ok (.getfield 546, 3) := by decide +kernel
theorem dX9_canGo_4 : decode cX9_canGo 4 = .ok (.astore_n 2, 1) := by decide +kernel
theorem dX9_canGo_5 : decode cX9_canGo 5 = .ok (.aload_n 1, 1) := by decide +kernel
theorem dX9_canGo_6 : decode cX9_canGo 6 = .ok (.getfield 350, 3) := by decide +kernel
theorem dX9_canGo_9 : decode cX9_canGo 9 = .ok (.astore_n 3, 1) := by decide +kernel
theorem dX9_canGo_10 : decode cX9_canGo 10 = .ok (.aload_n 2, 1) := by decide +kernel
theorem dX9_canGo_11 : decode cX9_canGo 11 = .ok (.ifnull 21, 3) := by decide +kernel
theorem dX9_canGo_32 : decode cX9_canGo 32 = .ok (.iconst 0, 1) := by decide +kernel
theorem dX9_canGo_33 : decode cX9_canGo 33 = .ok (.ireturn, 1) := by decide +kernel
set_option maxRecDepth 20000 in
theorem ggX9_areReservesRight_X9_reckonReserved : GoodIn wsX9_areReservesRight wsX9_reckonReserved := goodIn_r _ [6, 7, 8, 9, 10, 11, 12, 13, 14, 15, 5, 16, 17, 18, 19, 20, 21, 22, 23, 24, 25, 26, 27, 28, 29, 30, 31, 32, 38, 39, 40, 41, 42, 43, 44, 45, 46, 47, 48, 49, 50, 51, 52, 53, 54, 55, 56, 57, 58, 59, 60, 61, 62, 63, 64, 65, 66, 67, 68, 69, 70, 71, 72, 73, 74, 75, 76, 77, 78, 79, 80] (by decide +kernel) (by decide +kernel)
set_option maxRecDepth 20000 in
theorem gX9_areReservesRight_X9_reckonReserved : GoodIn wsX9_areReservesRight (wsV RX9 647 RX9 yX9_reckonReserved wsX9_reckonReserved) := goodIn_app (goodIn_of _ (by decide +kernel)) ggX9_areReservesRight_X9_reckonReserved
theorem dX9_areReservesRight_0 : decode cX9_areReservesRight 0 = .ok (.iconst 0, 1) := by decide +kernel
theorem dX9_areReservesRight_1 : decode cX9_areReservesRight 1 = .ok (.istore_n 1, 1) := by decide +kernel
theorem dX9_areReservesRight_2 : decode cX9_areReservesRight 2 = .ok (.iload_n 1, 1) := by decide +kernel
theorem dX9_areReservesRight_3 : decode cX9_areReservesRight 3 = .ok (.bipush 8, 2) := by decide +kernel
theorem dX9_areReservesRight_5 : decode cX9_areReservesRight 5 = .ok (.if_icmp .ge 90, 3) := by decide +kernel
theorem dX9_areReservesRight_8 : decode cX9_areReservesRight 8 = .ok (.aload_n 0, 1) := by decide +kernel
theorem dX9_areReservesRight_9 : decode cX9_areReservesRight 9 = .ok (.getfield 45, 3) := by decide +kernel
theorem dX9_areReservesRight_12 : decode cX9_areReservesRight 12 = .ok (.getfield 344, 3) := by decide +kernel
theorem dX9_areReservesRight_15 : decode cX9_areReservesRight 15 = .ok (.iload_n 1, 1) := by decide +kernel
theorem dX9_areReservesRight_16 : decode cX9_areReservesRight 16 = .ok (.iaload, 1) := by decide +kernel
theorem dX9_areReservesRight_17 : decode cX9_areReservesRight 17 = .ok (.aload_n 0, 1) := by decide +kernel
theorem dX9_areReservesRight_18 : decode cX9_areReservesRight 18 = .ok (.iload_n 1, 1) := by decide +kernel
theorem dX9_areReservesRight_19 : decode cX9_areReservesRight 19 = .ok (.iconst (-1), 1) := by decide +kernel
theorem dX9_areReservesRight_20 : decode cX9_areReservesRight 20 = .ok (.invokevirtual 647, 3) := by decide +kernel
theorem dX9_areReservesRight_23 : decode cX9_areReservesRight 23 = .ok (.if_icmp .ne 17, 3) := by decide +kernel
theorem dX9_areReservesRight_26 : decode cX9_areReservesRight 26 = .ok (.aload_n 0, 1) := by decide +kernel
theorem dX9_areReservesRight_27 : decode cX9_areReservesRight 27 = .ok (.getfield 45, 3) := by decide +kernel
theorem dX9_areReservesRight_30 : decode cX9_areReservesRight 30 = .ok (.getfield 344, 3) := by decide +kernel
theorem dX9_areReservesRight_33 : decode cX9_areReservesRight 33 = .ok (.iload_n 1, 1) := by decide +kernel
theorem dX9_areReservesRight_34 : decode cX9_areReservesRight 34 = .ok (.iaload, 1) := by decide +kernel
theorem dX9_areReservesRight_35 : decode cX9_areReservesRight 35 = .ok (.bipush 80, 2) := by decide +kernel
theorem dX9_areReservesRight_37 : decode cX9_areReservesRight 37 = .ok (.if_icmp .le 5, 3) := by decide +kernel
theorem dX9_areReservesRight_42 : decode cX9_areReservesRight 42 = .ok (.iconst 0, 1) := by decide +kernel
theorem dX9_areReservesRight_43 : decode cX9_areReservesRight 43 = .ok (.istore_n 2, 1) := by decide +kernel
theorem dX9_areReservesRight_44 : decode cX9_areReservesRight 44 = .ok (.iload_n 2, 1) := by decide +kernel
theorem dX9_areReservesRight_45 : decode cX9_areReservesRight 45 = .ok (.bipush 16, 2) := by decide +kernel
theorem dX9_areReservesRight_47 : decode cX9_areReservesRight 47 = .ok (.if_icmp .ge 42, 3) := by decide +kernel
theorem dX9_areReservesRight_50 : decode cX9_areReservesRight 50 = .ok (.aload_n 0, 1) := by decide +kernel
theorem dX9_areReservesRight_51 : decode cX9_areReservesRight 51 = .ok (.getfield 45, 3) := by decide +kernel
theorem dX9_areReservesRight_54 : decode cX9_areReservesRight 54 = .ok (.getfield 347, 3) := by decide +kernel
theorem dX9_areReservesRight_57 : decode cX9_areReservesRight 57 = .ok (.iload_n 2, 1) := by decide +kernel
theorem dX9_areReservesRight_58 : decode cX9_areReservesRight 58 = .ok (.bipush 8, 2) := by decide +kernel
theorem dX9_areReservesRight_60 : decode cX9_areReservesRight 60 = .ok (.imul, 1) := by decide +kernel
theorem dX9_areReservesRight_61 : decode cX9_areReservesRight 61 = .ok (.iload_n 1, 1) := by decide +kernel
theorem dX9_areReservesRight_62 : decode cX9_areReservesRight 62 = .ok (.iadd, 1) := by decide +kernel
theorem dX9_areReservesRight_63 : decode cX9_areReservesRight 63 = .ok (.iaload, 1) := by decide +kernel
theorem dX9_areReservesRight_64 : decode cX9_areReservesRight 64 = .ok (.istore_n 3, 1) := by decide +kernel
theorem dX9_areReservesRight_65 : decode cX9_areReservesRight 65 = .ok (.iload_n 3, 1) := by decide +kernel
theorem dX9_areReservesRight_66 : decode cX9_areReservesRight 66 = .ok (.aload_n 0, 1) := by decide +kernel
theorem dX9_areReservesRight_67 : decode cX9_areReservesRight 67 = .ok (.iload_n 1, 1) := by decide +kernel
theorem dX9_areReservesRight_68 : decode cX9_areReservesRight 68 = .ok (.iload_n 2, 1) := by decide +kernel
theorem dX9_areReservesRight_69 : decode cX9_areReservesRight 69 = .ok (.invokevirtual 647, 3) := by decide +kernel
theorem dX9_areReservesRight_72 : decode cX9_areReservesRight 72 = .ok (.if_icmp .ne 9, 3) := by decide +kernel
theorem dX9_areReservesRight_75 : decode cX9_areReservesRight 75 = .ok (.iload_n 3, 1) := by decide +kernel
theorem dX9_areReservesRight_76 : decode cX9_areReservesRight 76 = .ok (.bipush 48, 2) := by decide +kernel
theorem dX9_areReservesRight_78 : decode cX9_areReservesRight 78 = .ok (.if_icmp .le 5, 3) := by decide +kernel
theorem dX9_areReservesRight_83 : decode cX9_areReservesRight 83 = .ok (.iinc 2 1, 3) := by decide +kernel
theorem dX9_areReservesRight_86 : decode cX9_areReservesRight 86 = .ok (.goto (-42), 3) := by decide +kernel
theorem dX9_areReservesRight_89 : decode cX9_areReservesRight 89 = .ok (.iinc 1 1, 3) := by decide +kernel
theorem dX9_areReservesRight_92 : decode cX9_areReservesRight 92 = .ok (.goto (-90), 3) := by decide +kernel
theorem dX9_areReservesRight_95 : decode cX9_areReservesRight 95 = .ok (.iconst 1, 1) := by decide +kernel
theorem dX9_areReservesRight_96 : decode cX9_areReservesRight 96 = .ok (.ireturn, 1) := by decide +kernel
theorem dX9_reckonReserved_0 : decode cX9_reckonReserved 0 = .ok (.iconst 0, 1) := by decide +kernel
theorem dX9_reckonReserved_1 : decode cX9_reckonReserved 1 = .ok (.istore_n 3, 1) := by decide +kernel
theorem dX9_reckonReserved_2 : decode cX9_reckonReserved 2 = .ok (.iconst 0, 1) := by decide +kernel
theorem dX9_reckonReserved_3 : decode cX9_reckonReserved 3 = .ok (.istore 4, 2) := by decide +kernel
theorem dX9_reckonReserved_5 : decode cX9_reckonReserved 5 = .ok (.iload 4, 2) := by decide +kernel
theorem dX9_reckonReserved_7 : decode cX9_reckonReserved 7 = .ok (.bipush 12, 2) := by decide +kernel
theorem dX9_reckonReserved_9 : decode cX9_reckonReserved 9 = .ok (.if_icmp .ge 94, 3) := by decide +kernel
theorem dX9_reckonReserved_12 : decode cX9_reckonReserved 12 = .ok (.aload_n 0, 1) := by decide +kernel
theorem dX9_reckonReserved_13 : decode cX9_reckonReserved 13 = .ok (.getfield 24, 3) := by decide +kernel
theorem dX9_reckonReserved_16 : decode cX9_reckonReserved 16 = .ok (.iload 4, 2) := by decide +kernel
theorem dX9_reckonReserved_18 : decode cX9_reckonReserved 18 = .ok (.aaload, 1) := by decide +kernel
theorem dX9_reckonReserved_19 : decode cX9_reckonReserved 19 = .ok (.astore 5, 2) := by decide +kernel
theorem dX9_reckonReserved_21 : decode cX9_reckonReserved 21 = .ok (.aload 5, 2) := by decide +kernel
theorem dX9_reckonReserved_23 : decode cX9_reckonReserved 23 = .ok (.getfield 546, 3) := by decide +kernel
theorem dX9_reckonReserved_26 : decode cX9_reckonReserved 26 = .ok (.astore 6, 2) := by decide +kernel
theorem dX9_reckonReserved_28 : decode cX9_reckonReserved 28 = .ok (.aload 5, 2) := by decide +kernel
theorem dX9_reckonReserved_30 : decode cX9_reckonReserved 30 = .ok (.getfield 350, 3) := by decide +kernel
theorem dX9_reckonReserved_33 : decode cX9_reckonReserved 33 = .ok (.astore 7, 2) := by decide +kernel
theorem dX9_reckonReserved_35 : decode cX9_reckonReserved 35 = .ok (.aload 6, 2) := by decide +kernel
theorem dX9_reckonReserved_37 : decode cX9_reckonReserved 37 = .ok (.ifnull 60, 3) := by decide +kernel
theorem dX9_reckonReserved_97 : decode cX9_reckonReserved 97 = .ok (.iinc 4 1, 3) := by decide +kernel
theorem dX9_reckonReserved_100 : decode cX9_reckonReserved 100 = .ok (.goto (-95), 3) := by decide +kernel
theorem dX9_reckonReserved_103 : decode cX9_reckonReserved 103 = .ok (.iload_n 3, 1) := by decide +kernel
theorem dX9_reckonReserved_104 : decode cX9_reckonReserved 104 = .ok (.ireturn, 1) := by decide +kernel
theorem dX9_areAddressesUnlike_0 : decode cX9_areAddressesUnlike 0 = .ok (.iconst 0, 1) := by decide +kernel
theorem dX9_areAddressesUnlike_1 : decode cX9_areAddressesUnlike 1 = .ok (.istore_n 1, 1) := by decide +kernel
theorem dX9_areAddressesUnlike_2 : decode cX9_areAddressesUnlike 2 = .ok (.iload_n 1, 1) := by decide +kernel
theorem dX9_areAddressesUnlike_3 : decode cX9_areAddressesUnlike 3 = .ok (.bipush 16, 2) := by decide +kernel
theorem dX9_areAddressesUnlike_5 : decode cX9_areAddressesUnlike 5 = .ok (.if_icmp .ge 57, 3) := by decide +kernel
theorem dX9_areAddressesUnlike_8 : decode cX9_areAddressesUnlike 8 = .ok (.iconst 0, 1) := by decide +kernel
theorem dX9_areAddressesUnlike_9 : decode cX9_areAddressesUnlike 9 = .ok (.istore_n 2, 1) := by decide +kernel
theorem dX9_areAddressesUnlike_10 : decode cX9_areAddressesUnlike 10 = .ok (.iload_n 2, 1) := by decide +kernel
theorem dX9_areAddressesUnlike_11 : decode cX9_areAddressesUnlike 11 = .ok (.iload_n 1, 1) := by decide +kernel
theorem dX9_areAddressesUnlike_12 : decode cX9_areAddressesUnlike 12 = .ok (.if_icmp .ge 44, 3) := by decide +kernel
theorem dX9_areAddressesUnlike_15 : decode cX9_areAddressesUnlike 15 = .ok (.aload_n 0, 1) := by decide +kernel
theorem dX9_areAddressesUnlike_16 : decode cX9_areAddressesUnlike 16 = .ok (.getfield 11, 3) := by decide +kernel
theorem dX9_areAddressesUnlike_19 : decode cX9_areAddressesUnlike 19 = .ok (.iload_n 1, 1) := by decide +kernel
theorem dX9_areAddressesUnlike_20 : decode cX9_areAddressesUnlike 20 = .ok (.aaload, 1) := by decide +kernel
theorem dX9_areAddressesUnlike_21 : decode cX9_areAddressesUnlike 21 = .ok (.getfield 196, 3) := by decide +kernel
theorem dX9_areAddressesUnlike_24 : decode cX9_areAddressesUnlike 24 = .ok (.ifCond .eq 26, 3) := by decide +kernel
theorem dX9_areAddressesUnlike_50 : decode cX9_areAddressesUnlike 50 = .ok (.iinc 2 1, 3) := by decide +kernel
theorem dX9_areAddressesUnlike_53 : decode cX9_areAddressesUnlike 53 = .ok (.goto (-43), 3) := by decide +kernel
theorem dX9_areAddressesUnlike_56 : decode cX9_areAddressesUnlike 56 = .ok (.iinc 1 1, 3) := by decide +kernel
theorem dX9_areAddressesUnlike_59 : decode cX9_areAddressesUnlike 59 = .ok (.goto (-57), 3) := by decide +kernel
theorem dX9_areAddressesUnlike_62 : decode cX9_areAddressesUnlike 62 = .ok (.iconst 1, 1) := by decide +kernel
theorem dX9_areAddressesUnlike_63 : decode cX9_areAddressesUnlike 63 = .ok (.ireturn, 1) := by decide +kernel
theorem dX9_areHubsPlugged_0 : decode cX9_areHubsPlugged 0 = .ok (.iconst 1, 1) := by decide +kernel
theorem dX9_areHubsPlugged_1 : decode cX9_areHubsPlugged 1 = .ok (.istore_n 1, 1) := by decide +kernel
theorem dX9_areHubsPlugged_2 : decode cX9_areHubsPlugged 2 = .ok (.iload_n 1, 1) := by decide +kernel
theorem dX9_areHubsPlugged_3 : decode cX9_areHubsPlugged 3 = .ok (.bipush 16, 2) := by decide +kernel
theorem dX9_areHubsPlugged_5 : decode cX9_areHubsPlugged 5 = .ok (.if_icmp .ge 46, 3) := by decide +kernel
theorem dX9_areHubsPlugged_8 : decode cX9_areHubsPlugged 8 = .ok (.aload_n 0, 1) := by decide +kernel
theorem dX9_areHubsPlugged_9 : decode cX9_areHubsPlugged 9 = .ok (.getfield 11, 3) := by decide +kernel
theorem dX9_areHubsPlugged_12 : decode cX9_areHubsPlugged 12 = .ok (.iload_n 1, 1) := by decide +kernel
theorem dX9_areHubsPlugged_13 : decode cX9_areHubsPlugged 13 = .ok (.aaload, 1) := by decide +kernel
theorem dX9_areHubsPlugged_14 : decode cX9_areHubsPlugged 14 = .ok (.astore_n 2, 1) := by decide +kernel
theorem dX9_areHubsPlugged_15 : decode cX9_areHubsPlugged 15 = .ok (.aload_n 2, 1) := by decide +kernel
theorem dX9_areHubsPlugged_16 : decode cX9_areHubsPlugged 16 = .ok (.getfield 74, 3) := by decide +kernel
theorem dX9_areHubsPlugged_19 : decode cX9_areHubsPlugged 19 = .ok (.bipush 117, 2) := by decide +kernel
theorem dX9_areHubsPlugged_21 : decode cX9_areHubsPlugged 21 = .ok (.if_icmp .eq 24, 3) := by decide +kernel
theorem dX9_areHubsPlugged_45 : decode cX9_areHubsPlugged 45 = .ok (.iinc 1 1, 3) := by decide +kernel
theorem dX9_areHubsPlugged_48 : decode cX9_areHubsPlugged 48 = .ok (.goto (-46), 3) := by decide +kernel
theorem dX9_areHubsPlugged_51 : decode cX9_areHubsPlugged 51 = .ok (.iconst 1, 1) := by decide +kernel
theorem dX9_areHubsPlugged_52 : decode cX9_areHubsPlugged 52 = .ok (.ireturn, 1) := by decide +kernel
theorem dX9_isNothingInvented_0 : decode cX9_isNothingInvented 0 = .ok (.iconst 0, 1) := by decide +kernel
theorem dX9_isNothingInvented_1 : decode cX9_isNothingInvented 1 = .ok (.istore_n 1, 1) := by decide +kernel
theorem dX9_isNothingInvented_2 : decode cX9_isNothingInvented 2 = .ok (.iload_n 1, 1) := by decide +kernel
theorem dX9_isNothingInvented_3 : decode cX9_isNothingInvented 3 = .ok (.bipush 16, 2) := by decide +kernel
theorem dX9_isNothingInvented_5 : decode cX9_isNothingInvented 5 = .ok (.if_icmp .ge 64, 3) := by decide +kernel
theorem dX9_isNothingInvented_8 : decode cX9_isNothingInvented 8 = .ok (.iconst 0, 1) := by decide +kernel
theorem dX9_isNothingInvented_9 : decode cX9_isNothingInvented 9 = .ok (.istore_n 2, 1) := by decide +kernel
theorem dX9_isNothingInvented_10 : decode cX9_isNothingInvented 10 = .ok (.iload_n 2, 1) := by decide +kernel
theorem dX9_isNothingInvented_11 : decode cX9_isNothingInvented 11 = .ok (.iconst 3, 1) := by decide +kernel
theorem dX9_isNothingInvented_12 : decode cX9_isNothingInvented 12 = .ok (.if_icmp .ge 51, 3) := by decide +kernel
theorem dX9_isNothingInvented_15 : decode cX9_isNothingInvented 15 = .ok (.aload_n 0, 1) := by decide +kernel
theorem dX9_isNothingInvented_16 : decode cX9_isNothingInvented 16 = .ok (.getfield 11, 3) := by decide +kernel
theorem dX9_isNothingInvented_19 : decode cX9_isNothingInvented 19 = .ok (.iload_n 1, 1) := by decide +kernel
theorem dX9_isNothingInvented_20 : decode cX9_isNothingInvented 20 = .ok (.aaload, 1) := by decide +kernel
theorem dX9_isNothingInvented_21 : decode cX9_isNothingInvented 21 = .ok (.getfield 130, 3) := by decide +kernel
theorem dX9_isNothingInvented_24 : decode cX9_isNothingInvented 24 = .ok (.iload_n 2, 1) := by decide +kernel
theorem dX9_isNothingInvented_25 : decode cX9_isNothingInvented 25 = .ok (.aaload, 1) := by decide +kernel
theorem dX9_isNothingInvented_26 : decode cX9_isNothingInvented 26 = .ok (.astore_n 3, 1) := by decide +kernel
theorem dX9_isNothingInvented_27 : decode cX9_isNothingInvented 27 = .ok (.aload_n 3, 1) := by decide +kernel
theorem dX9_isNothingInvented_28 : decode cX9_isNothingInvented 28 = .ok (.getfield 134, 3) := by decide +kernel
theorem dX9_isNothingInvented_31 : decode cX9_isNothingInvented 31 = .ok (.ifCond .eq 26, 3) := by decide +kernel
theorem dX9_isNothingInvented_57 : decode cX9_isNothingInvented 57 = .ok (.iinc 2 1, 3) := by decide +kernel
theorem dX9_isNothingInvented_60 : decode cX9_isNothingInvented 60 = .ok (.goto (-50), 3) := by decide +kernel
theorem dX9_isNothingInvented_63 : decode cX9_isNothingInvented 63 = .ok (.iinc 1 1, 3) := by decide +kernel
theorem dX9_isNothingInvented_66 : decode cX9_isNothingInvented 66 = .ok (.goto (-64), 3) := by decide +kernel
theorem dX9_isNothingInvented_69 : decode cX9_isNothingInvented 69 = .ok (.iconst 1, 1) := by decide +kernel
theorem dX9_isNothingInvented_70 : decode cX9_isNothingInvented 70 = .ok (.ireturn, 1) := by decide +kernel
theorem dX10_init_0 : decode cX10_init 0 = .ok (.aload_n 0, 1) := by decide +kernel
theorem dX10_init_1 : decode cX10_init 1 = .ok (.invokespecial 3, 3) := by decide +kernel
theorem dX10_init_4 : decode cX10_init 4 = .ok (.aload_n 0, 1) := by decide +kernel
theorem dX10_init_5 : decode cX10_init 5 = .ok (.bipush 117, 2) := by decide +kernel
theorem dX10_init_7 : decode cX10_init 7 = .ok (.putfield 9, 3) := by decide +kernel
theorem dX10_init_10 : decode cX10_init 10 = .ok (.aload_n 0, 1) := by decide +kernel
theorem dX10_init_11 : decode cX10_init 11 = .ok (.iconst (-1), 1) := by decide +kernel
theorem dX10_init_12 : decode cX10_init 12 = .ok (.putfield 15, 3) := by decide +kernel
theorem dX10_init_15 : decode cX10_init 15 = .ok (.aload_n 0, 1) := by decide +kernel
theorem dX10_init_16 : decode cX10_init 16 = .ok (.iconst (-1), 1) := by decide +kernel
theorem dX10_init_17 : decode cX10_init 17 = .ok (.putfield 19, 3) := by decide +kernel
theorem dX10_init_20 : decode cX10_init 20 = .ok (.aload_n 0, 1) := by decide +kernel
theorem dX10_init_21 : decode cX10_init 21 = .ok (.iconst 4, 1) := by decide +kernel
theorem dX10_init_22 : decode cX10_init 22 = .ok (.anewarray 22, 3) := by decide +kernel
theorem dX10_init_25 : decode cX10_init 25 = .ok (.putfield 24, 3) := by decide +kernel
theorem dX10_init_28 : decode cX10_init 28 = .ok (.aload_n 0, 1) := by decide +kernel
theorem dX10_init_29 : decode cX10_init 29 = .ok (.iconst 4, 1) := by decide +kernel
theorem dX10_init_30 : decode cX10_init 30 = .ok (.newarray .char, 2) := by decide +kernel
theorem dX10_init_32 : decode cX10_init 32 = .ok (.putfield 28, 3) := by decide +kernel
theorem dX10_init_35 : decode cX10_init 35 = .ok (.aload_n 0, 1) := by decide +kernel
theorem dX10_init_36 : decode cX10_init 36 = .ok (.iconst 4, 1) := by decide +kernel
theorem dX10_init_37 : decode cX10_init 37 = .ok (.newarray .int, 2) := by decide +kernel
theorem dX10_init_39 : decode cX10_init 39 = .ok (.putfield 32, 3) := by decide +kernel
theorem dX10_init_42 : decode cX10_init 42 = .ok (.aload_n 0, 1) := by decide +kernel
theorem dX10_init_43 : decode cX10_init 43 = .ok (.iload_n 1, 1) := by decide +kernel
theorem dX10_init_44 : decode cX10_init 44 = .ok (.putfield 36, 3) := by decide +kernel
theorem dX10_init_47 : decode cX10_init 47 = .ok (.aload_n 0, 1) := by decide +kernel
theorem dX10_init_48 : decode cX10_init 48 = .ok (.iload_n 2, 1) := by decide +kernel
theorem dX10_init_49 : decode cX10_init 49 = .ok (.putfield 39, 3) := by decide +kernel
theorem dX10_init_52 : decode cX10_init 52 = .ok (.aload_n 0, 1) := by decide +kernel
theorem dX10_init_53 : decode cX10_init 53 = .ok (.iload_n 3, 1) := by decide +kernel
theorem dX10_init_54 : decode cX10_init 54 = .ok (.putfield 42, 3) := by decide +kernel
theorem dX10_init_57 : decode cX10_init 57 = .ok (.aload_n 0, 1) := by decide +kernel
theorem dX10_init_58 : decode cX10_init 58 = .ok (.iload 4, 2) := by decide +kernel
theorem dX10_init_60 : decode cX10_init 60 = .ok (.putfield 45, 3) := by decide +kernel
theorem dX10_init_63 : decode cX10_init 63 = .ok (.aload_n 0, 1) := by decide +kernel
theorem dX10_init_64 : decode cX10_init 64 = .ok (.iload 5, 2) := by decide +kernel
theorem dX10_init_66 : decode cX10_init 66 = .ok (.putfield 49, 3) := by decide +kernel
theorem dX10_init_69 : decode cX10_init 69 = .ok (.aload_n 0, 1) := by decide +kernel
theorem dX10_init_70 : decode cX10_init 70 = .ok (.iload_n 3, 1) := by decide +kernel
theorem dX10_init_71 : decode cX10_init 71 = .ok (.putfield 52, 3) := by decide +kernel
theorem dX10_init_74 : decode cX10_init 74 = .ok (.return_, 1) := by decide +kernel
theorem dX14_in_0 : decode cX14_in 0 = .ok (.iload_n 0, 1) := by decide +kernel
theorem dX14_in_1 : decode cX14_in 1 = .ok (.iload_n 1, 1) := by decide +kernel
theorem dX14_in_2 : decode cX14_in 2 = .ok (.if_icmp .lt 12, 3) := by decide +kernel
theorem dX14_in_5 : decode cX14_in 5 = .ok (.iload_n 0, 1) := by decide +kernel
theorem dX14_in_6 : decode cX14_in 6 = .ok (.iload_n 2, 1) := by decide +kernel
theorem dX14_in_7 : decode cX14_in 7 = .ok (.if_icmp .gt 7, 3) := by decide +kernel
theorem dX14_in_10 : decode cX14_in 10 = .ok (.iconst 1, 1) := by decide +kernel
theorem dX14_in_11 : decode cX14_in 11 = .ok (.goto 4, 3) := by decide +kernel
theorem dX14_in_14 : decode cX14_in 14 = .ok (.iconst 0, 1) := by decide +kernel
theorem dX14_in_15 : decode cX14_in 15 = .ok (.ireturn, 1) := by decide +kernel
set_option maxRecDepth 20000 in
theorem ggX14_init_Jx4a65c_init_da8c8 : GoodIn wsX14_init wsJx4a65c_init_da8c8 := goodIn_r _ [24, 25, 26, 27, 28, 29, 30, 31, 32, 33, 34, 35, 36, 2, 3, 108, 109, 110] (by decide +kernel) (by decide +kernel)
set_option maxRecDepth 20000 in
theorem gX14_init_Jx4a65c_init_da8c8 : GoodIn wsX14_init (wsJx4a65c_init_da8c8) := ggX14_init_Jx4a65c_init_da8c8
set_option maxRecDepth 20000 in
theorem ggX14_init_X10_init : GoodIn wsX14_init wsX10_init := goodIn_r _ [39, 40, 2, 3, 41, 42, 43, 44, 45, 46, 47, 13, 48, 49, 50, 51, 52, 53, 54, 130, 131, 132, 133, 134, 135, 136, 137, 138, 139, 140, 141, 142, 143, 144, 145] (by decide +kernel) (by decide +kernel)
set_option maxRecDepth 20000 in
theorem gX14_init_X10_init : GoodIn wsX14_init (wsX10_init) := ggX14_init_X10_init
set_option maxRecDepth 20000 in
theorem ggX14_init_Jx4a65c_add_9ea2d : GoodIn wsX14_init wsJx4a65c_add_9ea2d := goodIn_r _ [58, 59, 60, 26, 61, 62, 63, 64, 6, 65, 66, 67, 68, 69, 70, 71, 72, 73, 25, 74, 75, 76, 77, 78, 79, 80, 81, 82, 83, 84, 85, 86, 87, 88, 89, 90, 91, 92, 93, 94, 95, 96, 97, 98, 99, 100, 101, 102, 103, 104, 105, 106, 107, 108, 109, 110] (by decide +kernel) (by decide +kernel)
set_option maxRecDepth 20000 in
theorem gX14_init_Jx4a65c_add_9ea2d : GoodIn wsX14_init (wsV RX14 57 RJx4a65c yJx4a65c_add_9ea2d wsJx4a65c_add_9ea2d) := goodIn_app (goodIn_of _ (by decide +kernel)) ggX14_init_Jx4a65c_add_9ea2d
theorem dX14_init_0 : decode cX14_init 0 = .ok (.aload_n 0, 1) := by decide +kernel
theorem dX14_init_1 : decode cX14_init 1 = .ok (.invokespecial 1, 3) := by decide +kernel
theorem dX14_init_4 : decode cX14_init 4 = .ok (.aload_n 0, 1) := by decide +kernel
theorem dX14_init_5 : decode cX14_init 5 = .ok (.new 7, 3) := by decide +kernel
theorem dX14_init_8 : decode cX14_init 8 = .ok (.dup, 1) := by decide +kernel
theorem dX14_init_9 : decode cX14_init 9 = .ok (.invokespecial 9, 3) := by decide +kernel
theorem dX14_init_12 : decode cX14_init 12 = .ok (.putfield 10, 3) := by decide +kernel
theorem dX14_init_15 : decode cX14_init 15 = .ok (.aload_n 0, 1) := by decide +kernel
theorem dX14_init_16 : decode cX14_init 16 = .ok (.bipush 12, 2) := by decide +kernel
theorem dX14_init_18 : decode cX14_init 18 = .ok (.anewarray 16, 3) := by decide +kernel
theorem dX14_init_21 : decode cX14_init 21 = .ok (.putfield 18, 3) := by decide +kernel
theorem dX14_init_24 : decode cX14_init 24 = .ok (.aload_n 0, 1) := by decide +kernel
theorem dX14_init_25 : decode cX14_init 25 = .ok (.new 7, 3) := by decide +kernel
theorem dX14_init_28 : decode cX14_init 28 = .ok (.dup, 1) := by decide +kernel
theorem dX14_init_29 : decode cX14_init 29 = .ok (.invokespecial 9, 3) := by decide +kernel
theorem dX14_init_32 : decode cX14_init 32 = .ok (.putfield 22, 3) := by decide +kernel
theorem dX14_init_35 : decode cX14_init 35 = .ok (.aload_n 0, 1) := by decide +kernel
theorem dX14_init_36 : decode cX14_init 36 = .ok (.new 7, 3) := by decide +kernel
theorem dX14_init_39 : decode cX14_init 39 = .ok (.dup, 1) := by decide +kernel
theorem dX14_init_40 : decode cX14_init 40 = .ok (.invokespecial 9, 3) := by decide +kernel
theorem dX14_init_43 : decode cX14_init 43 = .ok (.putfield 25, 3) := by decide +kernel
theorem dX14_init_46 : decode cX14_init 46 = .ok (.aload_n 0, 1) := by decide +kernel
theorem dX14_init_47 : decode cX14_init 47 = .ok (.new 7, 3) := by decide +kernel
theorem dX14_init_50 : decode cX14_init 50 = .ok (.dup, 1) := by decide +kernel
theorem dX14_init_51 : decode cX14_init 51 = .ok (.invokespecial 9, 3) := by decide +kernel
theorem dX14_init_54 : decode cX14_init 54 = .ok (.putfield 28, 3) := by decide +kernel
theorem dX14_init_57 : decode cX14_init 57 = .ok (.aload_n 0, 1) := by decide +kernel
theorem dX14_init_58 : decode cX14_init 58 = .ok (.iconst 0, 1) := by decide +kernel
theorem dX14_init_59 : decode cX14_init 59 = .ok (.newarray .int, 2) := by decide +kernel
theorem dX14_init_61 : decode cX14_init 61 = .ok (.putfield 31, 3) := by decide +kernel
theorem dX14_init_64 : decode cX14_init 64 = .ok (.aload_n 0, 1) := by decide +kernel
theorem dX14_init_65 : decode cX14_init 65 = .ok (.new 7, 3) := by decide +kernel
theorem dX14_init_68 : decode cX14_init 68 = .ok (.dup, 1) := by decide +kernel
theorem dX14_init_69 : decode cX14_init 69 = .ok (.invokespecial 9, 3) := by decide +kernel
theorem dX14_init_72 : decode cX14_init 72 = .ok (.putfield 35, 3) := by decide +kernel
theorem dX14_init_75 : decode cX14_init 75 = .ok (.aload_n 0, 1) := by decide +kernel
theorem dX14_init_76 : decode cX14_init 76 = .ok (.iconst (-1), 1) := by decide +kernel
theorem dX14_init_77 : decode cX14_init 77 = .ok (.putfield 38, 3) := by decide +kernel
theorem dX14_init_80 : decode cX14_init 80 = .ok (.aload_n 0, 1) := by decide +kernel
theorem dX14_init_81 : decode cX14_init 81 = .ok (.bipush 100, 2) := by decide +kernel
theorem dX14_init_83 : decode cX14_init 83 = .ok (.putfield 42, 3) := by decide +kernel
theorem dX14_init_86 : decode cX14_init 86 = .ok (.aload_n 0, 1) := by decide +kernel
theorem dX14_init_87 : decode cX14_init 87 = .ok (.bipush 16, 2) := by decide +kernel
theorem dX14_init_89 : decode cX14_init 89 = .ok (.newarray .int, 2) := by decide +kernel
theorem dX14_init_91 : decode cX14_init 91 = .ok (.putfield 45, 3) := by decide +kernel
theorem dX14_init_94 : decode cX14_init 94 = .ok (.new 48, 3) := by decide +kernel
theorem dX14_init_97 : decode cX14_init 97 = .ok (.dup, 1) := by decide +kernel
theorem dX14_init_98 : decode cX14_init 98 = .ok (.bipush 104, 2) := by decide +kernel
theorem dX14_init_100 : decode cX14_init 100 = .ok (.iconst 4, 1) := by decide +kernel
theorem dX14_init_101 : decode cX14_init 101 = .ok (.iconst 0, 1) := by decide +kernel
theorem dX14_init_102 : decode cX14_init 102 = .ok (.iconst 1, 1) := by decide +kernel
theorem dX14_init_103 : decode cX14_init 103 = .ok (.iconst 0, 1) := by decide +kernel
theorem dX14_init_104 : decode cX14_init 104 = .ok (.invokespecial 50, 3) := by decide +kernel
theorem dX14_init_107 : decode cX14_init 107 = .ok (.astore_n 1, 1) := by decide +kernel
theorem dX14_init_108 : decode cX14_init 108 = .ok (.aload_n 1, 1) := by decide +kernel
theorem dX14_init_109 : decode cX14_init 109 = .ok (.bipush 99, 2) := by decide +kernel
theorem dX14_init_111 : decode cX14_init 111 = .ok (.putfield 53, 3) := by decide +kernel
theorem dX14_init_114 : decode cX14_init 114 = .ok (.aload_n 0, 1) := by decide +kernel
theorem dX14_init_115 : decode cX14_init 115 = .ok (.getfield 10, 3) := by decide +kernel
theorem dX14_init_118 : decode cX14_init 118 = .ok (.aload_n 1, 1) := by decide +kernel
theorem dX14_init_119 : decode cX14_init 119 = .ok (.invokevirtual 57, 3) := by decide +kernel
theorem dX14_init_122 : decode cX14_init 122 = .ok (.pop, 1) := by decide +kernel
theorem dX14_init_123 : decode cX14_init 123 = .ok (.return_, 1) := by decide +kernel
theorem dX14_thrown_0 : decode cX14_thrown 0 = .ok (.aload_n 0, 1) := by decide +kernel
theorem dX14_thrown_1 : decode cX14_thrown 1 = .ok (.getfield 61, 3) := by decide +kernel
theorem dX14_thrown_4 : decode cX14_thrown 4 = .ok (.ireturn, 1) := by decide +kernel
theorem dX14_raises_0 : decode cX14_raises 0 = .ok (.aload_n 0, 1) := by decide +kernel
theorem dX14_raises_1 : decode cX14_raises 1 = .ok (.iload_n 1, 1) := by decide +kernel
theorem dX14_raises_2 : decode cX14_raises 2 = .ok (.putfield 61, 3) := by decide +kernel
theorem dX14_raises_5 : decode cX14_raises 5 = .ok (.iconst 0, 1) := by decide +kernel
theorem dX14_raises_6 : decode cX14_raises 6 = .ok (.ireturn, 1) := by decide +kernel
set_option maxRecDepth 20000 in
theorem ggX14_isDevice_Jx4a65c_size_8abf5 : GoodIn wsX14_isDevice wsJx4a65c_size_8abf5 := goodIn_r _ [6, 7, 31, 32, 33] (by decide +kernel) (by decide +kernel)
set_option maxRecDepth 20000 in
theorem gX14_isDevice_Jx4a65c_size_8abf5 : GoodIn wsX14_isDevice (wsV RX14 64 RJx4a65c yJx4a65c_size_8abf5 wsJx4a65c_size_8abf5) := goodIn_app (goodIn_of _ (by decide +kernel)) ggX14_isDevice_Jx4a65c_size_8abf5
set_option maxRecDepth 20000 in
theorem ggX14_isDevice_X14_in : GoodIn wsX14_isDevice wsX14_in := goodIn_r _ [11] (by decide +kernel) (by decide +kernel)
set_option maxRecDepth 20000 in
theorem gX14_isDevice_X14_in : GoodIn wsX14_isDevice (va_wsS RX14 68 yX14_in wsX14_in) := goodIn_app (goodIn_of _ (by decide +kernel)) ggX14_isDevice_X14_in
theorem dX14_isDevice_0 : decode cX14_isDevice 0 = .ok (.iload_n 1, 1) := by decide +kernel
theorem dX14_isDevice_1 : decode cX14_isDevice 1 = .ok (.iconst 0, 1) := by decide +kernel
theorem dX14_isDevice_2 : decode cX14_isDevice 2 = .ok (.aload_n 0, 1) := by decide +kernel
theorem dX14_isDevice_3 : decode cX14_isDevice 3 = .ok (.getfield 10, 3) := by decide +kernel
theorem dX14_isDevice_6 : decode cX14_isDevice 6 = .ok (.invokevirtual 64, 3) := by decide +kernel
theorem dX14_isDevice_9 : decode cX14_isDevice 9 = .ok (.iconst 1, 1) := by decide +kernel
theorem dX14_isDevice_10 : decode cX14_isDevice 10 = .ok (.isub, 1) := by decide +kernel
theorem dX14_isDevice_11 : decode cX14_isDevice 11 = .ok (.invokestatic 68, 3) := by decide +kernel
theorem dX14_isDevice_14 : decode cX14_isDevice 14 = .ok (.ireturn, 1) := by decide +kernel
set_option maxRecDepth 20000 in
theorem ggX14_noDevice_X14_isDevice : GoodIn wsX14_noDevice wsX14_isDevice := goodIn_r _ [6, 7, 8, 9, 10, 11, 12, 13, 14, 15, 5, 16, 17, 18, 19, 20, 21, 22, 23, 24, 25, 26, 27, 28, 29, 30, 31, 32, 33, 34, 35, 36, 37, 38] (by decide +kernel) (by decide +kernel)
set_option maxRecDepth 20000 in
theorem gX14_noDevice_X14_isDevice : GoodIn wsX14_noDevice (wsV RX14 72 RX14 yX14_isDevice wsX14_isDevice) := goodIn_app (goodIn_of _ (by decide +kernel)) ggX14_noDevice_X14_isDevice
theorem dX14_noDevice_0 : decode cX14_noDevice 0 = .ok (.aload_n 0, 1) := by decide +kernel
theorem dX14_noDevice_1 : decode cX14_noDevice 1 = .ok (.aload_n 0, 1) := by decide +kernel
theorem dX14_noDevice_2 : decode cX14_noDevice 2 = .ok (.iload_n 1, 1) := by decide +kernel
theorem dX14_noDevice_3 : decode cX14_noDevice 3 = .ok (.invokevirtual 72, 3) := by decide +kernel
theorem dX14_noDevice_6 : decode cX14_noDevice 6 = .ok (.ifCond .eq 7, 3) := by decide +kernel
theorem dX14_noDevice_9 : decode cX14_noDevice 9 = .ok (.iconst 0, 1) := by decide +kernel
theorem dX14_noDevice_10 : decode cX14_noDevice 10 = .ok (.goto 4, 3) := by decide +kernel
theorem dX14_noDevice_13 : decode cX14_noDevice 13 = .ok (.iconst 1, 1) := by decide +kernel
theorem dX14_noDevice_14 : decode cX14_noDevice 14 = .ok (.putfield 61, 3) := by decide +kernel
theorem dX14_noDevice_17 : decode cX14_noDevice 17 = .ok (.aload_n 0, 1) := by decide +kernel
theorem dX14_noDevice_18 : decode cX14_noDevice 18 = .ok (.getfield 61, 3) := by decide +kernel
theorem dX14_noDevice_21 : decode cX14_noDevice 21 = .ok (.ifCond .le 7, 3) := by decide +kernel
theorem dX14_noDevice_24 : decode cX14_noDevice 24 = .ok (.iconst 1, 1) := by decide +kernel
theorem dX14_noDevice_25 : decode cX14_noDevice 25 = .ok (.goto 4, 3) := by decide +kernel
theorem dX14_noDevice_28 : decode cX14_noDevice 28 = .ok (.iconst 0, 1) := by decide +kernel
theorem dX14_noDevice_29 : decode cX14_noDevice 29 = .ok (.ireturn, 1) := by decide +kernel
set_option maxRecDepth 20000 in
theorem ggX14_depth_Jx4a65c_get_915e3 : GoodIn wsX14_depth wsJx4a65c_get_915e3 := goodIn_r _ [7, 8, 9, 10, 11, 12, 13, 14, 15, 16, 17, 18, 19, 6, 20, 21, 57, 58, 59] (by decide +kernel) (by decide +kernel)
set_option maxRecDepth 20000 in
theorem gX14_depth_Jx4a65c_get_915e3 : GoodIn wsX14_depth (wsV RX14 76 RJx4a65c yJx4a65c_get_915e3 wsJx4a65c_get_915e3) := goodIn_app (goodIn_of _ (by decide +kernel)) ggX14_depth_Jx4a65c_get_915e3
theorem dX14_depth_0 : decode cX14_depth 0 = .ok (.iconst 0, 1) := by decide +kernel
theorem dX14_depth_1 : decode cX14_depth 1 = .ok (.istore_n 2, 1) := by decide +kernel
theorem dX14_depth_2 : decode cX14_depth 2 = .ok (.iload_n 1, 1) := by decide +kernel
theorem dX14_depth_3 : decode cX14_depth 3 = .ok (.istore_n 3, 1) := by decide +kernel
theorem dX14_depth_4 : decode cX14_depth 4 = .ok (.aload_n 0, 1) := by decide +kernel
theorem dX14_depth_5 : decode cX14_depth 5 = .ok (.getfield 10, 3) := by decide +kernel
theorem dX14_depth_8 : decode cX14_depth 8 = .ok (.iload_n 3, 1) := by decide +kernel
theorem dX14_depth_9 : decode cX14_depth 9 = .ok (.invokevirtual 76, 3) := by decide +kernel
theorem dX14_depth_12 : decode cX14_depth 12 = .ok (.checkcast 48, 3) := by decide +kernel
theorem dX14_depth_15 : decode cX14_depth 15 = .ok (.getfield 80, 3) := by decide +kernel
theorem dX14_depth_18 : decode cX14_depth 18 = .ok (.iconst (-1), 1) := by decide +kernel
theorem dX14_depth_19 : decode cX14_depth 19 = .ok (.if_icmp .eq 24, 3) := by decide +kernel
theorem dX14_depth_43 : decode cX14_depth 43 = .ok (.iload_n 2, 1) := by decide +kernel
theorem dX14_depth_44 : decode cX14_depth 44 = .ok (.ireturn, 1) := by decide +kernel
set_option maxRecDepth 20000 in
theorem ggX14_isPlugged_Jx4a65c_get_915e3 : GoodIn wsX14_isPlugged wsJx4a65c_get_915e3 := goodIn_r _ [7, 8, 9, 10, 11, 12, 13, 14, 15, 16, 17, 18, 19, 6, 20, 21, 57, 58, 59] (by decide +kernel) (by decide +kernel)
set_option maxRecDepth 20000 in
theorem gX14_isPlugged_Jx4a65c_get_915e3 : GoodIn wsX14_isPlugged (wsV RX14 76 RJx4a65c yJx4a65c_get_915e3 wsJx4a65c_get_915e3) := goodIn_app (goodIn_of _ (by decide +kernel)) ggX14_isPlugged_Jx4a65c_get_915e3
theorem dX14_isPlugged_0 : decode cX14_isPlugged 0 = .ok (.aload_n 0, 1) := by decide +kernel
theorem dX14_isPlugged_1 : decode cX14_isPlugged 1 = .ok (.getfield 10, 3) := by decide +kernel
theorem dX14_isPlugged_4 : decode cX14_isPlugged 4 = .ok (.iload_n 1, 1) := by decide +kernel
theorem dX14_isPlugged_5 : decode cX14_isPlugged 5 = .ok (.invokevirtual 76, 3) := by decide +kernel
theorem dX14_isPlugged_8 : decode cX14_isPlugged 8 = .ok (.checkcast 48, 3) := by decide +kernel
theorem dX14_isPlugged_11 : decode cX14_isPlugged 11 = .ok (.getfield 53, 3) := by decide +kernel
theorem dX14_isPlugged_14 : decode cX14_isPlugged 14 = .ok (.bipush 117, 2) := by decide +kernel
theorem dX14_isPlugged_16 : decode cX14_isPlugged 16 = .ok (.if_icmp .eq 7, 3) := by decide +kernel
theorem dX14_isPlugged_19 : decode cX14_isPlugged 19 = .ok (.iconst 1, 1) := by decide +kernel
theorem dX14_isPlugged_20 : decode cX14_isPlugged 20 = .ok (.goto 4, 3) := by decide +kernel
theorem dX14_isPlugged_24 : decode cX14_isPlugged 24 = .ok (.ireturn, 1) := by decide +kernel
set_option maxRecDepth 20000 in
theorem ggX14_runs_Jx4a65c_get_915e3 : GoodIn wsX14_runs wsJx4a65c_get_915e3 := goodIn_r _ [7, 8, 9, 10, 11, 12, 13, 14, 15, 16, 17, 18, 19, 6, 20, 21, 57, 58, 59] (by decide +kernel) (by decide +kernel)
set_option maxRecDepth 20000 in
theorem gX14_runs_Jx4a65c_get_915e3 : GoodIn wsX14_runs (wsV RX14 76 RJx4a65c yJx4a65c_get_915e3 wsJx4a65c_get_915e3) := goodIn_app (goodIn_of _ (by decide +kernel)) ggX14_runs_Jx4a65c_get_915e3
theorem dX14_runs_0 : decode cX14_runs 0 = .ok (.bipush 104, 2) := by decide +kernel
theorem dX14_runs_2 : decode cX14_runs 2 = .ok (.istore_n 2, 1) := by decide +kernel
theorem dX14_runs_3 : decode cX14_runs 3 = .ok (.iload_n 1, 1) := by decide +kernel
theorem dX14_runs_4 : decode cX14_runs 4 = .ok (.istore_n 3, 1) := by decide +kernel
theorem dX14_runs_5 : decode cX14_runs 5 = .ok (.iload_n 3, 1) := by decide +kernel
theorem dX14_runs_6 : decode cX14_runs 6 = .ok (.iconst (-1), 1) := by decide +kernel
theorem dX14_runs_7 : decode cX14_runs 7 = .ok (.if_icmp .eq 69, 3) := by decide +kernel
theorem dX14_runs_10 : decode cX14_runs 10 = .ok (.aload_n 0, 1) := by decide +kernel
theorem dX14_runs_11 : decode cX14_runs 11 = .ok (.getfield 10, 3) := by decide +kernel
theorem dX14_runs_14 : decode cX14_runs 14 = .ok (.iload_n 3, 1) := by decide +kernel
theorem dX14_runs_15 : decode cX14_runs 15 = .ok (.invokevirtual 76, 3) := by decide +kernel
theorem dX14_runs_18 : decode cX14_runs 18 = .ok (.checkcast 48, 3) := by decide +kernel
theorem dX14_runs_21 : decode cX14_runs 21 = .ok (.getfield 83, 3) := by decide +kernel
theorem dX14_runs_24 : decode cX14_runs 24 = .ok (.istore 4, 2) := by decide +kernel
theorem dX14_runs_26 : decode cX14_runs 26 = .ok (.iload 4, 2) := by decide +kernel
theorem dX14_runs_28 : decode cX14_runs 28 = .ok (.bipush 108, 2) := by decide +kernel
theorem dX14_runs_30 : decode cX14_runs 30 = .ok (.if_icmp .eq 9, 3) := by decide +kernel
theorem dX14_runs_33 : decode cX14_runs 33 = .ok (.iload_n 2, 1) := by decide +kernel
theorem dX14_runs_34 : decode cX14_runs 34 = .ok (.bipush 108, 2) := by decide +kernel
theorem dX14_runs_36 : decode cX14_runs 36 = .ok (.if_icmp .ne 8, 3) := by decide +kernel
theorem dX14_runs_44 : decode cX14_runs 44 = .ok (.iload 4, 2) := by decide +kernel
theorem dX14_runs_46 : decode cX14_runs 46 = .ok (.bipush 102, 2) := by decide +kernel
theorem dX14_runs_48 : decode cX14_runs 48 = .ok (.if_icmp .ne 8, 3) := by decide +kernel
theorem dX14_runs_56 : decode cX14_runs 56 = .ok (.iload_n 2, 1) := by decide +kernel
theorem dX14_runs_57 : decode cX14_runs 57 = .ok (.istore_n 2, 1) := by decide +kernel
theorem dX14_runs_58 : decode cX14_runs 58 = .ok (.aload_n 0, 1) := by decide +kernel
theorem dX14_runs_59 : decode cX14_runs 59 = .ok (.getfield 10, 3) := by decide +kernel
theorem dX14_runs_62 : decode cX14_runs 62 = .ok (.iload_n 3, 1) := by decide +kernel
theorem dX14_runs_63 : decode cX14_runs 63 = .ok (.invokevirtual 76, 3) := by decide +kernel
theorem dX14_runs_66 : decode cX14_runs 66 = .ok (.checkcast 48, 3) := by decide +kernel
theorem dX14_runs_69 : decode cX14_runs 69 = .ok (.getfield 80, 3) := by decide +kernel
theorem dX14_runs_72 : decode cX14_runs 72 = .ok (.istore_n 3, 1) := by decide +kernel
theorem dX14_runs_73 : decode cX14_runs 73 = .ok (.goto (-68), 3) := by decide +kernel
theorem dX14_runs_76 : decode cX14_runs 76 = .ok (.iload_n 2, 1) := by decide +kernel
theorem dX14_runs_77 : decode cX14_runs 77 = .ok (.ireturn, 1) := by decide +kernel
set_option maxRecDepth 20000 in
theorem ggX14_make_X14_in : GoodIn wsX14_make wsX14_in := goodIn_r _ [9] (by decide +kernel) (by decide +kernel)
set_option maxRecDepth 20000 in
theorem gX14_make_X14_in : GoodIn wsX14_make (va_wsS RX14 68 yX14_in wsX14_in) := goodIn_app (goodIn_of _ (by decide +kernel)) ggX14_make_X14_in
set_option maxRecDepth 20000 in
theorem ggX14_make_Jx4a65c_size_8abf5 : GoodIn wsX14_make wsJx4a65c_size_8abf5 := goodIn_r _ [14, 15, 126, 127, 128] (by decide +kernel) (by decide +kernel)
set_option maxRecDepth 20000 in
theorem gX14_make_Jx4a65c_size_8abf5 : GoodIn wsX14_make (wsV RX14 64 RJx4a65c yJx4a65c_size_8abf5 wsJx4a65c_size_8abf5) := goodIn_app (goodIn_of _ (by decide +kernel)) ggX14_make_Jx4a65c_size_8abf5
set_option maxRecDepth 20000 in
theorem ggX14_make_X10_init : GoodIn wsX14_make wsX10_init := goodIn_r _ [18, 19, 20, 21, 22, 23, 24, 25, 26, 27, 28, 29, 30, 31, 32, 33, 34, 35, 36, 110, 111, 112, 113, 114, 115, 116, 117, 118, 119, 120, 121, 122, 123, 124, 125] (by decide +kernel) (by decide +kernel)
set_option maxRecDepth 20000 in
theorem gX14_make_X10_init : GoodIn wsX14_make (wsX10_init) := ggX14_make_X10_init
set_option maxRecDepth 20000 in
theorem ggX14_make_Jx4a65c_add_9ea2d : GoodIn wsX14_make wsJx4a65c_add_9ea2d := goodIn_r _ [40, 41, 42, 43, 15, 44, 45, 46, 13, 47, 48, 49, 50, 51, 52, 53, 54, 55, 56, 57, 58, 59, 60, 61, 62, 63, 64, 65, 66, 67, 68, 69, 70, 71, 72, 73, 74, 75, 76, 77, 78, 79, 80, 81, 82, 83, 84, 85, 86, 87, 88, 89, 90, 126, 127, 128] (by decide +kernel) (by decide +kernel)
set_option maxRecDepth 20000 in
theorem gX14_make_Jx4a65c_add_9ea2d : GoodIn wsX14_make (wsV RX14 57 RJx4a65c yJx4a65c_add_9ea2d wsJx4a65c_add_9ea2d) := goodIn_app (goodIn_of _ (by decide +kernel)) ggX14_make_Jx4a65c_add_9ea2d
theorem dX14_make_0 : decode cX14_make 0 = .ok (.iload_n 1, 1) := by decide +kernel
theorem dX14_make_1 : decode cX14_make 1 = .ok (.bipush 108, 2) := by decide +kernel
theorem dX14_make_3 : decode cX14_make 3 = .ok (.if_icmp .eq 15, 3) := by decide +kernel
theorem dX14_make_6 : decode cX14_make 6 = .ok (.iload_n 1, 1) := by decide +kernel
theorem dX14_make_7 : decode cX14_make 7 = .ok (.bipush 102, 2) := by decide +kernel
theorem dX14_make_9 : decode cX14_make 9 = .ok (.if_icmp .eq 9, 3) := by decide +kernel
theorem dX14_make_12 : decode cX14_make 12 = .ok (.iload_n 1, 1) := by decide +kernel
theorem dX14_make_13 : decode cX14_make 13 = .ok (.bipush 104, 2) := by decide +kernel
theorem dX14_make_15 : decode cX14_make 15 = .ok (.if_icmp .ne 36, 3) := by decide +kernel
theorem dX14_make_18 : decode cX14_make 18 = .ok (.iload_n 2, 1) := by decide +kernel
theorem dX14_make_19 : decode cX14_make 19 = .ok (.iconst 0, 1) := by decide +kernel
theorem dX14_make_20 : decode cX14_make 20 = .ok (.iconst 4, 1) := by decide +kernel
theorem dX14_make_21 : decode cX14_make 21 = .ok (.invokestatic 68, 3) := by decide +kernel
theorem dX14_make_24 : decode cX14_make 24 = .ok (.ifCond .eq 27, 3) := by decide +kernel
theorem dX14_make_27 : decode cX14_make 27 = .ok (.iload_n 3, 1) := by decide +kernel
theorem dX14_make_28 : decode cX14_make 28 = .ok (.iconst 1, 1) := by decide +kernel
theorem dX14_make_29 : decode cX14_make 29 = .ok (.iconst 5, 1) := by decide +kernel
theorem dX14_make_30 : decode cX14_make 30 = .ok (.invokestatic 68, 3) := by decide +kernel
theorem dX14_make_33 : decode cX14_make 33 = .ok (.ifCond .eq 18, 3) := by decide +kernel
theorem dX14_make_36 : decode cX14_make 36 = .ok (.iload 5, 2) := by decide +kernel
theorem dX14_make_38 : decode cX14_make 38 = .ok (.iconst 0, 1) := by decide +kernel
theorem dX14_make_39 : decode cX14_make 39 = .ok (.bipush 99, 2) := by decide +kernel
theorem dX14_make_41 : decode cX14_make 41 = .ok (.invokestatic 68, 3) := by decide +kernel
theorem dX14_make_44 : decode cX14_make 44 = .ok (.ifCond .eq 7, 3) := by decide +kernel
theorem dX14_make_47 : decode cX14_make 47 = .ok (.iconst 1, 1) := by decide +kernel
theorem dX14_make_48 : decode cX14_make 48 = .ok (.goto 4, 3) := by decide +kernel
theorem dX14_make_51 : decode cX14_make 51 = .ok (.iconst 0, 1) := by decide +kernel
theorem dX14_make_52 : decode cX14_make 52 = .ok (.istore 6, 2) := by decide +kernel
theorem dX14_make_54 : decode cX14_make 54 = .ok (.aload_n 0, 1) := by decide +kernel
theorem dX14_make_55 : decode cX14_make 55 = .ok (.iload 6, 2) := by decide +kernel
theorem dX14_make_57 : decode cX14_make 57 = .ok (.ifCond .eq 13, 3) := by decide +kernel
theorem dX14_make_60 : decode cX14_make 60 = .ok (.iload_n 1, 1) := by decide +kernel
theorem dX14_make_61 : decode cX14_make 61 = .ok (.bipush 108, 2) := by decide +kernel
theorem dX14_make_63 : decode cX14_make 63 = .ok (.if_icmp .ne 11, 3) := by decide +kernel
theorem dX14_make_66 : decode cX14_make 66 = .ok (.iload_n 2, 1) := by decide +kernel
theorem dX14_make_67 : decode cX14_make 67 = .ok (.ifCond .le 7, 3) := by decide +kernel
theorem dX14_make_70 : decode cX14_make 70 = .ok (.iconst 1, 1) := by decide +kernel
theorem dX14_make_71 : decode cX14_make 71 = .ok (.goto 20, 3) := by decide +kernel
theorem dX14_make_74 : decode cX14_make 74 = .ok (.aload_n 0, 1) := by decide +kernel
theorem dX14_make_75 : decode cX14_make 75 = .ok (.getfield 10, 3) := by decide +kernel
theorem dX14_make_78 : decode cX14_make 78 = .ok (.invokevirtual 64, 3) := by decide +kernel
theorem dX14_make_81 : decode cX14_make 81 = .ok (.bipush 16, 2) := by decide +kernel
theorem dX14_make_83 : decode cX14_make 83 = .ok (.if_icmp .ne 7, 3) := by decide +kernel
theorem dX14_make_90 : decode cX14_make 90 = .ok (.iconst 0, 1) := by decide +kernel
theorem dX14_make_91 : decode cX14_make 91 = .ok (.putfield 61, 3) := by decide +kernel
theorem dX14_make_94 : decode cX14_make 94 = .ok (.aload_n 0, 1) := by decide +kernel
theorem dX14_make_95 : decode cX14_make 95 = .ok (.getfield 61, 3) := by decide +kernel
theorem dX14_make_98 : decode cX14_make 98 = .ok (.ifCond .le 5, 3) := by decide +kernel
theorem dX14_make_101 : decode cX14_make 101 = .ok (.iconst 0, 1) := by decide +kernel
theorem dX14_make_102 : decode cX14_make 102 = .ok (.ireturn, 1) := by decide +kernel
theorem dX14_make_103 : decode cX14_make 103 = .ok (.aload_n 0, 1) := by decide +kernel
theorem dX14_make_104 : decode cX14_make 104 = .ok (.getfield 10, 3) := by decide +kernel
theorem dX14_make_107 : decode cX14_make 107 = .ok (.new 48, 3) := by decide +kernel
theorem dX14_make_110 : decode cX14_make 110 = .ok (.dup, 1) := by decide +kernel
theorem dX14_make_111 : decode cX14_make 111 = .ok (.iload_n 1, 1) := by decide +kernel
theorem dX14_make_112 : decode cX14_make 112 = .ok (.iload_n 2, 1) := by decide +kernel
theorem dX14_make_113 : decode cX14_make 113 = .ok (.iload_n 3, 1) := by decide +kernel
theorem dX14_make_114 : decode cX14_make 114 = .ok (.iload 4, 2) := by decide +kernel
theorem dX14_make_116 : decode cX14_make 116 = .ok (.iload 5, 2) := by decide +kernel
theorem dX14_make_118 : decode cX14_make 118 = .ok (.invokespecial 50, 3) := by decide +kernel
theorem dX14_make_121 : decode cX14_make 121 = .ok (.invokevirtual 57, 3) := by decide +kernel
theorem dX14_make_124 : decode cX14_make 124 = .ok (.pop, 1) := by decide +kernel
theorem dX14_make_125 : decode cX14_make 125 = .ok (.aload_n 0, 1) := by decide +kernel
theorem dX14_make_126 : decode cX14_make 126 = .ok (.getfield 10, 3) := by decide +kernel
theorem dX14_make_129 : decode cX14_make 129 = .ok (.invokevirtual 64, 3) := by decide +kernel
theorem dX14_make_132 : decode cX14_make 132 = .ok (.iconst 1, 1) := by decide +kernel
theorem dX14_make_133 : decode cX14_make 133 = .ok (.isub, 1) := by decide +kernel
theorem dX14_make_134 : decode cX14_make 134 = .ok (.ireturn, 1) := by decide +kernel
set_option maxRecDepth 20000 in
theorem ggX14_endpoint_X14_noDevice : GoodIn wsX14_endpoint wsX14_noDevice := goodIn_r _ [11, 3, 12, 13, 14, 10, 15, 1, 16, 17, 18, 19, 20, 21, 22, 23, 24, 72, 73, 74, 75, 76, 77, 78, 79, 80, 81, 82, 83, 84, 85, 86, 87, 88, 89, 90, 112, 113, 114] (by decide +kernel) (by decide +kernel)
set_option maxRecDepth 20000 in
theorem gX14_endpoint_X14_noDevice : GoodIn wsX14_endpoint (wsV RX14 90 RX14 yX14_noDevice wsX14_noDevice) := goodIn_app (goodIn_of _ (by decide +kernel)) ggX14_endpoint_X14_noDevice
set_option maxRecDepth 20000 in
theorem ggX14_endpoint_Jx4a65c_get_915e3 : GoodIn wsX14_endpoint wsJx4a65c_get_915e3 := goodIn_r _ [28, 21, 29, 30, 31, 32, 33, 34, 35, 36, 37, 38, 39, 19, 40, 41, 112, 113, 114] (by decide +kernel) (by decide +kernel)
set_option maxRecDepth 20000 in
theorem gX14_endpoint_Jx4a65c_get_915e3 : GoodIn wsX14_endpoint (wsV RX14 76 RJx4a65c yJx4a65c_get_915e3 wsJx4a65c_get_915e3) := goodIn_app (goodIn_of _ (by decide +kernel)) ggX14_endpoint_Jx4a65c_get_915e3
set_option maxRecDepth 20000 in
theorem ggX14_endpoint_X14_in : GoodIn wsX14_endpoint wsX14_in := goodIn_r _ [24] (by decide +kernel) (by decide +kernel)
set_option maxRecDepth 20000 in
theorem gX14_endpoint_X14_in : GoodIn wsX14_endpoint (va_wsS RX14 68 yX14_in wsX14_in) := goodIn_app (goodIn_of _ (by decide +kernel)) ggX14_endpoint_X14_in
set_option maxRecDepth 20000 in
theorem ggX14_endpoint_X14_isPlugged : GoodIn wsX14_endpoint wsX14_isPlugged := goodIn_r _ [45, 1, 2, 25, 26, 27, 19, 28, 21, 29, 30, 31, 32, 33, 34, 35, 36, 37, 38, 39, 40, 41, 72, 73, 74, 75, 76, 77, 78, 79, 80, 81, 82, 83, 84, 85, 86, 87, 88, 89, 90, 91, 92, 93, 94, 95, 96, 97, 98, 99, 100, 101, 102, 103, 104, 105, 106, 112, 113, 114] (by decide +kernel) (by decide +kernel)
set_option maxRecDepth 20000 in
theorem gX14_endpoint_X14_isPlugged : GoodIn wsX14_endpoint (wsV RX14 93 RX14 yX14_isPlugged wsX14_isPlugged) := goodIn_app (goodIn_of _ (by decide +kernel)) ggX14_endpoint_X14_isPlugged
theorem dX14_endpoint_0 : decode cX14_endpoint 0 = .ok (.aload_n 0, 1) := by decide +kernel
theorem dX14_endpoint_1 : decode cX14_endpoint 1 = .ok (.iload_n 1, 1) := by decide +kernel
theorem dX14_endpoint_2 : decode cX14_endpoint 2 = .ok (.invokevirtual 90, 3) := by decide +kernel
theorem dX14_endpoint_5 : decode cX14_endpoint 5 = .ok (.ifCond .eq 5, 3) := by decide +kernel
theorem dX14_endpoint_8 : decode cX14_endpoint 8 = .ok (.iconst 0, 1) := by decide +kernel
theorem dX14_endpoint_9 : decode cX14_endpoint 9 = .ok (.ireturn, 1) := by decide +kernel
theorem dX14_endpoint_10 : decode cX14_endpoint 10 = .ok (.aload_n 0, 1) := by decide +kernel
theorem dX14_endpoint_11 : decode cX14_endpoint 11 = .ok (.getfield 10, 3) := by decide +kernel
theorem dX14_endpoint_14 : decode cX14_endpoint 14 = .ok (.iload_n 1, 1) := by decide +kernel
theorem dX14_endpoint_15 : decode cX14_endpoint 15 = .ok (.invokevirtual 76, 3) := by decide +kernel
theorem dX14_endpoint_18 : decode cX14_endpoint 18 = .ok (.checkcast 48, 3) := by decide +kernel
theorem dX14_endpoint_21 : decode cX14_endpoint 21 = .ok (.astore 5, 2) := by decide +kernel
theorem dX14_endpoint_23 : decode cX14_endpoint 23 = .ok (.aload_n 0, 1) := by decide +kernel
theorem dX14_endpoint_24 : decode cX14_endpoint 24 = .ok (.iload_n 2, 1) := by decide +kernel
theorem dX14_endpoint_25 : decode cX14_endpoint 25 = .ok (.iconst 1, 1) := by decide +kernel
theorem dX14_endpoint_26 : decode cX14_endpoint 26 = .ok (.iconst 3, 1) := by decide +kernel
theorem dX14_endpoint_27 : decode cX14_endpoint 27 = .ok (.invokestatic 68, 3) := by decide +kernel
theorem dX14_endpoint_30 : decode cX14_endpoint 30 = .ok (.ifCond .eq 14, 3) := by decide +kernel
theorem dX14_endpoint_33 : decode cX14_endpoint 33 = .ok (.iload 4, 2) := by decide +kernel
theorem dX14_endpoint_35 : decode cX14_endpoint 35 = .ok (.iconst 1, 1) := by decide +kernel
theorem dX14_endpoint_36 : decode cX14_endpoint 36 = .ok (.bipush 8, 2) := by decide +kernel
theorem dX14_endpoint_38 : decode cX14_endpoint 38 = .ok (.invokestatic 68, 3) := by decide +kernel
theorem dX14_endpoint_41 : decode cX14_endpoint 41 = .ok (.ifCond .ne 7, 3) := by decide +kernel
theorem dX14_endpoint_44 : decode cX14_endpoint 44 = .ok (.iconst 2, 1) := by decide +kernel
theorem dX14_endpoint_45 : decode cX14_endpoint 45 = .ok (.goto 26, 3) := by decide +kernel
theorem dX14_endpoint_48 : decode cX14_endpoint 48 = .ok (.aload_n 0, 1) := by decide +kernel
theorem dX14_endpoint_49 : decode cX14_endpoint 49 = .ok (.iload_n 1, 1) := by decide +kernel
theorem dX14_endpoint_50 : decode cX14_endpoint 50 = .ok (.invokevirtual 93, 3) := by decide +kernel
theorem dX14_endpoint_53 : decode cX14_endpoint 53 = .ok (.ifCond .ne 13, 3) := by decide +kernel
theorem dX14_endpoint_66 : decode cX14_endpoint 66 = .ok (.iconst 3, 1) := by decide +kernel
theorem dX14_endpoint_67 : decode cX14_endpoint 67 = .ok (.goto 4, 3) := by decide +kernel
theorem dX14_endpoint_71 : decode cX14_endpoint 71 = .ok (.putfield 61, 3) := by decide +kernel
theorem dX14_endpoint_74 : decode cX14_endpoint 74 = .ok (.aload_n 0, 1) := by decide +kernel
theorem dX14_endpoint_75 : decode cX14_endpoint 75 = .ok (.getfield 61, 3) := by decide +kernel
theorem dX14_endpoint_78 : decode cX14_endpoint 78 = .ok (.ifCond .le 5, 3) := by decide +kernel
theorem dX14_endpoint_81 : decode cX14_endpoint 81 = .ok (.iconst 0, 1) := by decide +kernel
theorem dX14_endpoint_82 : decode cX14_endpoint 82 = .ok (.ireturn, 1) := by decide +kernel
set_option maxRecDepth 20000 in
theorem ggX14_plug_X14_isDevice : GoodIn wsX14_plug wsX14_isDevice := goodIn_r _ [8, 1, 9, 10, 11, 12, 13, 14, 15, 16, 7, 17, 75, 76, 77, 78, 79, 80, 81, 82, 83, 84, 85, 86, 87, 88, 89, 90, 91, 92, 93, 110, 111, 112] (by decide +kernel) (by decide +kernel)
set_option maxRecDepth 20000 in
theorem gX14_plug_X14_isDevice : GoodIn wsX14_plug (wsV RX14 72 RX14 yX14_isDevice wsX14_isDevice) := goodIn_app (goodIn_of _ (by decide +kernel)) ggX14_plug_X14_isDevice
set_option maxRecDepth 20000 in
theorem ggX14_plug_Jx4a65c_get_915e3 : GoodIn wsX14_plug wsJx4a65c_get_915e3 := goodIn_r _ [21, 14, 22, 23, 24, 25, 26, 27, 28, 29, 30, 31, 32, 12, 33, 34, 110, 111, 112] (by decide +kernel) (by decide +kernel)
set_option maxRecDepth 20000 in
theorem gX14_plug_Jx4a65c_get_915e3 : GoodIn wsX14_plug (wsV RX14 76 RJx4a65c yJx4a65c_get_915e3 wsJx4a65c_get_915e3) := goodIn_app (goodIn_of _ (by decide +kernel)) ggX14_plug_Jx4a65c_get_915e3
set_option maxRecDepth 20000 in
theorem ggX14_plug_X14_in : GoodIn wsX14_plug wsX14_in := goodIn_r _ [17] (by decide +kernel) (by decide +kernel)
set_option maxRecDepth 20000 in
theorem gX14_plug_X14_in : GoodIn wsX14_plug (va_wsS RX14 68 yX14_in wsX14_in) := goodIn_app (goodIn_of _ (by decide +kernel)) ggX14_plug_X14_in
set_option maxRecDepth 20000 in
theorem ggX14_plug_Jx4a65c_iterator_32c93 : GoodIn wsX14_plug wsJx4a65c_iterator_32c93 := goodIn_r _ [38, 39, 40, 41, 42, 43, 44, 45, 46, 47, 48, 49, 50, 51, 52, 113, 114, 115, 116, 110, 111, 112] (by decide +kernel) (by decide +kernel)
set_option maxRecDepth 20000 in
theorem gX14_plug_Jx4a65c_iterator_32c93 : GoodIn wsX14_plug (wsV RX14 108 RJx4a65c yJx4a65c_iterator_32c93 wsJx4a65c_iterator_32c93) := goodIn_app (goodIn_of _ (by decide +kernel)) ggX14_plug_Jx4a65c_iterator_32c93
set_option maxRecDepth 20000 in
theorem ggX14_plug_Jx35411_hasNext_aae02 : GoodIn wsX14_plug wsJx35411_hasNext_aae02 := goodIn_r _ [56, 57, 45, 113, 114, 115, 116, 110, 111, 112] (by decide +kernel) (by decide +kernel)
set_option maxRecDepth 20000 in
theorem gX14_plug_Jx35411_hasNext_aae02_f112Jx35411 : GoodIn wsX14_plug (va_wsF RX14 112 RJx35411 ⟨"java/util/Iterator", "hasNext", "()Z"⟩ yJx35411_hasNext_aae02 wsJx35411_hasNext_aae02) := goodIn_app (goodIn_of _ (by decide +kernel)) ggX14_plug_Jx35411_hasNext_aae02
set_option maxRecDepth 20000 in
theorem ggX14_plug_Jx35411_next_0502b : GoodIn wsX14_plug wsJx35411_next_0502b := goodIn_r _ [61, 57, 45, 62, 49, 63, 64, 65, 41, 66, 50, 51, 52, 113, 114, 115, 116, 110, 111, 112] (by decide +kernel) (by decide +kernel)
set_option maxRecDepth 20000 in
theorem gX14_plug_Jx35411_next_0502b_f118Jx35411 : GoodIn wsX14_plug (va_wsF RX14 118 RJx35411 ⟨"java/util/Iterator", "next", "()Ljava/lang/Object;"⟩ yJx35411_next_0502b wsJx35411_next_0502b) := goodIn_app (goodIn_of _ (by decide +kernel)) ggX14_plug_Jx35411_next_0502b
set_option maxRecDepth 20000 in
theorem ggX14_plug_X14_isPlugged : GoodIn wsX14_plug wsX14_isPlugged := goodIn_r _ [70, 1, 2, 18, 19, 20, 12, 21, 14, 22, 23, 24, 25, 26, 27, 28, 29, 30, 31, 32, 33, 34, 75, 76, 77, 78, 79, 80, 81, 82, 83, 84, 85, 86, 87, 88, 89, 90, 91, 92, 93, 94, 95, 96, 97, 98, 99, 100, 101, 102, 103, 104, 105, 106, 107, 108, 109, 110, 111, 112] (by decide +kernel) (by decide +kernel)
set_option maxRecDepth 20000 in
theorem gX14_plug_X14_isPlugged : GoodIn wsX14_plug (wsV RX14 93 RX14 yX14_isPlugged wsX14_isPlugged) := goodIn_app (goodIn_of _ (by decide +kernel)) ggX14_plug_X14_isPlugged
theorem dX14_plug_0 : decode cX14_plug 0 = .ok (.aload_n 0, 1) := by decide +kernel
theorem dX14_plug_1 : decode cX14_plug 1 = .ok (.aload_n 0, 1) := by decide +kernel
theorem dX14_plug_2 : decode cX14_plug 2 = .ok (.iload_n 1, 1) := by decide +kernel
theorem dX14_plug_3 : decode cX14_plug 3 = .ok (.invokevirtual 72, 3) := by decide +kernel
theorem dX14_plug_6 : decode cX14_plug 6 = .ok (.ifCond .eq 35, 3) := by decide +kernel
theorem dX14_plug_9 : decode cX14_plug 9 = .ok (.aload_n 0, 1) := by decide +kernel
theorem dX14_plug_10 : decode cX14_plug 10 = .ok (.iload_n 2, 1) := by decide +kernel
theorem dX14_plug_11 : decode cX14_plug 11 = .ok (.invokevirtual 72, 3) := by decide +kernel
theorem dX14_plug_14 : decode cX14_plug 14 = .ok (.ifCond .eq 27, 3) := by decide +kernel
theorem dX14_plug_17 : decode cX14_plug 17 = .ok (.iload_n 3, 1) := by decide +kernel
theorem dX14_plug_18 : decode cX14_plug 18 = .ok (.iconst 0, 1) := by decide +kernel
theorem dX14_plug_19 : decode cX14_plug 19 = .ok (.aload_n 0, 1) := by decide +kernel

