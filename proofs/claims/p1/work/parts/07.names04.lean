theorem dX9_hubCost_26 : decode cX9_hubCost 26 = .ok (.iload_n 1, 1) := by decide +kernel
theorem dX9_hubCost_27 : decode cX9_hubCost 27 = .ok (.imul, 1) := by decide +kernel
theorem dX9_hubCost_28 : decode cX9_hubCost 28 = .ok (.iadd, 1) := by decide +kernel
theorem dX9_hubCost_29 : decode cX9_hubCost 29 = .ok (.ireturn, 1) := by decide +kernel
set_option maxRecDepth 20000 in
theorem ggX9_firstClosedPipe_X5_isOpen : GoodIn wsX9_firstClosedPipe wsX5_isOpen := goodIn_r _ [5, 6, 20, 21, 22, 23, 24, 25, 26, 27, 28, 29, 30, 31, 32, 33] (by decide +kernel) (by decide +kernel)
set_option maxRecDepth 20000 in
theorem gX9_firstClosedPipe_X5_isOpen_n536 : GoodIn wsX9_firstClosedPipe (wsX5_isOpen) := ggX9_firstClosedPipe_X5_isOpen
theorem dX9_firstClosedPipe_0 : decode cX9_firstClosedPipe 0 = .ok (.iconst 0, 1) := by decide +kernel
theorem dX9_firstClosedPipe_1 : decode cX9_firstClosedPipe 1 = .ok (.istore_n 1, 1) := by decide +kernel
theorem dX9_firstClosedPipe_2 : decode cX9_firstClosedPipe 2 = .ok (.iload_n 1, 1) := by decide +kernel
theorem dX9_firstClosedPipe_3 : decode cX9_firstClosedPipe 3 = .ok (.bipush 12, 2) := by decide +kernel
theorem dX9_firstClosedPipe_5 : decode cX9_firstClosedPipe 5 = .ok (.if_icmp .ge 28, 3) := by decide +kernel
theorem dX9_firstClosedPipe_8 : decode cX9_firstClosedPipe 8 = .ok (.aload_n 0, 1) := by decide +kernel
theorem dX9_firstClosedPipe_9 : decode cX9_firstClosedPipe 9 = .ok (.getfield 24, 3) := by decide +kernel
theorem dX9_firstClosedPipe_12 : decode cX9_firstClosedPipe 12 = .ok (.iload_n 1, 1) := by decide +kernel
theorem dX9_firstClosedPipe_13 : decode cX9_firstClosedPipe 13 = .ok (.aaload, 1) := by decide +kernel
theorem dX9_firstClosedPipe_14 : decode cX9_firstClosedPipe 14 = .ok (.invokevirtual 536, 3) := by decide +kernel
theorem dX9_firstClosedPipe_17 : decode cX9_firstClosedPipe 17 = .ok (.ifCond .ne 10, 3) := by decide +kernel
theorem dX9_firstClosedPipe_20 : decode cX9_firstClosedPipe 20 = .ok (.aload_n 0, 1) := by decide +kernel
theorem dX9_firstClosedPipe_21 : decode cX9_firstClosedPipe 21 = .ok (.getfield 24, 3) := by decide +kernel
theorem dX9_firstClosedPipe_24 : decode cX9_firstClosedPipe 24 = .ok (.iload_n 1, 1) := by decide +kernel
theorem dX9_firstClosedPipe_25 : decode cX9_firstClosedPipe 25 = .ok (.aaload, 1) := by decide +kernel
theorem dX9_firstClosedPipe_26 : decode cX9_firstClosedPipe 26 = .ok (.areturn, 1) := by decide +kernel
theorem dX9_firstClosedPipe_27 : decode cX9_firstClosedPipe 27 = .ok (.iinc 1 1, 3) := by decide +kernel
theorem dX9_firstClosedPipe_30 : decode cX9_firstClosedPipe 30 = .ok (.goto (-28), 3) := by decide +kernel
theorem dX9_firstClosedPipe_33 : decode cX9_firstClosedPipe 33 = .ok (.aconst_null, 1) := by decide +kernel
theorem dX9_firstClosedPipe_34 : decode cX9_firstClosedPipe 34 = .ok (.areturn, 1) := by decide +kernel
set_option maxRecDepth 20000 in
theorem ggX9_closeBy_X9_reserveFor : GoodIn wsX9_closeBy wsX9_reserveFor := goodIn_ca (goodIn_r _ [5, 6, 7, 8, 4, 9, 10, 11, 12, 13, 14, 15, 16, 17, 18, 19, 20, 21, 22, 23, 24, 70, 71, 72, 73, 74, 75, 76, 77, 78, 79, 80, 81, 82, 83, 84, 85, 86, 87, 88, 89, 90, 91, 92, 93, 94, 95, 96, 97, 98, 99, 100, 101, 102, 103, 104, 105, 106, 107, 108, 109, 110, 111, 56, 57, 58, 59, 60, 61, 62, 63, 64, 65, 66, 67, 68, 69, 112, 113, 114, 115, 116] (by decide +kernel) (by decide +kernel)) (goodIn_sub (fun _ h => List.mem_cons_of_mem _ (List.mem_append_right _ h)) (by decide +kernel))
set_option maxRecDepth 20000 in
theorem gX9_closeBy_X9_reserveFor : GoodIn wsX9_closeBy (wsV RX9 329 RX9 yX9_reserveFor wsX9_reserveFor) := goodIn_app (goodIn_of _ (by decide +kernel)) ggX9_closeBy_X9_reserveFor
set_option maxRecDepth 20000 in
theorem ggX9_closeBy_X9_endFirst : GoodIn wsX9_closeBy wsX9_endFirst := goodIn_ca (goodIn_r _ [28, 29, 30, 14, 31, 32, 33, 34, 35, 36, 37, 38, 39, 40, 41, 42, 43, 44, 45, 46, 47, 48, 49, 50, 99, 100, 101, 102, 103, 104, 105, 106, 107, 108, 109, 110, 111, 56, 57, 58, 59, 60, 61, 62, 63, 64, 65, 66, 67, 68, 69, 117, 118, 119, 120, 121, 122, 123, 124, 125, 126, 127, 128, 129, 130, 131, 132] (by decide +kernel) (by decide +kernel)) (goodIn_sub (fun _ h => List.mem_cons_of_mem _ (List.mem_append_right _ h)) (by decide +kernel))
set_option maxRecDepth 20000 in
theorem gX9_closeBy_X9_endFirst : GoodIn wsX9_closeBy (wsV RX9 391 RX9 yX9_endFirst wsX9_endFirst) := goodIn_app (goodIn_of _ (by decide +kernel)) ggX9_closeBy_X9_endFirst
set_option maxRecDepth 20000 in
theorem ggX9_closeBy_X5_detach : GoodIn wsX9_closeBy wsX5_detach := goodIn_r _ [53, 54, 55, 56, 57, 58, 59, 60, 61, 62, 63, 64, 65, 66, 67, 68, 69, 70, 71, 72, 73, 74, 75, 76, 77, 78] (by decide +kernel) (by decide +kernel)
set_option maxRecDepth 20000 in
theorem gX9_closeBy_X5_detach_n561 : GoodIn wsX9_closeBy (wsX5_detach) := ggX9_closeBy_X5_detach
theorem dX9_closeBy_0 : decode cX9_closeBy 0 = .ok (.aload_n 1, 1) := by decide +kernel
theorem dX9_closeBy_1 : decode cX9_closeBy 1 = .ok (.getfield 546, 3) := by decide +kernel
theorem dX9_closeBy_4 : decode cX9_closeBy 4 = .ok (.astore_n 3, 1) := by decide +kernel
theorem dX9_closeBy_5 : decode cX9_closeBy 5 = .ok (.aload_n 1, 1) := by decide +kernel
theorem dX9_closeBy_6 : decode cX9_closeBy 6 = .ok (.getfield 350, 3) := by decide +kernel
theorem dX9_closeBy_9 : decode cX9_closeBy 9 = .ok (.astore 4, 2) := by decide +kernel
theorem dX9_closeBy_11 : decode cX9_closeBy 11 = .ok (.aload_n 3, 1) := by decide +kernel
theorem dX9_closeBy_12 : decode cX9_closeBy 12 = .ok (.ifnull 17, 3) := by decide +kernel
theorem dX9_closeBy_15 : decode cX9_closeBy 15 = .ok (.aload 4, 2) := by decide +kernel
theorem dX9_closeBy_17 : decode cX9_closeBy 17 = .ok (.ifnull 12, 3) := by decide +kernel
theorem dX9_closeBy_20 : decode cX9_closeBy 20 = .ok (.aload_n 0, 1) := by decide +kernel
theorem dX9_closeBy_21 : decode cX9_closeBy 21 = .ok (.aload_n 1, 1) := by decide +kernel
theorem dX9_closeBy_22 : decode cX9_closeBy 22 = .ok (.aload_n 3, 1) := by decide +kernel
theorem dX9_closeBy_23 : decode cX9_closeBy 23 = .ok (.aload 4, 2) := by decide +kernel
theorem dX9_closeBy_25 : decode cX9_closeBy 25 = .ok (.iconst (-1), 1) := by decide +kernel
theorem dX9_closeBy_26 : decode cX9_closeBy 26 = .ok (.invokevirtual 329, 3) := by decide +kernel
theorem dX9_closeBy_29 : decode cX9_closeBy 29 = .ok (.aload_n 1, 1) := by decide +kernel
theorem dX9_closeBy_30 : decode cX9_closeBy 30 = .ok (.getfield 356, 3) := by decide +kernel
theorem dX9_closeBy_33 : decode cX9_closeBy 33 = .ok (.istore 5, 2) := by decide +kernel
theorem dX9_closeBy_35 : decode cX9_closeBy 35 = .ok (.iconst 0, 1) := by decide +kernel
theorem dX9_closeBy_36 : decode cX9_closeBy 36 = .ok (.istore 6, 2) := by decide +kernel
theorem dX9_closeBy_38 : decode cX9_closeBy 38 = .ok (.iload 6, 2) := by decide +kernel
theorem dX9_closeBy_40 : decode cX9_closeBy 40 = .ok (.iload 5, 2) := by decide +kernel
theorem dX9_closeBy_42 : decode cX9_closeBy 42 = .ok (.if_icmp .ge 15, 3) := by decide +kernel
theorem dX9_closeBy_45 : decode cX9_closeBy 45 = .ok (.aload_n 0, 1) := by decide +kernel
theorem dX9_closeBy_46 : decode cX9_closeBy 46 = .ok (.aload_n 1, 1) := by decide +kernel
theorem dX9_closeBy_47 : decode cX9_closeBy 47 = .ok (.iload_n 2, 1) := by decide +kernel
theorem dX9_closeBy_48 : decode cX9_closeBy 48 = .ok (.invokevirtual 391, 3) := by decide +kernel
theorem dX9_closeBy_51 : decode cX9_closeBy 51 = .ok (.iinc 6 1, 3) := by decide +kernel
theorem dX9_closeBy_54 : decode cX9_closeBy 54 = .ok (.goto (-16), 3) := by decide +kernel
theorem dX9_closeBy_57 : decode cX9_closeBy 57 = .ok (.aload_n 1, 1) := by decide +kernel
theorem dX9_closeBy_58 : decode cX9_closeBy 58 = .ok (.invokevirtual 561, 3) := by decide +kernel
theorem dX9_closeBy_61 : decode cX9_closeBy 61 = .ok (.iload 5, 2) := by decide +kernel
theorem dX9_closeBy_63 : decode cX9_closeBy 63 = .ok (.ireturn, 1) := by decide +kernel
set_option maxRecDepth 20000 in
theorem ggX9_endFirst_X5_transferAt : GoodIn wsX9_endFirst wsX5_transferAt := goodIn_r _ [5, 6, 7, 37, 38, 39, 40, 41, 42, 43, 44, 45, 46, 47, 48, 49, 50] (by decide +kernel) (by decide +kernel)
set_option maxRecDepth 20000 in
theorem gX9_endFirst_X5_transferAt_n374 : GoodIn wsX9_endFirst (wsX5_transferAt) := ggX9_endFirst_X5_transferAt
set_option maxRecDepth 20000 in
theorem ggX9_endFirst_X3_put : GoodIn wsX9_endFirst wsX3_put := goodIn_ca (goodIn_r _ [11, 12, 13, 14, 15, 16, 17, 18, 19, 57, 58, 59, 60, 61, 62, 63, 64, 65, 66] (by decide +kernel) (by decide +kernel)) (goodIn_sub (fun _ h => List.mem_cons_of_mem _ (List.mem_append_right _ h)) (by decide +kernel))
set_option maxRecDepth 20000 in
theorem gX9_endFirst_X3_put_n563 : GoodIn wsX9_endFirst (wsX3_put) := ggX9_endFirst_X3_put
set_option maxRecDepth 20000 in
theorem ggX9_endFirst_X5_dropFirst : GoodIn wsX9_endFirst wsX5_dropFirst := goodIn_r _ [22, 7, 23, 37, 38, 39, 40, 41, 42, 43, 44, 45, 46, 47, 48, 49, 50] (by decide +kernel) (by decide +kernel)
set_option maxRecDepth 20000 in
theorem gX9_endFirst_X5_dropFirst_n567 : GoodIn wsX9_endFirst (wsX5_dropFirst) := ggX9_endFirst_X5_dropFirst
theorem dX9_endFirst_0 : decode cX9_endFirst 0 = .ok (.aload_n 0, 1) := by decide +kernel
theorem dX9_endFirst_1 : decode cX9_endFirst 1 = .ok (.getfield 52, 3) := by decide +kernel
theorem dX9_endFirst_4 : decode cX9_endFirst 4 = .ok (.iload_n 2, 1) := by decide +kernel
theorem dX9_endFirst_5 : decode cX9_endFirst 5 = .ok (.aload_n 1, 1) := by decide +kernel
theorem dX9_endFirst_6 : decode cX9_endFirst 6 = .ok (.getfield 333, 3) := by decide +kernel
theorem dX9_endFirst_9 : decode cX9_endFirst 9 = .ok (.aload_n 1, 1) := by decide +kernel
theorem dX9_endFirst_10 : decode cX9_endFirst 10 = .ok (.iconst 0, 1) := by decide +kernel
theorem dX9_endFirst_11 : decode cX9_endFirst 11 = .ok (.invokevirtual 374, 3) := by decide +kernel
theorem dX9_endFirst_14 : decode cX9_endFirst 14 = .ok (.getfield 388, 3) := by decide +kernel
theorem dX9_endFirst_17 : decode cX9_endFirst 17 = .ok (.invokevirtual 563, 3) := by decide +kernel
theorem dX9_endFirst_20 : decode cX9_endFirst 20 = .ok (.aload_n 1, 1) := by decide +kernel
theorem dX9_endFirst_21 : decode cX9_endFirst 21 = .ok (.invokevirtual 567, 3) := by decide +kernel
theorem dX9_endFirst_24 : decode cX9_endFirst 24 = .ok (.return_, 1) := by decide +kernel
set_option maxRecDepth 20000 in
theorem ggX9_reserveFor_X9_hostCost : GoodIn wsX9_reserveFor wsX9_hostCost := goodIn_r _ [5] (by decide +kernel) (by decide +kernel)
set_option maxRecDepth 20000 in
theorem gX9_reserveFor_X9_hostCost : GoodIn wsX9_reserveFor (va_wsS RX9 301 yX9_hostCost wsX9_hostCost) := goodIn_app (goodIn_of _ (by decide +kernel)) ggX9_reserveFor_X9_hostCost
set_option maxRecDepth 20000 in
theorem ggX9_reserveFor_X9_hubCost : GoodIn wsX9_reserveFor wsX9_hubCost := goodIn_r _ [8] (by decide +kernel) (by decide +kernel)
set_option maxRecDepth 20000 in
theorem gX9_reserveFor_X9_hubCost : GoodIn wsX9_reserveFor (va_wsS RX9 304 yX9_hubCost wsX9_hubCost) := goodIn_app (goodIn_of _ (by decide +kernel)) ggX9_reserveFor_X9_hubCost
set_option maxRecDepth 20000 in
theorem ggX9_reserveFor_X5_isDueIn : GoodIn wsX9_reserveFor wsX5_isDueIn := goodIn_r _ [12, 13, 14, 63, 64, 65, 66, 67, 68, 69, 70, 71, 72, 73, 74, 75, 76] (by decide +kernel) (by decide +kernel)
set_option maxRecDepth 20000 in
theorem gX9_reserveFor_X5_isDueIn_n430 : GoodIn wsX9_reserveFor (wsX5_isDueIn) := ggX9_reserveFor_X5_isDueIn
set_option maxRecDepth 20000 in
theorem ggX9_reserveFor_X8_reserve : GoodIn wsX9_reserveFor wsX8_reserve := goodIn_ca (goodIn_r _ [18, 19, 20, 77, 78, 79, 80, 81] (by decide +kernel) (by decide +kernel)) (goodIn_sub (fun _ h => List.mem_cons_of_mem _ (List.mem_append_right _ h)) (by decide +kernel))
set_option maxRecDepth 20000 in
theorem gX9_reserveFor_X8_reserve_n570 : GoodIn wsX9_reserveFor (wsX8_reserve) := ggX9_reserveFor_X8_reserve
theorem dX9_reserveFor_0 : decode cX9_reserveFor 0 = .ok (.iload 4, 2) := by decide +kernel
theorem dX9_reserveFor_2 : decode cX9_reserveFor 2 = .ok (.aload_n 3, 1) := by decide +kernel
theorem dX9_reserveFor_3 : decode cX9_reserveFor 3 = .ok (.getfield 147, 3) := by decide +kernel
theorem dX9_reserveFor_6 : decode cX9_reserveFor 6 = .ok (.invokestatic 301, 3) := by decide +kernel
theorem dX9_reserveFor_9 : decode cX9_reserveFor 9 = .ok (.imul, 1) := by decide +kernel
theorem dX9_reserveFor_10 : decode cX9_reserveFor 10 = .ok (.istore 5, 2) := by decide +kernel
theorem dX9_reserveFor_12 : decode cX9_reserveFor 12 = .ok (.iload 4, 2) := by decide +kernel
theorem dX9_reserveFor_14 : decode cX9_reserveFor 14 = .ok (.aload_n 2, 1) := by decide +kernel
theorem dX9_reserveFor_15 : decode cX9_reserveFor 15 = .ok (.getfield 109, 3) := by decide +kernel
theorem dX9_reserveFor_18 : decode cX9_reserveFor 18 = .ok (.aload_n 3, 1) := by decide +kernel
theorem dX9_reserveFor_19 : decode cX9_reserveFor 19 = .ok (.getfield 147, 3) := by decide +kernel
theorem dX9_reserveFor_22 : decode cX9_reserveFor 22 = .ok (.invokestatic 304, 3) := by decide +kernel
theorem dX9_reserveFor_25 : decode cX9_reserveFor 25 = .ok (.imul, 1) := by decide +kernel
theorem dX9_reserveFor_26 : decode cX9_reserveFor 26 = .ok (.istore 6, 2) := by decide +kernel
theorem dX9_reserveFor_28 : decode cX9_reserveFor 28 = .ok (.iconst 0, 1) := by decide +kernel
theorem dX9_reserveFor_29 : decode cX9_reserveFor 29 = .ok (.istore 7, 2) := by decide +kernel
theorem dX9_reserveFor_31 : decode cX9_reserveFor 31 = .ok (.iload 7, 2) := by decide +kernel
theorem dX9_reserveFor_33 : decode cX9_reserveFor 33 = .ok (.bipush 8, 2) := by decide +kernel
theorem dX9_reserveFor_35 : decode cX9_reserveFor 35 = .ok (.if_icmp .ge 35, 3) := by decide +kernel
theorem dX9_reserveFor_38 : decode cX9_reserveFor 38 = .ok (.aload_n 1, 1) := by decide +kernel
theorem dX9_reserveFor_39 : decode cX9_reserveFor 39 = .ok (.iload 7, 2) := by decide +kernel
theorem dX9_reserveFor_41 : decode cX9_reserveFor 41 = .ok (.invokevirtual 430, 3) := by decide +kernel
theorem dX9_reserveFor_44 : decode cX9_reserveFor 44 = .ok (.ifCond .eq 20, 3) := by decide +kernel
theorem dX9_reserveFor_47 : decode cX9_reserveFor 47 = .ok (.aload_n 0, 1) := by decide +kernel
theorem dX9_reserveFor_48 : decode cX9_reserveFor 48 = .ok (.getfield 45, 3) := by decide +kernel
theorem dX9_reserveFor_51 : decode cX9_reserveFor 51 = .ok (.iload 7, 2) := by decide +kernel
theorem dX9_reserveFor_53 : decode cX9_reserveFor 53 = .ok (.iload 5, 2) := by decide +kernel
theorem dX9_reserveFor_55 : decode cX9_reserveFor 55 = .ok (.aload_n 2, 1) := by decide +kernel
theorem dX9_reserveFor_56 : decode cX9_reserveFor 56 = .ok (.getfield 182, 3) := by decide +kernel
theorem dX9_reserveFor_59 : decode cX9_reserveFor 59 = .ok (.iload 6, 2) := by decide +kernel
theorem dX9_reserveFor_61 : decode cX9_reserveFor 61 = .ok (.invokevirtual 570, 3) := by decide +kernel
theorem dX9_reserveFor_64 : decode cX9_reserveFor 64 = .ok (.iinc 7 1, 3) := by decide +kernel
theorem dX9_reserveFor_67 : decode cX9_reserveFor 67 = .ok (.goto (-36), 3) := by decide +kernel
theorem dX9_reserveFor_70 : decode cX9_reserveFor 70 = .ok (.return_, 1) := by decide +kernel
set_option maxRecDepth 20000 in
theorem ggX9_nextBulkPipe_X9_canGo : GoodIn wsX9_nextBulkPipe wsX9_canGo := goodIn_ca (goodIn_r _ [7, 8, 9, 10, 11, 12, 13, 14, 15, 16, 17, 6, 18, 19, 20, 21, 22, 23, 24, 25, 26, 27, 28, 29, 30, 31, 32, 33, 34, 35, 36, 37, 38, 39, 40, 54, 55, 56, 57, 58, 59, 60, 61, 62, 63, 64, 65, 66, 67, 68, 69, 70, 71, 72, 73, 74, 75, 76, 77, 78, 79, 80, 81, 82, 83, 84, 85, 86, 87, 88, 89, 90, 91, 92, 93, 41, 42, 43, 44, 45, 46, 47, 48, 49, 50, 51, 52, 53, 94, 95, 96, 97, 98, 99, 100, 101, 102, 103, 104, 105, 106, 107, 108, 109, 110, 111] (by decide +kernel) (by decide +kernel)) (goodIn_sub (fun _ h => List.mem_cons_of_mem _ (List.mem_append_right _ h)) (by decide +kernel))
set_option maxRecDepth 20000 in
theorem gX9_nextBulkPipe_X9_canGo : GoodIn wsX9_nextBulkPipe (wsV RX9 433 RX9 yX9_canGo wsX9_canGo) := goodIn_app (goodIn_of _ (by decide +kernel)) ggX9_nextBulkPipe_X9_canGo
theorem dX9_nextBulkPipe_0 : decode cX9_nextBulkPipe 0 = .ok (.iconst 1, 1) := by decide +kernel
theorem dX9_nextBulkPipe_1 : decode cX9_nextBulkPipe 1 = .ok (.istore_n 1, 1) := by decide +kernel
theorem dX9_nextBulkPipe_2 : decode cX9_nextBulkPipe 2 = .ok (.iload_n 1, 1) := by decide +kernel
theorem dX9_nextBulkPipe_3 : decode cX9_nextBulkPipe 3 = .ok (.bipush 12, 2) := by decide +kernel
theorem dX9_nextBulkPipe_5 : decode cX9_nextBulkPipe 5 = .ok (.if_icmp .gt 50, 3) := by decide +kernel
theorem dX9_nextBulkPipe_8 : decode cX9_nextBulkPipe 8 = .ok (.aload_n 0, 1) := by decide +kernel
theorem dX9_nextBulkPipe_9 : decode cX9_nextBulkPipe 9 = .ok (.getfield 24, 3) := by decide +kernel
theorem dX9_nextBulkPipe_12 : decode cX9_nextBulkPipe 12 = .ok (.aload_n 0, 1) := by decide +kernel
theorem dX9_nextBulkPipe_13 : decode cX9_nextBulkPipe 13 = .ok (.getfield 28, 3) := by decide +kernel
theorem dX9_nextBulkPipe_16 : decode cX9_nextBulkPipe 16 = .ok (.iload_n 1, 1) := by decide +kernel
theorem dX9_nextBulkPipe_17 : decode cX9_nextBulkPipe 17 = .ok (.iadd, 1) := by decide +kernel
theorem dX9_nextBulkPipe_18 : decode cX9_nextBulkPipe 18 = .ok (.bipush 12, 2) := by decide +kernel
theorem dX9_nextBulkPipe_20 : decode cX9_nextBulkPipe 20 = .ok (.irem, 1) := by decide +kernel
theorem dX9_nextBulkPipe_21 : decode cX9_nextBulkPipe 21 = .ok (.aaload, 1) := by decide +kernel
theorem dX9_nextBulkPipe_22 : decode cX9_nextBulkPipe 22 = .ok (.astore_n 2, 1) := by decide +kernel
theorem dX9_nextBulkPipe_23 : decode cX9_nextBulkPipe 23 = .ok (.aload_n 2, 1) := by decide +kernel
theorem dX9_nextBulkPipe_24 : decode cX9_nextBulkPipe 24 = .ok (.getfield 574, 3) := by decide +kernel
theorem dX9_nextBulkPipe_27 : decode cX9_nextBulkPipe 27 = .ok (.bipush 98, 2) := by decide +kernel
theorem dX9_nextBulkPipe_29 : decode cX9_nextBulkPipe 29 = .ok (.if_icmp .ne 20, 3) := by decide +kernel
theorem dX9_nextBulkPipe_32 : decode cX9_nextBulkPipe 32 = .ok (.aload_n 2, 1) := by decide +kernel
theorem dX9_nextBulkPipe_33 : decode cX9_nextBulkPipe 33 = .ok (.getfield 427, 3) := by decide +kernel
theorem dX9_nextBulkPipe_36 : decode cX9_nextBulkPipe 36 = .ok (.ifCond .ne 13, 3) := by decide +kernel
theorem dX9_nextBulkPipe_39 : decode cX9_nextBulkPipe 39 = .ok (.aload_n 0, 1) := by decide +kernel
theorem dX9_nextBulkPipe_40 : decode cX9_nextBulkPipe 40 = .ok (.aload_n 2, 1) := by decide +kernel
theorem dX9_nextBulkPipe_41 : decode cX9_nextBulkPipe 41 = .ok (.invokevirtual 433, 3) := by decide +kernel
theorem dX9_nextBulkPipe_44 : decode cX9_nextBulkPipe 44 = .ok (.ifCond .eq 5, 3) := by decide +kernel
theorem dX9_nextBulkPipe_47 : decode cX9_nextBulkPipe 47 = .ok (.aload_n 2, 1) := by decide +kernel
theorem dX9_nextBulkPipe_48 : decode cX9_nextBulkPipe 48 = .ok (.areturn, 1) := by decide +kernel
theorem dX9_nextBulkPipe_49 : decode cX9_nextBulkPipe 49 = .ok (.iinc 1 1, 3) := by decide +kernel
theorem dX9_nextBulkPipe_52 : decode cX9_nextBulkPipe 52 = .ok (.goto (-50), 3) := by decide +kernel
theorem dX9_nextBulkPipe_55 : decode cX9_nextBulkPipe 55 = .ok (.aconst_null, 1) := by decide +kernel
theorem dX9_nextBulkPipe_56 : decode cX9_nextBulkPipe 56 = .ok (.areturn, 1) := by decide +kernel
set_option maxRecDepth 20000 in
theorem ggX9_canGo_X5_transferAt : GoodIn wsX9_canGo wsX5_transferAt := goodIn_r _ [6, 7, 8, 35, 36, 37, 38, 39, 40, 41, 42, 43, 44, 45, 46, 47, 48] (by decide +kernel) (by decide +kernel)
set_option maxRecDepth 20000 in
theorem gX9_canGo_X5_transferAt_n374 : GoodIn wsX9_canGo (wsX5_transferAt) := ggX9_canGo_X5_transferAt
set_option maxRecDepth 20000 in
theorem ggX9_canGo_X9_bytesPaid : GoodIn wsX9_canGo wsX9_bytesPaid := goodIn_r _ [12, 13, 14, 15, 16, 17, 18, 11, 19, 20, 21, 22, 49, 50, 51, 52, 53, 54, 88, 89, 90, 91, 92, 93, 94, 95, 96, 97, 98, 99, 100] (by decide +kernel) (by decide +kernel)
set_option maxRecDepth 20000 in
theorem gX9_canGo_X9_bytesPaid : GoodIn wsX9_canGo (va_wsS RX9 575 yX9_bytesPaid wsX9_bytesPaid) := goodIn_app (goodIn_of _ (by decide +kernel)) ggX9_canGo_X9_bytesPaid
set_option maxRecDepth 20000 in
theorem ggX9_canGo_X9_hostCost : GoodIn wsX9_canGo wsX9_hostCost := goodIn_r _ [25] (by decide +kernel) (by decide +kernel)
set_option maxRecDepth 20000 in
theorem gX9_canGo_X9_hostCost : GoodIn wsX9_canGo (va_wsS RX9 301 yX9_hostCost wsX9_hostCost) := goodIn_app (goodIn_of _ (by decide +kernel)) ggX9_canGo_X9_hostCost
set_option maxRecDepth 20000 in
theorem ggX9_canGo_X9_hubCost : GoodIn wsX9_canGo wsX9_hubCost := goodIn_r _ [28] (by decide +kernel) (by decide +kernel)
set_option maxRecDepth 20000 in
theorem gX9_canGo_X9_hubCost : GoodIn wsX9_canGo (va_wsS RX9 304 yX9_hubCost wsX9_hubCost) := goodIn_app (goodIn_of _ (by decide +kernel)) ggX9_canGo_X9_hubCost
set_option maxRecDepth 20000 in
theorem ggX9_canGo_X8_isRoomFor : GoodIn wsX9_canGo wsX8_isRoomFor := goodIn_ca (goodIn_r _ [32, 33, 34, 101, 102, 103, 104, 105] (by decide +kernel) (by decide +kernel)) (goodIn_sub (fun _ h => List.mem_cons_of_mem _ (List.mem_append_right _ h)) (by decide +kernel))
set_option maxRecDepth 20000 in
theorem gX9_canGo_X8_isRoomFor_n579 : GoodIn wsX9_canGo (wsX8_isRoomFor) := ggX9_canGo_X8_isRoomFor
theorem dX9_canGo_0 : decode cX9_canGo 0 = .ok (.aload_n 1, 1) := by decide +kernel
theorem dX9_canGo_1 : decode cX9_canGo 1 = .ok (.getfield 546, 3) := by decide +kernel
theorem dX9_canGo_4 : decode cX9_canGo 4 = .ok (.astore_n 2, 1) := by decide +kernel
theorem dX9_canGo_5 : decode cX9_canGo 5 = .ok (.aload_n 1, 1) := by decide +kernel
theorem dX9_canGo_6 : decode cX9_canGo 6 = .ok (.getfield 350, 3) := by decide +kernel
theorem dX9_canGo_9 : decode cX9_canGo 9 = .ok (.astore_n 3, 1) := by decide +kernel
theorem dX9_canGo_10 : decode cX9_canGo 10 = .ok (.aload_n 2, 1) := by decide +kernel
theorem dX9_canGo_11 : decode cX9_canGo 11 = .ok (.ifnull 21, 3) := by decide +kernel
theorem dX9_canGo_14 : decode cX9_canGo 14 = .ok (.aload_n 3, 1) := by decide +kernel
theorem dX9_canGo_15 : decode cX9_canGo 15 = .ok (.ifnull 17, 3) := by decide +kernel
theorem dX9_canGo_18 : decode cX9_canGo 18 = .ok (.aload_n 1, 1) := by decide +kernel
theorem dX9_canGo_19 : decode cX9_canGo 19 = .ok (.getfield 380, 3) := by decide +kernel
theorem dX9_canGo_22 : decode cX9_canGo 22 = .ok (.ifCond .ne 10, 3) := by decide +kernel
theorem dX9_canGo_25 : decode cX9_canGo 25 = .ok (.aload_n 1, 1) := by decide +kernel
theorem dX9_canGo_26 : decode cX9_canGo 26 = .ok (.getfield 356, 3) := by decide +kernel
theorem dX9_canGo_29 : decode cX9_canGo 29 = .ok (.ifCond .ne 5, 3) := by decide +kernel
theorem dX9_canGo_32 : decode cX9_canGo 32 = .ok (.iconst 0, 1) := by decide +kernel
theorem dX9_canGo_33 : decode cX9_canGo 33 = .ok (.ireturn, 1) := by decide +kernel
theorem dX9_canGo_34 : decode cX9_canGo 34 = .ok (.aload_n 1, 1) := by decide +kernel
theorem dX9_canGo_35 : decode cX9_canGo 35 = .ok (.iconst 0, 1) := by decide +kernel
theorem dX9_canGo_36 : decode cX9_canGo 36 = .ok (.invokevirtual 374, 3) := by decide +kernel
theorem dX9_canGo_39 : decode cX9_canGo 39 = .ok (.astore 4, 2) := by decide +kernel
theorem dX9_canGo_41 : decode cX9_canGo 41 = .ok (.aload 4, 2) := by decide +kernel
theorem dX9_canGo_43 : decode cX9_canGo 43 = .ok (.getfield 377, 3) := by decide +kernel
theorem dX9_canGo_46 : decode cX9_canGo 46 = .ok (.ifCond .eq 23, 3) := by decide +kernel
theorem dX9_canGo_49 : decode cX9_canGo 49 = .ok (.aload_n 2, 1) := by decide +kernel
theorem dX9_canGo_50 : decode cX9_canGo 50 = .ok (.getfield 74, 3) := by decide +kernel
theorem dX9_canGo_53 : decode cX9_canGo 53 = .ok (.bipush 99, 2) := by decide +kernel
theorem dX9_canGo_55 : decode cX9_canGo 55 = .ok (.if_icmp .ne 14, 3) := by decide +kernel
theorem dX9_canGo_58 : decode cX9_canGo 58 = .ok (.aload_n 0, 1) := by decide +kernel
theorem dX9_canGo_59 : decode cX9_canGo 59 = .ok (.getfield 252, 3) := by decide +kernel
theorem dX9_canGo_62 : decode cX9_canGo 62 = .ok (.aload_n 2, 1) := by decide +kernel
theorem dX9_canGo_63 : decode cX9_canGo 63 = .ok (.getfield 255, 3) := by decide +kernel
theorem dX9_canGo_66 : decode cX9_canGo 66 = .ok (.if_icmp .gt 5, 3) := by decide +kernel
theorem dX9_canGo_69 : decode cX9_canGo 69 = .ok (.iconst 0, 1) := by decide +kernel
theorem dX9_canGo_70 : decode cX9_canGo 70 = .ok (.ireturn, 1) := by decide +kernel
theorem dX9_canGo_71 : decode cX9_canGo 71 = .ok (.aload_n 3, 1) := by decide +kernel
theorem dX9_canGo_72 : decode cX9_canGo 72 = .ok (.aload 4, 2) := by decide +kernel
theorem dX9_canGo_74 : decode cX9_canGo 74 = .ok (.invokestatic 575, 3) := by decide +kernel
theorem dX9_canGo_77 : decode cX9_canGo 77 = .ok (.istore 5, 2) := by decide +kernel
theorem dX9_canGo_79 : decode cX9_canGo 79 = .ok (.aload_n 0, 1) := by decide +kernel
theorem dX9_canGo_80 : decode cX9_canGo 80 = .ok (.getfield 45, 3) := by decide +kernel
theorem dX9_canGo_83 : decode cX9_canGo 83 = .ok (.iload 5, 2) := by decide +kernel
theorem dX9_canGo_85 : decode cX9_canGo 85 = .ok (.invokestatic 301, 3) := by decide +kernel
theorem dX9_canGo_88 : decode cX9_canGo 88 = .ok (.aload_n 2, 1) := by decide +kernel
theorem dX9_canGo_89 : decode cX9_canGo 89 = .ok (.getfield 182, 3) := by decide +kernel
theorem dX9_canGo_92 : decode cX9_canGo 92 = .ok (.aload_n 2, 1) := by decide +kernel
theorem dX9_canGo_93 : decode cX9_canGo 93 = .ok (.getfield 109, 3) := by decide +kernel
theorem dX9_canGo_96 : decode cX9_canGo 96 = .ok (.iload 5, 2) := by decide +kernel
theorem dX9_canGo_98 : decode cX9_canGo 98 = .ok (.invokestatic 304, 3) := by decide +kernel
theorem dX9_canGo_101 : decode cX9_canGo 101 = .ok (.invokevirtual 579, 3) := by decide +kernel
theorem dX9_canGo_104 : decode cX9_canGo 104 = .ok (.ireturn, 1) := by decide +kernel
set_option maxRecDepth 20000 in
theorem ggX9_bytesPaid_X9_packetBytes : GoodIn wsX9_bytesPaid wsX9_packetBytes := goodIn_r _ [8, 9, 10, 3, 11, 12, 13, 14, 15, 16, 17, 18, 19, 20, 21, 22, 23, 24, 25, 26, 27, 28, 29, 30] (by decide +kernel) (by decide +kernel)
set_option maxRecDepth 20000 in
theorem gX9_bytesPaid_X9_packetBytes : GoodIn wsX9_bytesPaid (va_wsS RX9 582 yX9_packetBytes wsX9_packetBytes) := goodIn_app (goodIn_of _ (by decide +kernel)) ggX9_bytesPaid_X9_packetBytes
theorem dX9_bytesPaid_0 : decode cX9_bytesPaid 0 = .ok (.iconst 1, 1) := by decide +kernel
theorem dX9_bytesPaid_1 : decode cX9_bytesPaid 1 = .ok (.aload_n 0, 1) := by decide +kernel
theorem dX9_bytesPaid_2 : decode cX9_bytesPaid 2 = .ok (.aload_n 1, 1) := by decide +kernel
theorem dX9_bytesPaid_3 : decode cX9_bytesPaid 3 = .ok (.invokestatic 582, 3) := by decide +kernel
theorem dX9_bytesPaid_6 : decode cX9_bytesPaid 6 = .ok (.invokestatic 585, 3) := by decide +kernel
theorem dX9_bytesPaid_9 : decode cX9_bytesPaid 9 = .ok (.ireturn, 1) := by decide +kernel
theorem dX9_packetBytes_0 : decode cX9_packetBytes 0 = .ok (.aload_n 1, 1) := by decide +kernel
theorem dX9_packetBytes_1 : decode cX9_packetBytes 1 = .ok (.getfield 590, 3) := by decide +kernel
theorem dX9_packetBytes_4 : decode cX9_packetBytes 4 = .ok (.aload_n 1, 1) := by decide +kernel
theorem dX9_packetBytes_5 : decode cX9_packetBytes 5 = .ok (.getfield 388, 3) := by decide +kernel
theorem dX9_packetBytes_8 : decode cX9_packetBytes 8 = .ok (.isub, 1) := by decide +kernel
theorem dX9_packetBytes_9 : decode cX9_packetBytes 9 = .ok (.aload_n 0, 1) := by decide +kernel
theorem dX9_packetBytes_10 : decode cX9_packetBytes 10 = .ok (.getfield 147, 3) := by decide +kernel
theorem dX9_packetBytes_13 : decode cX9_packetBytes 13 = .ok (.invokestatic 591, 3) := by decide +kernel
theorem dX9_packetBytes_16 : decode cX9_packetBytes 16 = .ok (.istore_n 2, 1) := by decide +kernel
theorem dX9_packetBytes_17 : decode cX9_packetBytes 17 = .ok (.aload_n 0, 1) := by decide +kernel
theorem dX9_packetBytes_18 : decode cX9_packetBytes 18 = .ok (.getfield 144, 3) := by decide +kernel
theorem dX9_packetBytes_21 : decode cX9_packetBytes 21 = .ok (.ifCond .ne 5, 3) := by decide +kernel
theorem dX9_packetBytes_24 : decode cX9_packetBytes 24 = .ok (.iload_n 2, 1) := by decide +kernel
theorem dX9_packetBytes_25 : decode cX9_packetBytes 25 = .ok (.ireturn, 1) := by decide +kernel
theorem dX9_packetBytes_26 : decode cX9_packetBytes 26 = .ok (.aload_n 0, 1) := by decide +kernel
theorem dX9_packetBytes_27 : decode cX9_packetBytes 27 = .ok (.getfield 594, 3) := by decide +kernel
theorem dX9_packetBytes_30 : decode cX9_packetBytes 30 = .ok (.ifCond .le 10, 3) := by decide +kernel
theorem dX9_packetBytes_33 : decode cX9_packetBytes 33 = .ok (.aload_n 0, 1) := by decide +kernel
theorem dX9_packetBytes_34 : decode cX9_packetBytes 34 = .ok (.getfield 594, 3) := by decide +kernel
theorem dX9_packetBytes_37 : decode cX9_packetBytes 37 = .ok (.goto 14, 3) := by decide +kernel
theorem dX9_packetBytes_40 : decode cX9_packetBytes 40 = .ok (.iload_n 2, 1) := by decide +kernel
theorem dX9_packetBytes_41 : decode cX9_packetBytes 41 = .ok (.aload_n 0, 1) := by decide +kernel
theorem dX9_packetBytes_42 : decode cX9_packetBytes 42 = .ok (.getfield 395, 3) := by decide +kernel
theorem dX9_packetBytes_45 : decode cX9_packetBytes 45 = .ok (.getfield 266, 3) := by decide +kernel
theorem dX9_packetBytes_48 : decode cX9_packetBytes 48 = .ok (.invokestatic 591, 3) := by decide +kernel
theorem dX9_packetBytes_51 : decode cX9_packetBytes 51 = .ok (.ireturn, 1) := by decide +kernel
set_option maxRecDepth 20000 in
theorem ggX9_takeTurn_X5_transferAt : GoodIn wsX9_takeTurn wsX5_transferAt := goodIn_r _ [6, 7, 8, 161, 162, 163, 164, 165, 166, 167, 168, 169, 170, 171, 172, 173, 174] (by decide +kernel) (by decide +kernel)
set_option maxRecDepth 20000 in
theorem gX9_takeTurn_X5_transferAt_n374 : GoodIn wsX9_takeTurn (wsX5_transferAt) := ggX9_takeTurn_X5_transferAt
set_option maxRecDepth 20000 in
theorem ggX9_takeTurn_X9_bytesPaid : GoodIn wsX9_takeTurn wsX9_bytesPaid := goodIn_r _ [12, 13, 14, 15, 16, 17, 18, 11, 19, 20, 21, 22, 220, 221, 222, 223, 224, 225, 211, 212, 213, 214, 215, 216, 217, 218, 219, 226, 227, 228, 229] (by decide +kernel) (by decide +kernel)
set_option maxRecDepth 20000 in
theorem gX9_takeTurn_X9_bytesPaid : GoodIn wsX9_takeTurn (va_wsS RX9 575 yX9_bytesPaid wsX9_bytesPaid) := goodIn_app (goodIn_of _ (by decide +kernel)) ggX9_takeTurn_X9_bytesPaid
set_option maxRecDepth 20000 in
theorem ggX9_takeTurn_X9_hostCost : GoodIn wsX9_takeTurn wsX9_hostCost := goodIn_r _ [25] (by decide +kernel) (by decide +kernel)
set_option maxRecDepth 20000 in
theorem gX9_takeTurn_X9_hostCost : GoodIn wsX9_takeTurn (va_wsS RX9 301 yX9_hostCost wsX9_hostCost) := goodIn_app (goodIn_of _ (by decide +kernel)) ggX9_takeTurn_X9_hostCost
set_option maxRecDepth 20000 in
theorem ggX9_takeTurn_X9_hubCost : GoodIn wsX9_takeTurn wsX9_hubCost := goodIn_r _ [28] (by decide +kernel) (by decide +kernel)
set_option maxRecDepth 20000 in
theorem gX9_takeTurn_X9_hubCost : GoodIn wsX9_takeTurn (va_wsS RX9 304 yX9_hubCost wsX9_hubCost) := goodIn_app (goodIn_of _ (by decide +kernel)) ggX9_takeTurn_X9_hubCost
set_option maxRecDepth 20000 in
theorem ggX9_takeTurn_X8_use : GoodIn wsX9_takeTurn wsX8_use := goodIn_ca (goodIn_r _ [32, 33, 34, 35, 230, 231, 232, 233, 234] (by decide +kernel) (by decide +kernel)) (goodIn_sub (fun _ h => List.mem_cons_of_mem _ (List.mem_append_right _ h)) (by decide +kernel))
set_option maxRecDepth 20000 in
theorem gX9_takeTurn_X8_use_n597 : GoodIn wsX9_takeTurn (wsX8_use) := ggX9_takeTurn_X8_use
set_option maxRecDepth 20000 in
theorem ggX9_takeTurn_X4_use : GoodIn wsX9_takeTurn wsX4_use := goodIn_r _ [39, 40, 41, 235, 236] (by decide +kernel) (by decide +kernel)
set_option maxRecDepth 20000 in
theorem gX9_takeTurn_X4_use_n552 : GoodIn wsX9_takeTurn (wsX4_use) := ggX9_takeTurn_X4_use
set_option maxRecDepth 20000 in
theorem ggX9_takeTurn_X9_packetBytes : GoodIn wsX9_takeTurn wsX9_packetBytes := goodIn_r _ [19, 20, 21, 15, 22, 220, 221, 222, 223, 224, 225, 211, 212, 213, 214, 215, 216, 217, 218, 219, 226, 227, 228, 229] (by decide +kernel) (by decide +kernel)
set_option maxRecDepth 20000 in
theorem gX9_takeTurn_X9_packetBytes : GoodIn wsX9_takeTurn (va_wsS RX9 582 yX9_packetBytes wsX9_packetBytes) := goodIn_app (goodIn_of _ (by decide +kernel)) ggX9_takeTurn_X9_packetBytes
set_option maxRecDepth 20000 in
theorem ggX9_takeTurn_X9_passSound : GoodIn wsX9_takeTurn wsX9_passSound := goodIn_ca (goodIn_r _ [45, 2, 46, 47, 48, 11, 49, 50, 51, 52, 53, 54, 55, 56, 57, 58, 59, 60, 61, 62, 63, 64, 65, 66, 67, 68, 69, 70, 21, 15, 22, 211, 212, 213, 214, 215, 216, 217, 218, 219, 175, 176, 177, 178, 179, 180, 181, 182, 183, 184, 185, 186, 187, 208, 209, 210, 220, 221, 222, 223, 224, 225, 226, 227, 228, 229] (by decide +kernel) (by decide +kernel)) (goodIn_sub (fun _ h => List.mem_cons_of_mem _ (List.mem_append_right _ h)) (by decide +kernel))
set_option maxRecDepth 20000 in
theorem gX9_takeTurn_X9_passSound : GoodIn wsX9_takeTurn (wsV RX9 600 RX9 yX9_passSound wsX9_passSound) := goodIn_app (goodIn_of _ (by decide +kernel)) ggX9_takeTurn_X9_passSound
set_option maxRecDepth 20000 in
theorem ggX9_takeTurn_X9_passIn : GoodIn wsX9_takeTurn wsX9_passIn := goodIn_ca (goodIn_r _ [74, 2, 75, 63, 76, 77, 66, 78, 67, 52, 68, 69, 60, 70, 21, 15, 22, 56, 46, 47, 48, 11, 49, 50, 51, 53, 54, 55, 57, 58, 59, 61, 175, 176, 177, 178, 179, 180, 181, 182, 183, 184, 185, 186, 187, 208, 209, 210, 188, 189, 190, 191, 192, 193, 194, 195, 196, 197, 198, 199, 200, 201, 202, 203, 204, 205, 206, 207, 211, 212, 213, 214, 215, 216, 217, 218, 219, 161, 162, 163, 164, 165, 166, 167, 168, 169, 170, 171, 172, 173, 174, 220, 221, 222, 223, 224, 225, 226, 227, 228, 229] (by decide +kernel) (by decide +kernel)) (goodIn_sub (fun _ h => List.mem_cons_of_mem _ (List.mem_append_right _ h)) (by decide +kernel))
set_option maxRecDepth 20000 in
theorem gX9_takeTurn_X9_passIn : GoodIn wsX9_takeTurn (wsV RX9 604 RX9 yX9_passIn wsX9_passIn) := goodIn_app (goodIn_of _ (by decide +kernel)) ggX9_takeTurn_X9_passIn
set_option maxRecDepth 20000 in
theorem ggX9_takeTurn_X9_passOut : GoodIn wsX9_takeTurn wsX9_passOut := goodIn_ca (goodIn_r _ [82, 2, 62, 63, 64, 65, 66, 57, 52, 58, 59, 55, 56, 60, 61, 175, 176, 177, 178, 179, 180, 181, 182, 183, 184, 185, 186, 187, 208, 209, 210, 211, 212, 213, 214, 215, 216, 217, 218, 219, 161, 162, 163, 164, 165, 166, 167, 168, 169, 170, 171, 172, 173, 174, 220, 221, 222, 223, 224, 225, 226, 227, 228, 229] (by decide +kernel) (by decide +kernel)) (goodIn_sub (fun _ h => List.mem_cons_of_mem _ (List.mem_append_right _ h)) (by decide +kernel))
set_option maxRecDepth 20000 in
theorem gX9_takeTurn_X9_passOut : GoodIn wsX9_takeTurn (wsV RX9 608 RX9 yX9_passOut wsX9_passOut) := goodIn_app (goodIn_of _ (by decide +kernel)) ggX9_takeTurn_X9_passOut
set_option maxRecDepth 20000 in
theorem ggX9_takeTurn_X9_disable : GoodIn wsX9_takeTurn wsX9_disable := goodIn_ca (goodIn_r _ [86, 87, 88, 89, 11, 90, 91, 92, 93, 94, 95, 96, 97, 98, 99, 100, 101, 102, 103, 1, 23, 24, 25, 26, 27, 28, 104, 4, 105, 106, 107, 108, 109, 30, 110, 111, 112, 113, 114, 115, 116, 117, 118, 3, 5, 6, 7, 8, 119, 120, 121, 122, 123, 124, 125, 126, 127, 128, 129, 130, 131, 132, 133, 134, 135, 136, 137, 138, 139, 140, 141, 142, 143, 144, 145, 146, 147, 148, 149, 150, 151, 152, 188, 189, 190, 191, 192, 193, 194, 195, 196, 197, 198, 199, 200, 201, 202, 203, 204, 205, 206, 207, 175, 176, 177, 178, 179, 180, 181, 182, 183, 184, 185, 186, 187, 161, 162, 163, 164, 165, 166, 167, 168, 169, 170, 171, 172, 173, 174, 211, 212, 213, 214, 215, 216, 217, 218, 219, 230, 231, 232, 233, 234, 220, 221, 222, 223, 224, 225, 237, 238, 239, 240, 241, 242, 243, 244, 245, 246] (by decide +kernel) (by decide +kernel)) (goodIn_sub (fun _ h => List.mem_cons_of_mem _ (List.mem_append_right _ h)) (by decide +kernel))
set_option maxRecDepth 20000 in
theorem gX9_takeTurn_X9_disable : GoodIn wsX9_takeTurn (wsV RX9 211 RX9 yX9_disable wsX9_disable) := goodIn_app (goodIn_of _ (by decide +kernel)) ggX9_takeTurn_X9_disable
set_option maxRecDepth 20000 in
theorem ggX9_takeTurn_X9_settle : GoodIn wsX9_takeTurn wsX9_settle := goodIn_ca (goodIn_r _ [156, 157, 158, 159, 11, 160, 114, 115, 116, 117, 118, 3, 4, 5, 6, 7, 8, 119, 120, 121, 122, 123, 124, 125, 126, 127, 128, 129, 130, 131, 132, 133, 134, 161, 162, 163, 164, 165, 166, 167, 168, 169, 170, 171, 172, 173, 174, 220, 221, 222, 223, 224, 225, 175, 176, 177, 178, 179, 180, 181, 182, 183, 184, 185, 186, 187, 237, 238, 239, 240, 241, 242, 243, 244, 245, 246] (by decide +kernel) (by decide +kernel)) (goodIn_sub (fun _ h => List.mem_cons_of_mem _ (List.mem_append_right _ h)) (by decide +kernel))
set_option maxRecDepth 20000 in
theorem gX9_takeTurn_X9_settle : GoodIn wsX9_takeTurn (wsV RX9 612 RX9 yX9_settle wsX9_settle) := goodIn_app (goodIn_of _ (by decide +kernel)) ggX9_takeTurn_X9_settle
theorem dX9_takeTurn_0 : decode cX9_takeTurn 0 = .ok (.aload_n 1, 1) := by decide +kernel
theorem dX9_takeTurn_1 : decode cX9_takeTurn 1 = .ok (.getfield 546, 3) := by decide +kernel
theorem dX9_takeTurn_4 : decode cX9_takeTurn 4 = .ok (.astore_n 2, 1) := by decide +kernel
theorem dX9_takeTurn_5 : decode cX9_takeTurn 5 = .ok (.aload_n 1, 1) := by decide +kernel
theorem dX9_takeTurn_6 : decode cX9_takeTurn 6 = .ok (.getfield 350, 3) := by decide +kernel
theorem dX9_takeTurn_9 : decode cX9_takeTurn 9 = .ok (.astore_n 3, 1) := by decide +kernel
theorem dX9_takeTurn_10 : decode cX9_takeTurn 10 = .ok (.aload_n 2, 1) := by decide +kernel
theorem dX9_takeTurn_11 : decode cX9_takeTurn 11 = .ok (.ifnull 7, 3) := by decide +kernel
theorem dX9_takeTurn_14 : decode cX9_takeTurn 14 = .ok (.aload_n 3, 1) := by decide +kernel
theorem dX9_takeTurn_15 : decode cX9_takeTurn 15 = .ok (.ifnonnull 4, 3) := by decide +kernel
theorem dX9_takeTurn_18 : decode cX9_takeTurn 18 = .ok (.return_, 1) := by decide +kernel
theorem dX9_takeTurn_19 : decode cX9_takeTurn 19 = .ok (.aload_n 1, 1) := by decide +kernel
theorem dX9_takeTurn_20 : decode cX9_takeTurn 20 = .ok (.iconst 0, 1) := by decide +kernel
theorem dX9_takeTurn_21 : decode cX9_takeTurn 21 = .ok (.invokevirtual 374, 3) := by decide +kernel
theorem dX9_takeTurn_24 : decode cX9_takeTurn 24 = .ok (.astore 4, 2) := by decide +kernel
theorem dX9_takeTurn_26 : decode cX9_takeTurn 26 = .ok (.aload_n 3, 1) := by decide +kernel
theorem dX9_takeTurn_27 : decode cX9_takeTurn 27 = .ok (.aload 4, 2) := by decide +kernel
theorem dX9_takeTurn_29 : decode cX9_takeTurn 29 = .ok (.invokestatic 575, 3) := by decide +kernel
theorem dX9_takeTurn_32 : decode cX9_takeTurn 32 = .ok (.istore 5, 2) := by decide +kernel
theorem dX9_takeTurn_34 : decode cX9_takeTurn 34 = .ok (.aload_n 0, 1) := by decide +kernel
theorem dX9_takeTurn_35 : decode cX9_takeTurn 35 = .ok (.getfield 45, 3) := by decide +kernel
theorem dX9_takeTurn_38 : decode cX9_takeTurn 38 = .ok (.iload 5, 2) := by decide +kernel
theorem dX9_takeTurn_40 : decode cX9_takeTurn 40 = .ok (.invokestatic 301, 3) := by decide +kernel
theorem dX9_takeTurn_43 : decode cX9_takeTurn 43 = .ok (.aload_n 2, 1) := by decide +kernel
theorem dX9_takeTurn_44 : decode cX9_takeTurn 44 = .ok (.getfield 182, 3) := by decide +kernel
theorem dX9_takeTurn_47 : decode cX9_takeTurn 47 = .ok (.aload_n 2, 1) := by decide +kernel
theorem dX9_takeTurn_48 : decode cX9_takeTurn 48 = .ok (.getfield 109, 3) := by decide +kernel
theorem dX9_takeTurn_51 : decode cX9_takeTurn 51 = .ok (.iload 5, 2) := by decide +kernel
theorem dX9_takeTurn_53 : decode cX9_takeTurn 53 = .ok (.invokestatic 304, 3) := by decide +kernel
theorem dX9_takeTurn_56 : decode cX9_takeTurn 56 = .ok (.invokevirtual 597, 3) := by decide +kernel
theorem dX9_takeTurn_59 : decode cX9_takeTurn 59 = .ok (.aload_n 0, 1) := by decide +kernel
theorem dX9_takeTurn_60 : decode cX9_takeTurn 60 = .ok (.getfield 59, 3) := by decide +kernel
theorem dX9_takeTurn_63 : decode cX9_takeTurn 63 = .ok (.dup, 1) := by decide +kernel
theorem dX9_takeTurn_64 : decode cX9_takeTurn 64 = .ok (.getfield 418, 3) := by decide +kernel
theorem dX9_takeTurn_67 : decode cX9_takeTurn 67 = .ok (.iconst 1, 1) := by decide +kernel
theorem dX9_takeTurn_68 : decode cX9_takeTurn 68 = .ok (.iadd, 1) := by decide +kernel
theorem dX9_takeTurn_69 : decode cX9_takeTurn 69 = .ok (.putfield 418, 3) := by decide +kernel
theorem dX9_takeTurn_72 : decode cX9_takeTurn 72 = .ok (.aload_n 3, 1) := by decide +kernel
theorem dX9_takeTurn_73 : decode cX9_takeTurn 73 = .ok (.getfield 403, 3) := by decide +kernel
theorem dX9_takeTurn_76 : decode cX9_takeTurn 76 = .ok (.invokevirtual 552, 3) := by decide +kernel
theorem dX9_takeTurn_79 : decode cX9_takeTurn 79 = .ok (.istore 6, 2) := by decide +kernel
theorem dX9_takeTurn_81 : decode cX9_takeTurn 81 = .ok (.aload_n 3, 1) := by decide +kernel
theorem dX9_takeTurn_82 : decode cX9_takeTurn 82 = .ok (.aload 4, 2) := by decide +kernel
theorem dX9_takeTurn_84 : decode cX9_takeTurn 84 = .ok (.invokestatic 582, 3) := by decide +kernel
theorem dX9_takeTurn_87 : decode cX9_takeTurn 87 = .ok (.istore 7, 2) := by decide +kernel
theorem dX9_takeTurn_89 : decode cX9_takeTurn 89 = .ok (.aload_n 1, 1) := by decide +kernel
theorem dX9_takeTurn_90 : decode cX9_takeTurn 90 = .ok (.getfield 574, 3) := by decide +kernel
theorem dX9_takeTurn_93 : decode cX9_takeTurn 93 = .ok (.bipush 115, 2) := by decide +kernel
theorem dX9_takeTurn_95 : decode cX9_takeTurn 95 = .ok (.if_icmp .ne 19, 3) := by decide +kernel
theorem dX9_takeTurn_98 : decode cX9_takeTurn 98 = .ok (.aload_n 0, 1) := by decide +kernel
theorem dX9_takeTurn_99 : decode cX9_takeTurn 99 = .ok (.aload_n 3, 1) := by decide +kernel
theorem dX9_takeTurn_100 : decode cX9_takeTurn 100 = .ok (.aload 4, 2) := by decide +kernel
theorem dX9_takeTurn_102 : decode cX9_takeTurn 102 = .ok (.iload 7, 2) := by decide +kernel
theorem dX9_takeTurn_104 : decode cX9_takeTurn 104 = .ok (.iload 6, 2) := by decide +kernel
theorem dX9_takeTurn_106 : decode cX9_takeTurn 106 = .ok (.invokevirtual 600, 3) := by decide +kernel
theorem dX9_takeTurn_109 : decode cX9_takeTurn 109 = .ok (.istore 8, 2) := by decide +kernel
theorem dX9_takeTurn_111 : decode cX9_takeTurn 111 = .ok (.goto 42, 3) := by decide +kernel
theorem dX9_takeTurn_114 : decode cX9_takeTurn 114 = .ok (.aload_n 3, 1) := by decide +kernel
theorem dX9_takeTurn_115 : decode cX9_takeTurn 115 = .ok (.getfield 144, 3) := by decide +kernel
theorem dX9_takeTurn_118 : decode cX9_takeTurn 118 = .ok (.ifCond .eq 21, 3) := by decide +kernel
theorem dX9_takeTurn_121 : decode cX9_takeTurn 121 = .ok (.aload_n 0, 1) := by decide +kernel
theorem dX9_takeTurn_122 : decode cX9_takeTurn 122 = .ok (.aload_n 1, 1) := by decide +kernel
theorem dX9_takeTurn_123 : decode cX9_takeTurn 123 = .ok (.aload_n 2, 1) := by decide +kernel
theorem dX9_takeTurn_124 : decode cX9_takeTurn 124 = .ok (.aload_n 3, 1) := by decide +kernel
theorem dX9_takeTurn_125 : decode cX9_takeTurn 125 = .ok (.aload 4, 2) := by decide +kernel
theorem dX9_takeTurn_127 : decode cX9_takeTurn 127 = .ok (.iload 7, 2) := by decide +kernel
theorem dX9_takeTurn_129 : decode cX9_takeTurn 129 = .ok (.iload 6, 2) := by decide +kernel
theorem dX9_takeTurn_131 : decode cX9_takeTurn 131 = .ok (.invokevirtual 604, 3) := by decide +kernel
theorem dX9_takeTurn_134 : decode cX9_takeTurn 134 = .ok (.istore 8, 2) := by decide +kernel
theorem dX9_takeTurn_136 : decode cX9_takeTurn 136 = .ok (.goto 17, 3) := by decide +kernel
theorem dX9_takeTurn_139 : decode cX9_takeTurn 139 = .ok (.aload_n 0, 1) := by decide +kernel
theorem dX9_takeTurn_140 : decode cX9_takeTurn 140 = .ok (.aload_n 1, 1) := by decide +kernel
theorem dX9_takeTurn_141 : decode cX9_takeTurn 141 = .ok (.aload_n 3, 1) := by decide +kernel
theorem dX9_takeTurn_142 : decode cX9_takeTurn 142 = .ok (.aload 4, 2) := by decide +kernel
theorem dX9_takeTurn_144 : decode cX9_takeTurn 144 = .ok (.iload 7, 2) := by decide +kernel
theorem dX9_takeTurn_146 : decode cX9_takeTurn 146 = .ok (.iload 6, 2) := by decide +kernel
theorem dX9_takeTurn_148 : decode cX9_takeTurn 148 = .ok (.invokevirtual 608, 3) := by decide +kernel
theorem dX9_takeTurn_151 : decode cX9_takeTurn 151 = .ok (.istore 8, 2) := by decide +kernel
theorem dX9_takeTurn_153 : decode cX9_takeTurn 153 = .ok (.iload 8, 2) := by decide +kernel
theorem dX9_takeTurn_155 : decode cX9_takeTurn 155 = .ok (.iconst 4, 1) := by decide +kernel
theorem dX9_takeTurn_156 : decode cX9_takeTurn 156 = .ok (.if_icmp .ne 13, 3) := by decide +kernel
theorem dX9_takeTurn_159 : decode cX9_takeTurn 159 = .ok (.aload_n 0, 1) := by decide +kernel
theorem dX9_takeTurn_160 : decode cX9_takeTurn 160 = .ok (.aload_n 2, 1) := by decide +kernel
theorem dX9_takeTurn_161 : decode cX9_takeTurn 161 = .ok (.bipush 115, 2) := by decide +kernel
theorem dX9_takeTurn_163 : decode cX9_takeTurn 163 = .ok (.invokevirtual 211, 3) := by decide +kernel
theorem dX9_takeTurn_166 : decode cX9_takeTurn 166 = .ok (.goto 14, 3) := by decide +kernel
theorem dX9_takeTurn_169 : decode cX9_takeTurn 169 = .ok (.aload_n 0, 1) := by decide +kernel
theorem dX9_takeTurn_170 : decode cX9_takeTurn 170 = .ok (.aload_n 1, 1) := by decide +kernel
theorem dX9_takeTurn_171 : decode cX9_takeTurn 171 = .ok (.aload 4, 2) := by decide +kernel
theorem dX9_takeTurn_173 : decode cX9_takeTurn 173 = .ok (.iload 8, 2) := by decide +kernel
theorem dX9_takeTurn_175 : decode cX9_takeTurn 175 = .ok (.iload 6, 2) := by decide +kernel
theorem dX9_takeTurn_177 : decode cX9_takeTurn 177 = .ok (.invokevirtual 612, 3) := by decide +kernel
theorem dX9_takeTurn_180 : decode cX9_takeTurn 180 = .ok (.return_, 1) := by decide +kernel
set_option maxRecDepth 20000 in
theorem ggX9_settle_X9_halt : GoodIn wsX9_settle wsX9_halt := goodIn_ca (goodIn_r _ [5, 6, 7, 8, 4, 9, 10, 11, 12, 13, 14, 15, 16, 17, 18, 19, 20, 21, 22, 23, 24, 25, 26, 27, 28, 29, 30, 31, 32, 33, 34, 35, 36, 37, 38, 39, 40, 41, 42, 43, 44, 45, 46, 53, 54, 55, 56, 57, 58, 59, 60, 61, 62, 63, 64, 65, 47, 48, 49, 50, 51, 52, 66, 67, 68, 69, 70, 71, 72, 73, 74, 75] (by decide +kernel) (by decide +kernel)) (goodIn_sub (fun _ h => List.mem_cons_of_mem _ (List.mem_append_right _ h)) (by decide +kernel))
set_option maxRecDepth 20000 in
theorem gX9_settle_X9_halt : GoodIn wsX9_settle (wsV RX9 619 RX9 yX9_halt wsX9_halt) := goodIn_app (goodIn_of _ (by decide +kernel)) ggX9_settle_X9_halt
set_option maxRecDepth 20000 in
theorem ggX9_settle_X9_endFirst : GoodIn wsX9_settle wsX9_endFirst := goodIn_ca (goodIn_r _ [9, 10, 11, 12, 13, 14, 15, 16, 17, 18, 19, 20, 21, 22, 23, 24, 25, 26, 27, 28, 29, 30, 31, 32, 53, 54, 55, 56, 57, 58, 59, 60, 61, 62, 63, 64, 65, 33, 34, 35, 36, 37, 38, 39, 40, 41, 42, 43, 44, 45, 46, 47, 48, 49, 50, 51, 52, 66, 67, 68, 69, 70, 71, 72, 73, 74, 75] (by decide +kernel) (by decide +kernel)) (goodIn_sub (fun _ h => List.mem_cons_of_mem _ (List.mem_append_right _ h)) (by decide +kernel))
set_option maxRecDepth 20000 in
theorem gX9_settle_X9_endFirst : GoodIn wsX9_settle (wsV RX9 391 RX9 yX9_endFirst wsX9_endFirst) := goodIn_app (goodIn_of _ (by decide +kernel)) ggX9_settle_X9_endFirst
theorem dX9_settle_0 : decode cX9_settle 0 = .ok (.iload_n 3, 1) := by decide +kernel
theorem dX9_settle_1 : decode cX9_settle 1 = .ok (.iconst 2, 1) := by decide +kernel
theorem dX9_settle_2 : decode cX9_settle 2 = .ok (.if_icmp .ne 9, 3) := by decide +kernel
theorem dX9_settle_5 : decode cX9_settle 5 = .ok (.aload_n 1, 1) := by decide +kernel
theorem dX9_settle_6 : decode cX9_settle 6 = .ok (.iconst 1, 1) := by decide +kernel
theorem dX9_settle_7 : decode cX9_settle 7 = .ok (.putfield 427, 3) := by decide +kernel
theorem dX9_settle_10 : decode cX9_settle 10 = .ok (.return_, 1) := by decide +kernel
theorem dX9_settle_11 : decode cX9_settle 11 = .ok (.iload_n 3, 1) := by decide +kernel
theorem dX9_settle_12 : decode cX9_settle 12 = .ok (.iconst 1, 1) := by decide +kernel
theorem dX9_settle_13 : decode cX9_settle 13 = .ok (.if_icmp .ne 21, 3) := by decide +kernel
theorem dX9_settle_16 : decode cX9_settle 16 = .ok (.aload_n 1, 1) := by decide +kernel
theorem dX9_settle_17 : decode cX9_settle 17 = .ok (.iconst 1, 1) := by decide +kernel
theorem dX9_settle_18 : decode cX9_settle 18 = .ok (.putfield 427, 3) := by decide +kernel
theorem dX9_settle_21 : decode cX9_settle 21 = .ok (.aload_n 1, 1) := by decide +kernel
theorem dX9_settle_22 : decode cX9_settle 22 = .ok (.dup, 1) := by decide +kernel
theorem dX9_settle_23 : decode cX9_settle 23 = .ok (.getfield 616, 3) := by decide +kernel
theorem dX9_settle_26 : decode cX9_settle 26 = .ok (.iconst 1, 1) := by decide +kernel
theorem dX9_settle_27 : decode cX9_settle 27 = .ok (.iadd, 1) := by decide +kernel
theorem dX9_settle_28 : decode cX9_settle 28 = .ok (.putfield 616, 3) := by decide +kernel
theorem dX9_settle_31 : decode cX9_settle 31 = .ok (.goto 8, 3) := by decide +kernel
theorem dX9_settle_34 : decode cX9_settle 34 = .ok (.aload_n 1, 1) := by decide +kernel
theorem dX9_settle_35 : decode cX9_settle 35 = .ok (.iconst 0, 1) := by decide +kernel
theorem dX9_settle_36 : decode cX9_settle 36 = .ok (.putfield 616, 3) := by decide +kernel
theorem dX9_settle_39 : decode cX9_settle 39 = .ok (.iload_n 3, 1) := by decide +kernel
theorem dX9_settle_40 : decode cX9_settle 40 = .ok (.iconst 3, 1) := by decide +kernel
theorem dX9_settle_41 : decode cX9_settle 41 = .ok (.if_icmp .ne 15, 3) := by decide +kernel
theorem dX9_settle_44 : decode cX9_settle 44 = .ok (.aload_n 0, 1) := by decide +kernel
theorem dX9_settle_45 : decode cX9_settle 45 = .ok (.aload_n 1, 1) := by decide +kernel
theorem dX9_settle_46 : decode cX9_settle 46 = .ok (.bipush 115, 2) := by decide +kernel
theorem dX9_settle_48 : decode cX9_settle 48 = .ok (.bipush 115, 2) := by decide +kernel
theorem dX9_settle_50 : decode cX9_settle 50 = .ok (.invokevirtual 619, 3) := by decide +kernel
theorem dX9_settle_53 : decode cX9_settle 53 = .ok (.goto 70, 3) := by decide +kernel
theorem dX9_settle_56 : decode cX9_settle 56 = .ok (.aload_n 2, 1) := by decide +kernel
theorem dX9_settle_57 : decode cX9_settle 57 = .ok (.getfield 388, 3) := by decide +kernel
theorem dX9_settle_60 : decode cX9_settle 60 = .ok (.aload_n 2, 1) := by decide +kernel
theorem dX9_settle_61 : decode cX9_settle 61 = .ok (.getfield 590, 3) := by decide +kernel
theorem dX9_settle_64 : decode cX9_settle 64 = .ok (.if_icmp .lt 25, 3) := by decide +kernel
theorem dX9_settle_67 : decode cX9_settle 67 = .ok (.aload_n 0, 1) := by decide +kernel
theorem dX9_settle_68 : decode cX9_settle 68 = .ok (.aload_n 1, 1) := by decide +kernel
theorem dX9_settle_69 : decode cX9_settle 69 = .ok (.aload_n 2, 1) := by decide +kernel
theorem dX9_settle_70 : decode cX9_settle 70 = .ok (.getfield 623, 3) := by decide +kernel
theorem dX9_settle_73 : decode cX9_settle 73 = .ok (.ifCond .eq 8, 3) := by decide +kernel
theorem dX9_settle_76 : decode cX9_settle 76 = .ok (.bipush 108, 2) := by decide +kernel
theorem dX9_settle_78 : decode cX9_settle 78 = .ok (.goto 5, 3) := by decide +kernel
theorem dX9_settle_81 : decode cX9_settle 81 = .ok (.bipush 100, 2) := by decide +kernel
theorem dX9_settle_83 : decode cX9_settle 83 = .ok (.invokevirtual 391, 3) := by decide +kernel
theorem dX9_settle_86 : decode cX9_settle 86 = .ok (.goto 37, 3) := by decide +kernel
theorem dX9_settle_89 : decode cX9_settle 89 = .ok (.aload_n 2, 1) := by decide +kernel
theorem dX9_settle_90 : decode cX9_settle 90 = .ok (.getfield 626, 3) := by decide +kernel
theorem dX9_settle_93 : decode cX9_settle 93 = .ok (.ifCond .eq 13, 3) := by decide +kernel
theorem dX9_settle_96 : decode cX9_settle 96 = .ok (.aload_n 0, 1) := by decide +kernel
theorem dX9_settle_97 : decode cX9_settle 97 = .ok (.aload_n 1, 1) := by decide +kernel
theorem dX9_settle_98 : decode cX9_settle 98 = .ok (.bipush 104, 2) := by decide +kernel
theorem dX9_settle_100 : decode cX9_settle 100 = .ok (.invokevirtual 391, 3) := by decide +kernel
theorem dX9_settle_103 : decode cX9_settle 103 = .ok (.goto 20, 3) := by decide +kernel
theorem dX9_settle_106 : decode cX9_settle 106 = .ok (.aload_n 1, 1) := by decide +kernel
theorem dX9_settle_107 : decode cX9_settle 107 = .ok (.getfield 616, 3) := by decide +kernel
theorem dX9_settle_110 : decode cX9_settle 110 = .ok (.iconst 3, 1) := by decide +kernel
theorem dX9_settle_111 : decode cX9_settle 111 = .ok (.if_icmp .lt 12, 3) := by decide +kernel
theorem dX9_settle_114 : decode cX9_settle 114 = .ok (.aload_n 0, 1) := by decide +kernel
theorem dX9_settle_115 : decode cX9_settle 115 = .ok (.aload_n 1, 1) := by decide +kernel
theorem dX9_settle_116 : decode cX9_settle 116 = .ok (.bipush 101, 2) := by decide +kernel
theorem dX9_settle_118 : decode cX9_settle 118 = .ok (.iload 4, 2) := by decide +kernel
theorem dX9_settle_120 : decode cX9_settle 120 = .ok (.invokevirtual 619, 3) := by decide +kernel
theorem dX9_settle_123 : decode cX9_settle 123 = .ok (.return_, 1) := by decide +kernel
set_option maxRecDepth 20000 in
theorem ggX9_halt_X9_endFirst : GoodIn wsX9_halt wsX9_endFirst := goodIn_ca (goodIn_r _ [5, 6, 7, 8, 9, 10, 11, 12, 13, 14, 15, 16, 17, 18, 19, 20, 21, 22, 23, 24, 25, 26, 27, 28, 43, 44, 45, 46, 47, 48, 49, 50, 51, 52, 53, 54, 55, 29, 30, 31, 32, 33, 34, 35, 36, 37, 38, 39, 40, 41, 42, 56, 57, 58, 59, 60, 61, 62, 63, 64, 65, 66, 67, 68, 69, 70, 71] (by decide +kernel) (by decide +kernel)) (goodIn_sub (fun _ h => List.mem_cons_of_mem _ (List.mem_append_right _ h)) (by decide +kernel))
set_option maxRecDepth 20000 in
theorem gX9_halt_X9_endFirst : GoodIn wsX9_halt (wsV RX9 391 RX9 yX9_endFirst wsX9_endFirst) := goodIn_app (goodIn_of _ (by decide +kernel)) ggX9_halt_X9_endFirst
theorem dX9_halt_0 : decode cX9_halt 0 = .ok (.aload_n 0, 1) := by decide +kernel
theorem dX9_halt_1 : decode cX9_halt 1 = .ok (.aload_n 1, 1) := by decide +kernel
theorem dX9_halt_2 : decode cX9_halt 2 = .ok (.iload_n 2, 1) := by decide +kernel
theorem dX9_halt_3 : decode cX9_halt 3 = .ok (.invokevirtual 391, 3) := by decide +kernel
theorem dX9_halt_6 : decode cX9_halt 6 = .ok (.aload_n 1, 1) := by decide +kernel
theorem dX9_halt_7 : decode cX9_halt 7 = .ok (.iconst 1, 1) := by decide +kernel
theorem dX9_halt_8 : decode cX9_halt 8 = .ok (.putfield 380, 3) := by decide +kernel
theorem dX9_halt_11 : decode cX9_halt 11 = .ok (.aload_n 1, 1) := by decide +kernel
theorem dX9_halt_12 : decode cX9_halt 12 = .ok (.iload_n 3, 1) := by decide +kernel
theorem dX9_halt_13 : decode cX9_halt 13 = .ok (.putfield 492, 3) := by decide +kernel
theorem dX9_halt_16 : decode cX9_halt 16 = .ok (.return_, 1) := by decide +kernel
set_option maxRecDepth 20000 in
theorem ggX9_passSound_X9_receive : GoodIn wsX9_passSound wsX9_receive := goodIn_ca (goodIn_r _ [6, 7, 8, 9, 10, 11, 12, 13, 14, 15, 16, 17, 18, 40, 41, 42, 43, 44, 45, 46, 47, 48, 49, 50, 51, 52, 31, 32, 33, 34, 35, 36, 37, 38, 39, 62, 63, 64, 65] (by decide +kernel) (by decide +kernel)) (goodIn_sub (fun _ h => List.mem_cons_of_mem _ (List.mem_append_right _ h)) (by decide +kernel))
set_option maxRecDepth 20000 in
theorem gX9_passSound_X9_receive : GoodIn wsX9_passSound (wsV RX9 632 RX9 yX9_receive wsX9_receive) := goodIn_app (goodIn_of _ (by decide +kernel)) ggX9_passSound_X9_receive
set_option maxRecDepth 20000 in
theorem ggX9_passSound_X2_takeFrom : GoodIn wsX9_passSound wsX2_takeFrom := goodIn_ca (goodIn_r _ [22, 23, 14, 9, 15, 16, 12, 13, 17, 18, 31, 32, 33, 34, 35, 36, 37, 38, 39, 56, 57, 58, 59, 60, 61, 62, 63, 64, 65] (by decide +kernel) (by decide +kernel)) (goodIn_sub (fun _ h => List.mem_cons_of_mem _ (List.mem_append_right _ h)) (by decide +kernel))
set_option maxRecDepth 20000 in
theorem gX9_passSound_X2_takeFrom_n636 : GoodIn wsX9_passSound (wsX2_takeFrom) := ggX9_passSound_X2_takeFrom
set_option maxRecDepth 20000 in
theorem ggX9_passSound_X0_drop : GoodIn wsX9_passSound wsX0_drop := goodIn_r _ [26, 17, 27, 28, 29, 30, 13, 62, 63, 64, 65] (by decide +kernel) (by decide +kernel)
set_option maxRecDepth 20000 in
theorem gX9_passSound_X0_drop_n274 : GoodIn wsX9_passSound (wsX0_drop) := ggX9_passSound_X0_drop
theorem dX9_passSound_0 : decode cX9_passSound 0 = .ok (.aload_n 1, 1) := by decide +kernel
theorem dX9_passSound_1 : decode cX9_passSound 1 = .ok (.getfield 144, 3) := by decide +kernel
theorem dX9_passSound_4 : decode cX9_passSound 4 = .ok (.ifCond .eq 12, 3) := by decide +kernel
theorem dX9_passSound_7 : decode cX9_passSound 7 = .ok (.iload 4, 2) := by decide +kernel
theorem dX9_passSound_9 : decode cX9_passSound 9 = .ok (.bipush 98, 2) := by decide +kernel
theorem dX9_passSound_11 : decode cX9_passSound 11 = .ok (.if_icmp .ne 5, 3) := by decide +kernel
theorem dX9_passSound_14 : decode cX9_passSound 14 = .ok (.iconst 4, 1) := by decide +kernel
theorem dX9_passSound_15 : decode cX9_passSound 15 = .ok (.ireturn, 1) := by decide +kernel
theorem dX9_passSound_16 : decode cX9_passSound 16 = .ok (.iload_n 3, 1) := by decide +kernel
theorem dX9_passSound_17 : decode cX9_passSound 17 = .ok (.ifCond .ne 5, 3) := by decide +kernel
theorem dX9_passSound_20 : decode cX9_passSound 20 = .ok (.iconst 2, 1) := by decide +kernel
theorem dX9_passSound_21 : decode cX9_passSound 21 = .ok (.ireturn, 1) := by decide +kernel
theorem dX9_passSound_22 : decode cX9_passSound 22 = .ok (.iload 4, 2) := by decide +kernel
theorem dX9_passSound_24 : decode cX9_passSound 24 = .ok (.bipush 32, 2) := by decide +kernel
theorem dX9_passSound_26 : decode cX9_passSound 26 = .ok (.if_icmp .eq 17, 3) := by decide +kernel
theorem dX9_passSound_29 : decode cX9_passSound 29 = .ok (.iload 4, 2) := by decide +kernel
theorem dX9_passSound_31 : decode cX9_passSound 31 = .ok (.bipush 100, 2) := by decide +kernel
theorem dX9_passSound_33 : decode cX9_passSound 33 = .ok (.if_icmp .eq 10, 3) := by decide +kernel
theorem dX9_passSound_36 : decode cX9_passSound 36 = .ok (.iload 4, 2) := by decide +kernel
theorem dX9_passSound_38 : decode cX9_passSound 38 = .ok (.bipush 97, 2) := by decide +kernel
theorem dX9_passSound_40 : decode cX9_passSound 40 = .ok (.if_icmp .ne 7, 3) := by decide +kernel
theorem dX9_passSound_43 : decode cX9_passSound 43 = .ok (.iconst 1, 1) := by decide +kernel
theorem dX9_passSound_44 : decode cX9_passSound 44 = .ok (.goto 4, 3) := by decide +kernel
theorem dX9_passSound_47 : decode cX9_passSound 47 = .ok (.iconst 0, 1) := by decide +kernel
theorem dX9_passSound_48 : decode cX9_passSound 48 = .ok (.istore 5, 2) := by decide +kernel
theorem dX9_passSound_50 : decode cX9_passSound 50 = .ok (.iload 5, 2) := by decide +kernel
theorem dX9_passSound_52 : decode cX9_passSound 52 = .ok (.ifCond .eq 26, 3) := by decide +kernel
theorem dX9_passSound_55 : decode cX9_passSound 55 = .ok (.aload_n 0, 1) := by decide +kernel
theorem dX9_passSound_56 : decode cX9_passSound 56 = .ok (.getfield 59, 3) := by decide +kernel
theorem dX9_passSound_59 : decode cX9_passSound 59 = .ok (.dup, 1) := by decide +kernel
theorem dX9_passSound_60 : decode cX9_passSound 60 = .ok (.getfield 481, 3) := by decide +kernel
theorem dX9_passSound_63 : decode cX9_passSound 63 = .ok (.iconst 1, 1) := by decide +kernel
theorem dX9_passSound_64 : decode cX9_passSound 64 = .ok (.iadd, 1) := by decide +kernel
theorem dX9_passSound_65 : decode cX9_passSound 65 = .ok (.putfield 481, 3) := by decide +kernel
theorem dX9_passSound_68 : decode cX9_passSound 68 = .ok (.aload_n 1, 1) := by decide +kernel
theorem dX9_passSound_69 : decode cX9_passSound 69 = .ok (.dup, 1) := by decide +kernel
theorem dX9_passSound_70 : decode cX9_passSound 70 = .ok (.getfield 629, 3) := by decide +kernel
theorem dX9_passSound_73 : decode cX9_passSound 73 = .ok (.iload_n 3, 1) := by decide +kernel
theorem dX9_passSound_74 : decode cX9_passSound 74 = .ok (.iadd, 1) := by decide +kernel
theorem dX9_passSound_75 : decode cX9_passSound 75 = .ok (.putfield 629, 3) := by decide +kernel
theorem dX9_passSound_78 : decode cX9_passSound 78 = .ok (.iload 4, 2) := by decide +kernel
theorem dX9_passSound_80 : decode cX9_passSound 80 = .ok (.bipush 32, 2) := by decide +kernel
theorem dX9_passSound_82 : decode cX9_passSound 82 = .ok (.if_icmp .eq 11, 3) := by decide +kernel
theorem dX9_passSound_85 : decode cX9_passSound 85 = .ok (.aload_n 2, 1) := by decide +kernel
theorem dX9_passSound_86 : decode cX9_passSound 86 = .ok (.iconst 1, 1) := by decide +kernel
theorem dX9_passSound_87 : decode cX9_passSound 87 = .ok (.putfield 623, 3) := by decide +kernel
theorem dX9_passSound_90 : decode cX9_passSound 90 = .ok (.goto 25, 3) := by decide +kernel
theorem dX9_passSound_93 : decode cX9_passSound 93 = .ok (.aload_n 1, 1) := by decide +kernel
theorem dX9_passSound_94 : decode cX9_passSound 94 = .ok (.getfield 144, 3) := by decide +kernel
theorem dX9_passSound_97 : decode cX9_passSound 97 = .ok (.ifCond .eq 12, 3) := by decide +kernel
theorem dX9_passSound_100 : decode cX9_passSound 100 = .ok (.aload_n 0, 1) := by decide +kernel
theorem dX9_passSound_101 : decode cX9_passSound 101 = .ok (.aload_n 1, 1) := by decide +kernel
theorem dX9_passSound_102 : decode cX9_passSound 102 = .ok (.iload_n 3, 1) := by decide +kernel
theorem dX9_passSound_103 : decode cX9_passSound 103 = .ok (.invokevirtual 632, 3) := by decide +kernel
theorem dX9_passSound_106 : decode cX9_passSound 106 = .ok (.goto 9, 3) := by decide +kernel
theorem dX9_passSound_109 : decode cX9_passSound 109 = .ok (.aload_n 1, 1) := by decide +kernel
theorem dX9_passSound_110 : decode cX9_passSound 110 = .ok (.aload_n 2, 1) := by decide +kernel
theorem dX9_passSound_111 : decode cX9_passSound 111 = .ok (.iload_n 3, 1) := by decide +kernel
theorem dX9_passSound_112 : decode cX9_passSound 112 = .ok (.invokevirtual 636, 3) := by decide +kernel
theorem dX9_passSound_115 : decode cX9_passSound 115 = .ok (.aload_n 1, 1) := by decide +kernel
theorem dX9_passSound_116 : decode cX9_passSound 116 = .ok (.getfield 144, 3) := by decide +kernel
theorem dX9_passSound_119 : decode cX9_passSound 119 = .ok (.ifCond .eq 28, 3) := by decide +kernel
theorem dX9_passSound_122 : decode cX9_passSound 122 = .ok (.aload_n 1, 1) := by decide +kernel
theorem dX9_passSound_123 : decode cX9_passSound 123 = .ok (.getfield 395, 3) := by decide +kernel
theorem dX9_passSound_126 : decode cX9_passSound 126 = .ok (.iload_n 3, 1) := by decide +kernel
theorem dX9_passSound_127 : decode cX9_passSound 127 = .ok (.invokevirtual 274, 3) := by decide +kernel
theorem dX9_passSound_130 : decode cX9_passSound 130 = .ok (.aload_n 2, 1) := by decide +kernel
theorem dX9_passSound_131 : decode cX9_passSound 131 = .ok (.iload_n 3, 1) := by decide +kernel
theorem dX9_passSound_132 : decode cX9_passSound 132 = .ok (.aload_n 1, 1) := by decide +kernel
theorem dX9_passSound_133 : decode cX9_passSound 133 = .ok (.getfield 147, 3) := by decide +kernel
theorem dX9_passSound_136 : decode cX9_passSound 136 = .ok (.if_icmp .ge 7, 3) := by decide +kernel
theorem dX9_passSound_139 : decode cX9_passSound 139 = .ok (.iconst 1, 1) := by decide +kernel
theorem dX9_passSound_140 : decode cX9_passSound 140 = .ok (.goto 4, 3) := by decide +kernel
theorem dX9_passSound_143 : decode cX9_passSound 143 = .ok (.iconst 0, 1) := by decide +kernel
theorem dX9_passSound_144 : decode cX9_passSound 144 = .ok (.putfield 626, 3) := by decide +kernel
theorem dX9_passSound_147 : decode cX9_passSound 147 = .ok (.aload_n 2, 1) := by decide +kernel
theorem dX9_passSound_148 : decode cX9_passSound 148 = .ok (.dup, 1) := by decide +kernel
theorem dX9_passSound_149 : decode cX9_passSound 149 = .ok (.getfield 388, 3) := by decide +kernel
theorem dX9_passSound_152 : decode cX9_passSound 152 = .ok (.iload_n 3, 1) := by decide +kernel
theorem dX9_passSound_153 : decode cX9_passSound 153 = .ok (.iadd, 1) := by decide +kernel
theorem dX9_passSound_154 : decode cX9_passSound 154 = .ok (.putfield 388, 3) := by decide +kernel
theorem dX9_passSound_157 : decode cX9_passSound 157 = .ok (.iconst 0, 1) := by decide +kernel
theorem dX9_passSound_158 : decode cX9_passSound 158 = .ok (.ireturn, 1) := by decide +kernel
set_option maxRecDepth 20000 in
theorem ggX9_passOut_X2_takeFrom : GoodIn wsX9_passOut wsX2_takeFrom := goodIn_ca (goodIn_r _ [5, 6, 7, 8, 9, 10, 11, 12, 13, 14, 31, 32, 33, 34, 35, 36, 37, 38, 39, 54, 55, 56, 57, 58, 59, 60, 61, 62, 63] (by decide +kernel) (by decide +kernel)) (goodIn_sub (fun _ h => List.mem_cons_of_mem _ (List.mem_append_right _ h)) (by decide +kernel))
set_option maxRecDepth 20000 in
theorem gX9_passOut_X2_takeFrom_n636 : GoodIn wsX9_passOut (wsX2_takeFrom) := ggX9_passOut_X2_takeFrom
theorem dX9_passOut_0 : decode cX9_passOut 0 = .ok (.iload 5, 2) := by decide +kernel
theorem dX9_passOut_2 : decode cX9_passOut 2 = .ok (.bipush 99, 2) := by decide +kernel
theorem dX9_passOut_4 : decode cX9_passOut 4 = .ok (.if_icmp .eq 17, 3) := by decide +kernel
theorem dX9_passOut_7 : decode cX9_passOut 7 = .ok (.iload 5, 2) := by decide +kernel
theorem dX9_passOut_9 : decode cX9_passOut 9 = .ok (.bipush 98, 2) := by decide +kernel
theorem dX9_passOut_11 : decode cX9_passOut 11 = .ok (.if_icmp .eq 10, 3) := by decide +kernel
theorem dX9_passOut_14 : decode cX9_passOut 14 = .ok (.iload 5, 2) := by decide +kernel
theorem dX9_passOut_16 : decode cX9_passOut 16 = .ok (.bipush 116, 2) := by decide +kernel
theorem dX9_passOut_18 : decode cX9_passOut 18 = .ok (.if_icmp .ne 5, 3) := by decide +kernel
theorem dX9_passOut_21 : decode cX9_passOut 21 = .ok (.iconst 1, 1) := by decide +kernel
theorem dX9_passOut_22 : decode cX9_passOut 22 = .ok (.ireturn, 1) := by decide +kernel
theorem dX9_passOut_23 : decode cX9_passOut 23 = .ok (.iload 5, 2) := by decide +kernel
theorem dX9_passOut_25 : decode cX9_passOut 25 = .ok (.bipush 110, 2) := by decide +kernel
theorem dX9_passOut_27 : decode cX9_passOut 27 = .ok (.if_icmp .eq 10, 3) := by decide +kernel
theorem dX9_passOut_30 : decode cX9_passOut 30 = .ok (.iload 5, 2) := by decide +kernel
theorem dX9_passOut_32 : decode cX9_passOut 32 = .ok (.bipush 115, 2) := by decide +kernel
theorem dX9_passOut_34 : decode cX9_passOut 34 = .ok (.if_icmp .ne 29, 3) := by decide +kernel
theorem dX9_passOut_37 : decode cX9_passOut 37 = .ok (.aload_n 0, 1) := by decide +kernel
theorem dX9_passOut_38 : decode cX9_passOut 38 = .ok (.getfield 59, 3) := by decide +kernel
theorem dX9_passOut_41 : decode cX9_passOut 41 = .ok (.dup, 1) := by decide +kernel
theorem dX9_passOut_42 : decode cX9_passOut 42 = .ok (.getfield 484, 3) := by decide +kernel
theorem dX9_passOut_45 : decode cX9_passOut 45 = .ok (.iconst 1, 1) := by decide +kernel
theorem dX9_passOut_46 : decode cX9_passOut 46 = .ok (.iadd, 1) := by decide +kernel
theorem dX9_passOut_47 : decode cX9_passOut 47 = .ok (.putfield 484, 3) := by decide +kernel
theorem dX9_passOut_50 : decode cX9_passOut 50 = .ok (.iload 5, 2) := by decide +kernel
theorem dX9_passOut_52 : decode cX9_passOut 52 = .ok (.bipush 110, 2) := by decide +kernel
theorem dX9_passOut_54 : decode cX9_passOut 54 = .ok (.if_icmp .ne 7, 3) := by decide +kernel
theorem dX9_passOut_57 : decode cX9_passOut 57 = .ok (.iconst 2, 1) := by decide +kernel
theorem dX9_passOut_58 : decode cX9_passOut 58 = .ok (.goto 4, 3) := by decide +kernel
theorem dX9_passOut_61 : decode cX9_passOut 61 = .ok (.iconst 3, 1) := by decide +kernel
theorem dX9_passOut_62 : decode cX9_passOut 62 = .ok (.ireturn, 1) := by decide +kernel
theorem dX9_passOut_63 : decode cX9_passOut 63 = .ok (.aload_n 0, 1) := by decide +kernel
theorem dX9_passOut_64 : decode cX9_passOut 64 = .ok (.getfield 59, 3) := by decide +kernel
theorem dX9_passOut_67 : decode cX9_passOut 67 = .ok (.dup, 1) := by decide +kernel
theorem dX9_passOut_68 : decode cX9_passOut 68 = .ok (.getfield 481, 3) := by decide +kernel
theorem dX9_passOut_71 : decode cX9_passOut 71 = .ok (.iconst 1, 1) := by decide +kernel
theorem dX9_passOut_72 : decode cX9_passOut 72 = .ok (.iadd, 1) := by decide +kernel
theorem dX9_passOut_73 : decode cX9_passOut 73 = .ok (.putfield 481, 3) := by decide +kernel
theorem dX9_passOut_76 : decode cX9_passOut 76 = .ok (.aload_n 2, 1) := by decide +kernel
theorem dX9_passOut_77 : decode cX9_passOut 77 = .ok (.dup, 1) := by decide +kernel
theorem dX9_passOut_78 : decode cX9_passOut 78 = .ok (.getfield 629, 3) := by decide +kernel
theorem dX9_passOut_81 : decode cX9_passOut 81 = .ok (.iload 4, 2) := by decide +kernel
theorem dX9_passOut_83 : decode cX9_passOut 83 = .ok (.iadd, 1) := by decide +kernel
theorem dX9_passOut_84 : decode cX9_passOut 84 = .ok (.putfield 629, 3) := by decide +kernel
theorem dX9_passOut_87 : decode cX9_passOut 87 = .ok (.aload_n 2, 1) := by decide +kernel
theorem dX9_passOut_88 : decode cX9_passOut 88 = .ok (.getfield 640, 3) := by decide +kernel
theorem dX9_passOut_91 : decode cX9_passOut 91 = .ok (.aload_n 1, 1) := by decide +kernel
theorem dX9_passOut_92 : decode cX9_passOut 92 = .ok (.getfield 643, 3) := by decide +kernel
theorem dX9_passOut_95 : decode cX9_passOut 95 = .ok (.if_icmp .ne 20, 3) := by decide +kernel
theorem dX9_passOut_98 : decode cX9_passOut 98 = .ok (.aload_n 2, 1) := by decide +kernel
theorem dX9_passOut_99 : decode cX9_passOut 99 = .ok (.aload_n 3, 1) := by decide +kernel
theorem dX9_passOut_100 : decode cX9_passOut 100 = .ok (.iload 4, 2) := by decide +kernel
theorem dX9_passOut_102 : decode cX9_passOut 102 = .ok (.invokevirtual 636, 3) := by decide +kernel
theorem dX9_passOut_105 : decode cX9_passOut 105 = .ok (.aload_n 2, 1) := by decide +kernel
theorem dX9_passOut_106 : decode cX9_passOut 106 = .ok (.iconst 1, 1) := by decide +kernel
theorem dX9_passOut_107 : decode cX9_passOut 107 = .ok (.aload_n 2, 1) := by decide +kernel
theorem dX9_passOut_108 : decode cX9_passOut 108 = .ok (.getfield 640, 3) := by decide +kernel
theorem dX9_passOut_111 : decode cX9_passOut 111 = .ok (.isub, 1) := by decide +kernel
theorem dX9_passOut_112 : decode cX9_passOut 112 = .ok (.putfield 640, 3) := by decide +kernel
theorem dX9_passOut_115 : decode cX9_passOut 115 = .ok (.iload 5, 2) := by decide +kernel
theorem dX9_passOut_117 : decode cX9_passOut 117 = .ok (.bipush 32, 2) := by decide +kernel
theorem dX9_passOut_119 : decode cX9_passOut 119 = .ok (.if_icmp .eq 5, 3) := by decide +kernel
theorem dX9_passOut_122 : decode cX9_passOut 122 = .ok (.iconst 1, 1) := by decide +kernel
theorem dX9_passOut_123 : decode cX9_passOut 123 = .ok (.ireturn, 1) := by decide +kernel
theorem dX9_passOut_124 : decode cX9_passOut 124 = .ok (.aload_n 0, 1) := by decide +kernel
theorem dX9_passOut_125 : decode cX9_passOut 125 = .ok (.getfield 59, 3) := by decide +kernel
theorem dX9_passOut_128 : decode cX9_passOut 128 = .ok (.dup, 1) := by decide +kernel
theorem dX9_passOut_129 : decode cX9_passOut 129 = .ok (.getfield 484, 3) := by decide +kernel
theorem dX9_passOut_132 : decode cX9_passOut 132 = .ok (.iconst 1, 1) := by decide +kernel
theorem dX9_passOut_133 : decode cX9_passOut 133 = .ok (.iadd, 1) := by decide +kernel
theorem dX9_passOut_134 : decode cX9_passOut 134 = .ok (.putfield 484, 3) := by decide +kernel
theorem dX9_passOut_137 : decode cX9_passOut 137 = .ok (.aload_n 1, 1) := by decide +kernel
theorem dX9_passOut_138 : decode cX9_passOut 138 = .ok (.iconst 1, 1) := by decide +kernel
theorem dX9_passOut_139 : decode cX9_passOut 139 = .ok (.aload_n 1, 1) := by decide +kernel
theorem dX9_passOut_140 : decode cX9_passOut 140 = .ok (.getfield 643, 3) := by decide +kernel
theorem dX9_passOut_143 : decode cX9_passOut 143 = .ok (.isub, 1) := by decide +kernel
theorem dX9_passOut_144 : decode cX9_passOut 144 = .ok (.putfield 643, 3) := by decide +kernel
theorem dX9_passOut_147 : decode cX9_passOut 147 = .ok (.aload_n 3, 1) := by decide +kernel
theorem dX9_passOut_148 : decode cX9_passOut 148 = .ok (.dup, 1) := by decide +kernel
theorem dX9_passOut_149 : decode cX9_passOut 149 = .ok (.getfield 388, 3) := by decide +kernel
theorem dX9_passOut_152 : decode cX9_passOut 152 = .ok (.iload 4, 2) := by decide +kernel
theorem dX9_passOut_154 : decode cX9_passOut 154 = .ok (.iadd, 1) := by decide +kernel
theorem dX9_passOut_155 : decode cX9_passOut 155 = .ok (.putfield 388, 3) := by decide +kernel
theorem dX9_passOut_158 : decode cX9_passOut 158 = .ok (.iconst 0, 1) := by decide +kernel
theorem dX9_passOut_159 : decode cX9_passOut 159 = .ok (.ireturn, 1) := by decide +kernel
set_option maxRecDepth 20000 in
theorem ggX9_passIn_X2_forget : GoodIn wsX9_passIn wsX2_forget := goodIn_r _ [5, 6, 7, 8, 9, 10, 11, 12, 13, 14, 15, 16, 17, 68, 69, 70, 71, 72, 73, 74, 75, 76, 97, 98, 99, 100] (by decide +kernel) (by decide +kernel)
set_option maxRecDepth 20000 in
theorem gX9_passIn_X2_forget_n644 : GoodIn wsX9_passIn (wsX2_forget) := ggX9_passIn_X2_forget
set_option maxRecDepth 20000 in
theorem ggX9_passIn_X9_receive : GoodIn wsX9_passIn wsX9_receive := goodIn_ca (goodIn_r _ [22, 23, 24, 9, 25, 26, 27, 17, 28, 29, 30, 12, 31, 32, 33, 34, 35, 36, 37, 38, 39, 40, 41, 42, 43, 44, 68, 69, 70, 71, 72, 73, 74, 75, 76, 97, 98, 99, 100] (by decide +kernel) (by decide +kernel)) (goodIn_sub (fun _ h => List.mem_cons_of_mem _ (List.mem_append_right _ h)) (by decide +kernel))
set_option maxRecDepth 20000 in
theorem gX9_passIn_X9_receive : GoodIn wsX9_passIn (wsV RX9 632 RX9 yX9_receive wsX9_receive) := goodIn_app (goodIn_of _ (by decide +kernel)) ggX9_passIn_X9_receive
theorem dX9_passIn_0 : decode cX9_passIn 0 = .ok (.iload 6, 2) := by decide +kernel
theorem dX9_passIn_2 : decode cX9_passIn 2 = .ok (.bipush 99, 2) := by decide +kernel
theorem dX9_passIn_4 : decode cX9_passIn 4 = .ok (.if_icmp .ne 5, 3) := by decide +kernel
theorem dX9_passIn_7 : decode cX9_passIn 7 = .ok (.iconst 1, 1) := by decide +kernel
theorem dX9_passIn_8 : decode cX9_passIn 8 = .ok (.ireturn, 1) := by decide +kernel
theorem dX9_passIn_9 : decode cX9_passIn 9 = .ok (.iload 6, 2) := by decide +kernel
theorem dX9_passIn_11 : decode cX9_passIn 11 = .ok (.bipush 98, 2) := by decide +kernel
theorem dX9_passIn_13 : decode cX9_passIn 13 = .ok (.if_icmp .ne 5, 3) := by decide +kernel
theorem dX9_passIn_16 : decode cX9_passIn 16 = .ok (.iconst 4, 1) := by decide +kernel
theorem dX9_passIn_17 : decode cX9_passIn 17 = .ok (.ireturn, 1) := by decide +kernel
theorem dX9_passIn_18 : decode cX9_passIn 18 = .ok (.iload 6, 2) := by decide +kernel
theorem dX9_passIn_20 : decode cX9_passIn 20 = .ok (.bipush 115, 2) := by decide +kernel
theorem dX9_passIn_22 : decode cX9_passIn 22 = .ok (.if_icmp .ne 18, 3) := by decide +kernel
theorem dX9_passIn_25 : decode cX9_passIn 25 = .ok (.aload_n 0, 1) := by decide +kernel
theorem dX9_passIn_26 : decode cX9_passIn 26 = .ok (.getfield 59, 3) := by decide +kernel
theorem dX9_passIn_29 : decode cX9_passIn 29 = .ok (.dup, 1) := by decide +kernel
theorem dX9_passIn_30 : decode cX9_passIn 30 = .ok (.getfield 484, 3) := by decide +kernel
theorem dX9_passIn_33 : decode cX9_passIn 33 = .ok (.iconst 1, 1) := by decide +kernel
theorem dX9_passIn_34 : decode cX9_passIn 34 = .ok (.iadd, 1) := by decide +kernel
theorem dX9_passIn_35 : decode cX9_passIn 35 = .ok (.putfield 484, 3) := by decide +kernel
theorem dX9_passIn_38 : decode cX9_passIn 38 = .ok (.iconst 3, 1) := by decide +kernel
theorem dX9_passIn_39 : decode cX9_passIn 39 = .ok (.ireturn, 1) := by decide +kernel
theorem dX9_passIn_40 : decode cX9_passIn 40 = .ok (.iload 6, 2) := by decide +kernel
theorem dX9_passIn_42 : decode cX9_passIn 42 = .ok (.bipush 110, 2) := by decide +kernel
theorem dX9_passIn_44 : decode cX9_passIn 44 = .ok (.if_icmp .eq 8, 3) := by decide +kernel
theorem dX9_passIn_47 : decode cX9_passIn 47 = .ok (.iload 5, 2) := by decide +kernel
theorem dX9_passIn_49 : decode cX9_passIn 49 = .ok (.ifCond .ne 18, 3) := by decide +kernel
theorem dX9_passIn_52 : decode cX9_passIn 52 = .ok (.aload_n 0, 1) := by decide +kernel
theorem dX9_passIn_53 : decode cX9_passIn 53 = .ok (.getfield 59, 3) := by decide +kernel
theorem dX9_passIn_56 : decode cX9_passIn 56 = .ok (.dup, 1) := by decide +kernel
theorem dX9_passIn_57 : decode cX9_passIn 57 = .ok (.getfield 484, 3) := by decide +kernel
theorem dX9_passIn_60 : decode cX9_passIn 60 = .ok (.iconst 1, 1) := by decide +kernel
theorem dX9_passIn_61 : decode cX9_passIn 61 = .ok (.iadd, 1) := by decide +kernel
theorem dX9_passIn_62 : decode cX9_passIn 62 = .ok (.putfield 484, 3) := by decide +kernel
theorem dX9_passIn_65 : decode cX9_passIn 65 = .ok (.iconst 2, 1) := by decide +kernel
theorem dX9_passIn_66 : decode cX9_passIn 66 = .ok (.ireturn, 1) := by decide +kernel
theorem dX9_passIn_67 : decode cX9_passIn 67 = .ok (.aload_n 0, 1) := by decide +kernel
theorem dX9_passIn_68 : decode cX9_passIn 68 = .ok (.getfield 59, 3) := by decide +kernel
theorem dX9_passIn_71 : decode cX9_passIn 71 = .ok (.dup, 1) := by decide +kernel
theorem dX9_passIn_72 : decode cX9_passIn 72 = .ok (.getfield 481, 3) := by decide +kernel
theorem dX9_passIn_75 : decode cX9_passIn 75 = .ok (.iconst 1, 1) := by decide +kernel
theorem dX9_passIn_76 : decode cX9_passIn 76 = .ok (.iadd, 1) := by decide +kernel
theorem dX9_passIn_77 : decode cX9_passIn 77 = .ok (.putfield 481, 3) := by decide +kernel
theorem dX9_passIn_80 : decode cX9_passIn 80 = .ok (.iload 6, 2) := by decide +kernel
theorem dX9_passIn_82 : decode cX9_passIn 82 = .ok (.bipush 116, 2) := by decide +kernel
theorem dX9_passIn_84 : decode cX9_passIn 84 = .ok (.if_icmp .ne 34, 3) := by decide +kernel
theorem dX9_passIn_87 : decode cX9_passIn 87 = .ok (.aload_n 0, 1) := by decide +kernel
theorem dX9_passIn_88 : decode cX9_passIn 88 = .ok (.getfield 59, 3) := by decide +kernel
theorem dX9_passIn_91 : decode cX9_passIn 91 = .ok (.dup, 1) := by decide +kernel
theorem dX9_passIn_92 : decode cX9_passIn 92 = .ok (.getfield 484, 3) := by decide +kernel
theorem dX9_passIn_95 : decode cX9_passIn 95 = .ok (.iconst 1, 1) := by decide +kernel
theorem dX9_passIn_96 : decode cX9_passIn 96 = .ok (.iadd, 1) := by decide +kernel
theorem dX9_passIn_97 : decode cX9_passIn 97 = .ok (.putfield 484, 3) := by decide +kernel
theorem dX9_passIn_100 : decode cX9_passIn 100 = .ok (.aload_n 2, 1) := by decide +kernel
theorem dX9_passIn_101 : decode cX9_passIn 101 = .ok (.dup, 1) := by decide +kernel
theorem dX9_passIn_102 : decode cX9_passIn 102 = .ok (.getfield 489, 3) := by decide +kernel
theorem dX9_passIn_105 : decode cX9_passIn 105 = .ok (.iconst 1, 1) := by decide +kernel
theorem dX9_passIn_106 : decode cX9_passIn 106 = .ok (.iadd, 1) := by decide +kernel
theorem dX9_passIn_107 : decode cX9_passIn 107 = .ok (.putfield 489, 3) := by decide +kernel
theorem dX9_passIn_110 : decode cX9_passIn 110 = .ok (.aload_n 3, 1) := by decide +kernel
theorem dX9_passIn_111 : decode cX9_passIn 111 = .ok (.iload 5, 2) := by decide +kernel
theorem dX9_passIn_113 : decode cX9_passIn 113 = .ok (.invokevirtual 644, 3) := by decide +kernel
theorem dX9_passIn_116 : decode cX9_passIn 116 = .ok (.iconst 0, 1) := by decide +kernel
theorem dX9_passIn_117 : decode cX9_passIn 117 = .ok (.ireturn, 1) := by decide +kernel
theorem dX9_passIn_118 : decode cX9_passIn 118 = .ok (.aload_n 3, 1) := by decide +kernel
theorem dX9_passIn_119 : decode cX9_passIn 119 = .ok (.iload 5, 2) := by decide +kernel
theorem dX9_passIn_121 : decode cX9_passIn 121 = .ok (.putfield 594, 3) := by decide +kernel
theorem dX9_passIn_124 : decode cX9_passIn 124 = .ok (.iload 6, 2) := by decide +kernel
theorem dX9_passIn_126 : decode cX9_passIn 126 = .ok (.bipush 100, 2) := by decide +kernel
theorem dX9_passIn_128 : decode cX9_passIn 128 = .ok (.if_icmp .ne 5, 3) := by decide +kernel
theorem dX9_passIn_131 : decode cX9_passIn 131 = .ok (.iconst 1, 1) := by decide +kernel
theorem dX9_passIn_132 : decode cX9_passIn 132 = .ok (.ireturn, 1) := by decide +kernel
theorem dX9_passIn_133 : decode cX9_passIn 133 = .ok (.aload_n 3, 1) := by decide +kernel
theorem dX9_passIn_134 : decode cX9_passIn 134 = .ok (.getfield 640, 3) := by decide +kernel
theorem dX9_passIn_137 : decode cX9_passIn 137 = .ok (.aload_n 1, 1) := by decide +kernel
theorem dX9_passIn_138 : decode cX9_passIn 138 = .ok (.getfield 643, 3) := by decide +kernel
theorem dX9_passIn_141 : decode cX9_passIn 141 = .ok (.if_icmp .ne 51, 3) := by decide +kernel
theorem dX9_passIn_144 : decode cX9_passIn 144 = .ok (.aload_n 0, 1) := by decide +kernel
theorem dX9_passIn_145 : decode cX9_passIn 145 = .ok (.aload_n 3, 1) := by decide +kernel
theorem dX9_passIn_146 : decode cX9_passIn 146 = .ok (.iload 5, 2) := by decide +kernel
theorem dX9_passIn_148 : decode cX9_passIn 148 = .ok (.invokevirtual 632, 3) := by decide +kernel
theorem dX9_passIn_151 : decode cX9_passIn 151 = .ok (.aload_n 1, 1) := by decide +kernel
theorem dX9_passIn_152 : decode cX9_passIn 152 = .ok (.iconst 1, 1) := by decide +kernel
theorem dX9_passIn_153 : decode cX9_passIn 153 = .ok (.aload_n 1, 1) := by decide +kernel
theorem dX9_passIn_154 : decode cX9_passIn 154 = .ok (.getfield 643, 3) := by decide +kernel
theorem dX9_passIn_157 : decode cX9_passIn 157 = .ok (.isub, 1) := by decide +kernel
theorem dX9_passIn_158 : decode cX9_passIn 158 = .ok (.putfield 643, 3) := by decide +kernel
theorem dX9_passIn_161 : decode cX9_passIn 161 = .ok (.aload 4, 2) := by decide +kernel
theorem dX9_passIn_163 : decode cX9_passIn 163 = .ok (.dup, 1) := by decide +kernel
theorem dX9_passIn_164 : decode cX9_passIn 164 = .ok (.getfield 388, 3) := by decide +kernel
theorem dX9_passIn_167 : decode cX9_passIn 167 = .ok (.iload 5, 2) := by decide +kernel
theorem dX9_passIn_169 : decode cX9_passIn 169 = .ok (.iadd, 1) := by decide +kernel
theorem dX9_passIn_170 : decode cX9_passIn 170 = .ok (.putfield 388, 3) := by decide +kernel
theorem dX9_passIn_173 : decode cX9_passIn 173 = .ok (.aload 4, 2) := by decide +kernel
theorem dX9_passIn_175 : decode cX9_passIn 175 = .ok (.iload 5, 2) := by decide +kernel
theorem dX9_passIn_177 : decode cX9_passIn 177 = .ok (.aload_n 3, 1) := by decide +kernel
theorem dX9_passIn_178 : decode cX9_passIn 178 = .ok (.getfield 147, 3) := by decide +kernel
theorem dX9_passIn_181 : decode cX9_passIn 181 = .ok (.if_icmp .ge 7, 3) := by decide +kernel
theorem dX9_passIn_184 : decode cX9_passIn 184 = .ok (.iconst 1, 1) := by decide +kernel
theorem dX9_passIn_185 : decode cX9_passIn 185 = .ok (.goto 4, 3) := by decide +kernel
theorem dX9_passIn_188 : decode cX9_passIn 188 = .ok (.iconst 0, 1) := by decide +kernel
theorem dX9_passIn_189 : decode cX9_passIn 189 = .ok (.putfield 626, 3) := by decide +kernel
theorem dX9_passIn_192 : decode cX9_passIn 192 = .ok (.iload 6, 2) := by decide +kernel
theorem dX9_passIn_194 : decode cX9_passIn 194 = .ok (.bipush 97, 2) := by decide +kernel
theorem dX9_passIn_196 : decode cX9_passIn 196 = .ok (.if_icmp .ne 5, 3) := by decide +kernel
theorem dX9_passIn_199 : decode cX9_passIn 199 = .ok (.iconst 1, 1) := by decide +kernel
theorem dX9_passIn_200 : decode cX9_passIn 200 = .ok (.ireturn, 1) := by decide +kernel
theorem dX9_passIn_201 : decode cX9_passIn 201 = .ok (.aload_n 0, 1) := by decide +kernel
theorem dX9_passIn_202 : decode cX9_passIn 202 = .ok (.getfield 59, 3) := by decide +kernel
theorem dX9_passIn_205 : decode cX9_passIn 205 = .ok (.dup, 1) := by decide +kernel
theorem dX9_passIn_206 : decode cX9_passIn 206 = .ok (.getfield 484, 3) := by decide +kernel
theorem dX9_passIn_209 : decode cX9_passIn 209 = .ok (.iconst 1, 1) := by decide +kernel
theorem dX9_passIn_210 : decode cX9_passIn 210 = .ok (.iadd, 1) := by decide +kernel
theorem dX9_passIn_211 : decode cX9_passIn 211 = .ok (.putfield 484, 3) := by decide +kernel
theorem dX9_passIn_214 : decode cX9_passIn 214 = .ok (.aload_n 3, 1) := by decide +kernel
theorem dX9_passIn_215 : decode cX9_passIn 215 = .ok (.iconst 1, 1) := by decide +kernel
theorem dX9_passIn_216 : decode cX9_passIn 216 = .ok (.aload_n 3, 1) := by decide +kernel
theorem dX9_passIn_217 : decode cX9_passIn 217 = .ok (.getfield 640, 3) := by decide +kernel
theorem dX9_passIn_220 : decode cX9_passIn 220 = .ok (.isub, 1) := by decide +kernel
theorem dX9_passIn_221 : decode cX9_passIn 221 = .ok (.putfield 640, 3) := by decide +kernel
theorem dX9_passIn_224 : decode cX9_passIn 224 = .ok (.aload_n 3, 1) := by decide +kernel
theorem dX9_passIn_225 : decode cX9_passIn 225 = .ok (.iload 5, 2) := by decide +kernel
theorem dX9_passIn_227 : decode cX9_passIn 227 = .ok (.invokevirtual 644, 3) := by decide +kernel
theorem dX9_passIn_230 : decode cX9_passIn 230 = .ok (.iconst 0, 1) := by decide +kernel
theorem dX9_passIn_231 : decode cX9_passIn 231 = .ok (.ireturn, 1) := by decide +kernel
set_option maxRecDepth 20000 in
theorem ggX9_receive_X0_at : GoodIn wsX9_receive wsX0_at := goodIn_ca (goodIn_r _ [5, 6, 7, 35, 36, 37, 38] (by decide +kernel) (by decide +kernel)) (goodIn_sub (fun _ h => List.mem_cons_of_mem _ (List.mem_append_right _ h)) (by decide +kernel))
set_option maxRecDepth 20000 in
theorem gX9_receive_X0_at_n278 : GoodIn wsX9_receive (wsX0_at) := ggX9_receive_X0_at
set_option maxRecDepth 20000 in
theorem ggX9_receive_X0_add : GoodIn wsX9_receive wsX0_add := goodIn_ca (goodIn_r _ [10, 6, 7, 11, 12, 35, 36, 37, 38] (by decide +kernel) (by decide +kernel)) (goodIn_sub (fun _ h => List.mem_cons_of_mem _ (List.mem_append_right _ h)) (by decide +kernel))
set_option maxRecDepth 20000 in
theorem gX9_receive_X0_add_n271 : GoodIn wsX9_receive (wsX0_add) := ggX9_receive_X0_add
theorem dX9_receive_0 : decode cX9_receive 0 = .ok (.iconst 0, 1) := by decide +kernel
theorem dX9_receive_1 : decode cX9_receive 1 = .ok (.istore_n 3, 1) := by decide +kernel
theorem dX9_receive_2 : decode cX9_receive 2 = .ok (.iload_n 3, 1) := by decide +kernel
theorem dX9_receive_3 : decode cX9_receive 3 = .ok (.iload_n 2, 1) := by decide +kernel
theorem dX9_receive_4 : decode cX9_receive 4 = .ok (.if_icmp .ge 24, 3) := by decide +kernel
theorem dX9_receive_7 : decode cX9_receive 7 = .ok (.aload_n 0, 1) := by decide +kernel
theorem dX9_receive_8 : decode cX9_receive 8 = .ok (.getfield 39, 3) := by decide +kernel
theorem dX9_receive_11 : decode cX9_receive 11 = .ok (.aload_n 1, 1) := by decide +kernel
theorem dX9_receive_12 : decode cX9_receive 12 = .ok (.getfield 395, 3) := by decide +kernel
theorem dX9_receive_15 : decode cX9_receive 15 = .ok (.iload_n 3, 1) := by decide +kernel
theorem dX9_receive_16 : decode cX9_receive 16 = .ok (.invokevirtual 278, 3) := by decide +kernel
theorem dX9_receive_19 : decode cX9_receive 19 = .ok (.invokevirtual 271, 3) := by decide +kernel
theorem dX9_receive_22 : decode cX9_receive 22 = .ok (.iinc 3 1, 3) := by decide +kernel
theorem dX9_receive_25 : decode cX9_receive 25 = .ok (.goto (-23), 3) := by decide +kernel
theorem dX9_receive_28 : decode cX9_receive 28 = .ok (.return_, 1) := by decide +kernel
set_option maxRecDepth 20000 in
theorem ggX9_areReservesRight_X9_reckonReserved : GoodIn wsX9_areReservesRight wsX9_reckonReserved := goodIn_r _ [6, 7, 8, 9, 10, 11, 12, 13, 14, 15, 5, 16, 17, 18, 19, 20, 21, 22, 23, 24, 25, 26, 27, 28, 29, 30, 31, 32, 38, 39, 40, 41, 42, 43, 44, 45, 46, 47, 48, 49, 50, 51, 52, 53, 54, 55, 56, 57, 58, 59, 60, 61, 62, 63, 64, 65, 66, 67, 68, 69, 70, 71, 72, 73, 74, 75, 76, 77, 78, 79, 80] (by decide +kernel) (by decide +kernel)
set_option maxRecDepth 20000 in
theorem gX9_areReservesRight_X9_reckonReserved : GoodIn wsX9_areReservesRight (wsV RX9 647 RX9 yX9_reckonReserved wsX9_reckonReserved) := goodIn_app (goodIn_of _ (by decide +kernel)) ggX9_areReservesRight_X9_reckonReserved
theorem dX9_areReservesRight_0 : decode cX9_areReservesRight 0 = .ok (.iconst 0, 1) := by decide +kernel
theorem dX9_areReservesRight_1 : decode cX9_areReservesRight 1 = .ok (.istore_n 1, 1) := by decide +kernel
theorem dX9_areReservesRight_2 : decode cX9_areReservesRight 2 = .ok (.iload_n 1, 1) := by decide +kernel
theorem dX9_areReservesRight_3 : decode cX9_areReservesRight 3 = .ok (.bipush 8, 2) := by decide +kernel
theorem dX9_areReservesRight_5 : decode cX9_areReservesRight 5 = .ok (.if_icmp .ge 90, 3) := by decide +kernel
theorem dX9_areReservesRight_8 : decode cX9_areReservesRight 8 = .ok (.aload_n 0, 1) := by decide +kernel
theorem dX9_areReservesRight_9 : decode cX9_areReservesRight 9 = .ok (.getfield 45, 3) := by decide +kernel
theorem dX9_areReservesRight_12 : decode cX9_areReservesRight 12 = .ok (.getfield 344, 3) := by decide +kernel
theorem dX9_areReservesRight_15 : decode cX9_areReservesRight 15 = .ok (.iload_n 1, 1) := by decide +kernel
theorem dX9_areReservesRight_16 : decode cX9_areReservesRight 16 = .ok (.iaload, 1) := by decide +kernel
theorem dX9_areReservesRight_17 : decode cX9_areReservesRight 17 = .ok (.aload_n 0, 1) := by decide +kernel
theorem dX9_areReservesRight_18 : decode cX9_areReservesRight 18 = .ok (.iload_n 1, 1) := by decide +kernel
theorem dX9_areReservesRight_19 : decode cX9_areReservesRight 19 = .ok (.iconst (-1), 1) := by decide +kernel
theorem dX9_areReservesRight_20 : decode cX9_areReservesRight 20 = .ok (.invokevirtual 647, 3) := by decide +kernel
theorem dX9_areReservesRight_23 : decode cX9_areReservesRight 23 = .ok (.if_icmp .ne 17, 3) := by decide +kernel
theorem dX9_areReservesRight_26 : decode cX9_areReservesRight 26 = .ok (.aload_n 0, 1) := by decide +kernel
theorem dX9_areReservesRight_27 : decode cX9_areReservesRight 27 = .ok (.getfield 45, 3) := by decide +kernel
theorem dX9_areReservesRight_30 : decode cX9_areReservesRight 30 = .ok (.getfield 344, 3) := by decide +kernel
theorem dX9_areReservesRight_33 : decode cX9_areReservesRight 33 = .ok (.iload_n 1, 1) := by decide +kernel
theorem dX9_areReservesRight_34 : decode cX9_areReservesRight 34 = .ok (.iaload, 1) := by decide +kernel
theorem dX9_areReservesRight_35 : decode cX9_areReservesRight 35 = .ok (.bipush 80, 2) := by decide +kernel
theorem dX9_areReservesRight_37 : decode cX9_areReservesRight 37 = .ok (.if_icmp .le 5, 3) := by decide +kernel
theorem dX9_areReservesRight_40 : decode cX9_areReservesRight 40 = .ok (.iconst 0, 1) := by decide +kernel
theorem dX9_areReservesRight_41 : decode cX9_areReservesRight 41 = .ok (.ireturn, 1) := by decide +kernel
theorem dX9_areReservesRight_42 : decode cX9_areReservesRight 42 = .ok (.iconst 0, 1) := by decide +kernel
theorem dX9_areReservesRight_43 : decode cX9_areReservesRight 43 = .ok (.istore_n 2, 1) := by decide +kernel
theorem dX9_areReservesRight_44 : decode cX9_areReservesRight 44 = .ok (.iload_n 2, 1) := by decide +kernel
theorem dX9_areReservesRight_45 : decode cX9_areReservesRight 45 = .ok (.bipush 16, 2) := by decide +kernel
theorem dX9_areReservesRight_47 : decode cX9_areReservesRight 47 = .ok (.if_icmp .ge 42, 3) := by decide +kernel
theorem dX9_areReservesRight_50 : decode cX9_areReservesRight 50 = .ok (.aload_n 0, 1) := by decide +kernel
theorem dX9_areReservesRight_51 : decode cX9_areReservesRight 51 = .ok (.getfield 45, 3) := by decide +kernel
theorem dX9_areReservesRight_54 : decode cX9_areReservesRight 54 = .ok (.getfield 347, 3) := by decide +kernel
theorem dX9_areReservesRight_57 : decode cX9_areReservesRight 57 = .ok (.iload_n 2, 1) := by decide +kernel
theorem dX9_areReservesRight_58 : decode cX9_areReservesRight 58 = .ok (.bipush 8, 2) := by decide +kernel
theorem dX9_areReservesRight_60 : decode cX9_areReservesRight 60 = .ok (.imul, 1) := by decide +kernel
theorem dX9_areReservesRight_61 : decode cX9_areReservesRight 61 = .ok (.iload_n 1, 1) := by decide +kernel
theorem dX9_areReservesRight_62 : decode cX9_areReservesRight 62 = .ok (.iadd, 1) := by decide +kernel
theorem dX9_areReservesRight_63 : decode cX9_areReservesRight 63 = .ok (.iaload, 1) := by decide +kernel
theorem dX9_areReservesRight_64 : decode cX9_areReservesRight 64 = .ok (.istore_n 3, 1) := by decide +kernel
theorem dX9_areReservesRight_65 : decode cX9_areReservesRight 65 = .ok (.iload_n 3, 1) := by decide +kernel
theorem dX9_areReservesRight_66 : decode cX9_areReservesRight 66 = .ok (.aload_n 0, 1) := by decide +kernel
theorem dX9_areReservesRight_67 : decode cX9_areReservesRight 67 = .ok (.iload_n 1, 1) := by decide +kernel
theorem dX9_areReservesRight_68 : decode cX9_areReservesRight 68 = .ok (.iload_n 2, 1) := by decide +kernel
theorem dX9_areReservesRight_69 : decode cX9_areReservesRight 69 = .ok (.invokevirtual 647, 3) := by decide +kernel
theorem dX9_areReservesRight_72 : decode cX9_areReservesRight 72 = .ok (.if_icmp .ne 9, 3) := by decide +kernel
theorem dX9_areReservesRight_75 : decode cX9_areReservesRight 75 = .ok (.iload_n 3, 1) := by decide +kernel
theorem dX9_areReservesRight_76 : decode cX9_areReservesRight 76 = .ok (.bipush 48, 2) := by decide +kernel
theorem dX9_areReservesRight_78 : decode cX9_areReservesRight 78 = .ok (.if_icmp .le 5, 3) := by decide +kernel
theorem dX9_areReservesRight_81 : decode cX9_areReservesRight 81 = .ok (.iconst 0, 1) := by decide +kernel
theorem dX9_areReservesRight_82 : decode cX9_areReservesRight 82 = .ok (.ireturn, 1) := by decide +kernel
theorem dX9_areReservesRight_83 : decode cX9_areReservesRight 83 = .ok (.iinc 2 1, 3) := by decide +kernel
theorem dX9_areReservesRight_86 : decode cX9_areReservesRight 86 = .ok (.goto (-42), 3) := by decide +kernel
theorem dX9_areReservesRight_89 : decode cX9_areReservesRight 89 = .ok (.iinc 1 1, 3) := by decide +kernel
theorem dX9_areReservesRight_92 : decode cX9_areReservesRight 92 = .ok (.goto (-90), 3) := by decide +kernel
theorem dX9_areReservesRight_95 : decode cX9_areReservesRight 95 = .ok (.iconst 1, 1) := by decide +kernel
theorem dX9_areReservesRight_96 : decode cX9_areReservesRight 96 = .ok (.ireturn, 1) := by decide +kernel
set_option maxRecDepth 20000 in
theorem ggX9_reckonReserved_X5_isDueIn : GoodIn wsX9_reckonReserved wsX5_isDueIn := goodIn_r _ [5, 6, 7, 28, 29, 30, 31, 32, 33, 34, 35, 36, 37, 38, 39, 40, 41] (by decide +kernel) (by decide +kernel)
set_option maxRecDepth 20000 in
theorem gX9_reckonReserved_X5_isDueIn_n430 : GoodIn wsX9_reckonReserved (wsX5_isDueIn) := ggX9_reckonReserved_X5_isDueIn
set_option maxRecDepth 20000 in
theorem ggX9_reckonReserved_X9_hostCost : GoodIn wsX9_reckonReserved wsX9_hostCost := goodIn_r _ [11] (by decide +kernel) (by decide +kernel)
set_option maxRecDepth 20000 in
theorem gX9_reckonReserved_X9_hostCost : GoodIn wsX9_reckonReserved (va_wsS RX9 301 yX9_hostCost wsX9_hostCost) := goodIn_app (goodIn_of _ (by decide +kernel)) ggX9_reckonReserved_X9_hostCost
set_option maxRecDepth 20000 in
theorem ggX9_reckonReserved_X9_hubCost : GoodIn wsX9_reckonReserved wsX9_hubCost := goodIn_r _ [14] (by decide +kernel) (by decide +kernel)
set_option maxRecDepth 20000 in
theorem gX9_reckonReserved_X9_hubCost : GoodIn wsX9_reckonReserved (va_wsS RX9 304 yX9_hubCost wsX9_hubCost) := goodIn_app (goodIn_of _ (by decide +kernel)) ggX9_reckonReserved_X9_hubCost
theorem dX9_reckonReserved_0 : decode cX9_reckonReserved 0 = .ok (.iconst 0, 1) := by decide +kernel
theorem dX9_reckonReserved_1 : decode cX9_reckonReserved 1 = .ok (.istore_n 3, 1) := by decide +kernel
theorem dX9_reckonReserved_2 : decode cX9_reckonReserved 2 = .ok (.iconst 0, 1) := by decide +kernel
theorem dX9_reckonReserved_3 : decode cX9_reckonReserved 3 = .ok (.istore 4, 2) := by decide +kernel
theorem dX9_reckonReserved_5 : decode cX9_reckonReserved 5 = .ok (.iload 4, 2) := by decide +kernel
theorem dX9_reckonReserved_7 : decode cX9_reckonReserved 7 = .ok (.bipush 12, 2) := by decide +kernel
theorem dX9_reckonReserved_9 : decode cX9_reckonReserved 9 = .ok (.if_icmp .ge 94, 3) := by decide +kernel
theorem dX9_reckonReserved_12 : decode cX9_reckonReserved 12 = .ok (.aload_n 0, 1) := by decide +kernel
theorem dX9_reckonReserved_13 : decode cX9_reckonReserved 13 = .ok (.getfield 24, 3) := by decide +kernel
theorem dX9_reckonReserved_16 : decode cX9_reckonReserved 16 = .ok (.iload 4, 2) := by decide +kernel
theorem dX9_reckonReserved_18 : decode cX9_reckonReserved 18 = .ok (.aaload, 1) := by decide +kernel
theorem dX9_reckonReserved_19 : decode cX9_reckonReserved 19 = .ok (.astore 5, 2) := by decide +kernel
theorem dX9_reckonReserved_21 : decode cX9_reckonReserved 21 = .ok (.aload 5, 2) := by decide +kernel
theorem dX9_reckonReserved_23 : decode cX9_reckonReserved 23 = .ok (.getfield 546, 3) := by decide +kernel
theorem dX9_reckonReserved_26 : decode cX9_reckonReserved 26 = .ok (.astore 6, 2) := by decide +kernel
theorem dX9_reckonReserved_28 : decode cX9_reckonReserved 28 = .ok (.aload 5, 2) := by decide +kernel
theorem dX9_reckonReserved_30 : decode cX9_reckonReserved 30 = .ok (.getfield 350, 3) := by decide +kernel
theorem dX9_reckonReserved_33 : decode cX9_reckonReserved 33 = .ok (.astore 7, 2) := by decide +kernel
theorem dX9_reckonReserved_35 : decode cX9_reckonReserved 35 = .ok (.aload 6, 2) := by decide +kernel
theorem dX9_reckonReserved_37 : decode cX9_reckonReserved 37 = .ok (.ifnull 60, 3) := by decide +kernel
theorem dX9_reckonReserved_40 : decode cX9_reckonReserved 40 = .ok (.aload 7, 2) := by decide +kernel
theorem dX9_reckonReserved_42 : decode cX9_reckonReserved 42 = .ok (.ifnull 55, 3) := by decide +kernel
theorem dX9_reckonReserved_45 : decode cX9_reckonReserved 45 = .ok (.aload 5, 2) := by decide +kernel
theorem dX9_reckonReserved_47 : decode cX9_reckonReserved 47 = .ok (.iload_n 1, 1) := by decide +kernel
theorem dX9_reckonReserved_48 : decode cX9_reckonReserved 48 = .ok (.invokevirtual 430, 3) := by decide +kernel
theorem dX9_reckonReserved_51 : decode cX9_reckonReserved 51 = .ok (.ifCond .eq 46, 3) := by decide +kernel
theorem dX9_reckonReserved_54 : decode cX9_reckonReserved 54 = .ok (.iload_n 2, 1) := by decide +kernel
theorem dX9_reckonReserved_55 : decode cX9_reckonReserved 55 = .ok (.ifCond .ge 17, 3) := by decide +kernel
theorem dX9_reckonReserved_58 : decode cX9_reckonReserved 58 = .ok (.iload_n 3, 1) := by decide +kernel
theorem dX9_reckonReserved_59 : decode cX9_reckonReserved 59 = .ok (.aload 7, 2) := by decide +kernel
theorem dX9_reckonReserved_61 : decode cX9_reckonReserved 61 = .ok (.getfield 147, 3) := by decide +kernel
theorem dX9_reckonReserved_64 : decode cX9_reckonReserved 64 = .ok (.invokestatic 301, 3) := by decide +kernel
theorem dX9_reckonReserved_67 : decode cX9_reckonReserved 67 = .ok (.iadd, 1) := by decide +kernel
theorem dX9_reckonReserved_68 : decode cX9_reckonReserved 68 = .ok (.istore_n 3, 1) := by decide +kernel
theorem dX9_reckonReserved_69 : decode cX9_reckonReserved 69 = .ok (.goto 28, 3) := by decide +kernel
theorem dX9_reckonReserved_72 : decode cX9_reckonReserved 72 = .ok (.aload 6, 2) := by decide +kernel
theorem dX9_reckonReserved_74 : decode cX9_reckonReserved 74 = .ok (.getfield 182, 3) := by decide +kernel
theorem dX9_reckonReserved_77 : decode cX9_reckonReserved 77 = .ok (.iload_n 2, 1) := by decide +kernel
theorem dX9_reckonReserved_78 : decode cX9_reckonReserved 78 = .ok (.if_icmp .ne 19, 3) := by decide +kernel
theorem dX9_reckonReserved_81 : decode cX9_reckonReserved 81 = .ok (.iload_n 3, 1) := by decide +kernel
theorem dX9_reckonReserved_82 : decode cX9_reckonReserved 82 = .ok (.aload 6, 2) := by decide +kernel
theorem dX9_reckonReserved_84 : decode cX9_reckonReserved 84 = .ok (.getfield 109, 3) := by decide +kernel
theorem dX9_reckonReserved_87 : decode cX9_reckonReserved 87 = .ok (.aload 7, 2) := by decide +kernel
theorem dX9_reckonReserved_89 : decode cX9_reckonReserved 89 = .ok (.getfield 147, 3) := by decide +kernel
theorem dX9_reckonReserved_92 : decode cX9_reckonReserved 92 = .ok (.invokestatic 304, 3) := by decide +kernel
theorem dX9_reckonReserved_95 : decode cX9_reckonReserved 95 = .ok (.iadd, 1) := by decide +kernel
theorem dX9_reckonReserved_96 : decode cX9_reckonReserved 96 = .ok (.istore_n 3, 1) := by decide +kernel
theorem dX9_reckonReserved_97 : decode cX9_reckonReserved 97 = .ok (.iinc 4 1, 3) := by decide +kernel
theorem dX9_reckonReserved_100 : decode cX9_reckonReserved 100 = .ok (.goto (-95), 3) := by decide +kernel
theorem dX9_reckonReserved_103 : decode cX9_reckonReserved 103 = .ok (.iload_n 3, 1) := by decide +kernel
theorem dX9_reckonReserved_104 : decode cX9_reckonReserved 104 = .ok (.ireturn, 1) := by decide +kernel
theorem dX9_areAddressesUnlike_0 : decode cX9_areAddressesUnlike 0 = .ok (.iconst 0, 1) := by decide +kernel
theorem dX9_areAddressesUnlike_1 : decode cX9_areAddressesUnlike 1 = .ok (.istore_n 1, 1) := by decide +kernel
theorem dX9_areAddressesUnlike_2 : decode cX9_areAddressesUnlike 2 = .ok (.iload_n 1, 1) := by decide +kernel
theorem dX9_areAddressesUnlike_3 : decode cX9_areAddressesUnlike 3 = .ok (.bipush 16, 2) := by decide +kernel
theorem dX9_areAddressesUnlike_5 : decode cX9_areAddressesUnlike 5 = .ok (.if_icmp .ge 57, 3) := by decide +kernel
theorem dX9_areAddressesUnlike_8 : decode cX9_areAddressesUnlike 8 = .ok (.iconst 0, 1) := by decide +kernel
theorem dX9_areAddressesUnlike_9 : decode cX9_areAddressesUnlike 9 = .ok (.istore_n 2, 1) := by decide +kernel
theorem dX9_areAddressesUnlike_10 : decode cX9_areAddressesUnlike 10 = .ok (.iload_n 2, 1) := by decide +kernel
theorem dX9_areAddressesUnlike_11 : decode cX9_areAddressesUnlike 11 = .ok (.iload_n 1, 1) := by decide +kernel
theorem dX9_areAddressesUnlike_12 : decode cX9_areAddressesUnlike 12 = .ok (.if_icmp .ge 44, 3) := by decide +kernel
theorem dX9_areAddressesUnlike_15 : decode cX9_areAddressesUnlike 15 = .ok (.aload_n 0, 1) := by decide +kernel
theorem dX9_areAddressesUnlike_16 : decode cX9_areAddressesUnlike 16 = .ok (.getfield 11, 3) := by decide +kernel
theorem dX9_areAddressesUnlike_19 : decode cX9_areAddressesUnlike 19 = .ok (.iload_n 1, 1) := by decide +kernel
theorem dX9_areAddressesUnlike_20 : decode cX9_areAddressesUnlike 20 = .ok (.aaload, 1) := by decide +kernel
theorem dX9_areAddressesUnlike_21 : decode cX9_areAddressesUnlike 21 = .ok (.getfield 196, 3) := by decide +kernel
theorem dX9_areAddressesUnlike_24 : decode cX9_areAddressesUnlike 24 = .ok (.ifCond .eq 26, 3) := by decide +kernel
theorem dX9_areAddressesUnlike_27 : decode cX9_areAddressesUnlike 27 = .ok (.aload_n 0, 1) := by decide +kernel
theorem dX9_areAddressesUnlike_28 : decode cX9_areAddressesUnlike 28 = .ok (.getfield 11, 3) := by decide +kernel
theorem dX9_areAddressesUnlike_31 : decode cX9_areAddressesUnlike 31 = .ok (.iload_n 1, 1) := by decide +kernel
theorem dX9_areAddressesUnlike_32 : decode cX9_areAddressesUnlike 32 = .ok (.aaload, 1) := by decide +kernel
theorem dX9_areAddressesUnlike_33 : decode cX9_areAddressesUnlike 33 = .ok (.getfield 196, 3) := by decide +kernel
theorem dX9_areAddressesUnlike_36 : decode cX9_areAddressesUnlike 36 = .ok (.aload_n 0, 1) := by decide +kernel
theorem dX9_areAddressesUnlike_37 : decode cX9_areAddressesUnlike 37 = .ok (.getfield 11, 3) := by decide +kernel
theorem dX9_areAddressesUnlike_40 : decode cX9_areAddressesUnlike 40 = .ok (.iload_n 2, 1) := by decide +kernel
theorem dX9_areAddressesUnlike_41 : decode cX9_areAddressesUnlike 41 = .ok (.aaload, 1) := by decide +kernel
theorem dX9_areAddressesUnlike_42 : decode cX9_areAddressesUnlike 42 = .ok (.getfield 196, 3) := by decide +kernel
theorem dX9_areAddressesUnlike_45 : decode cX9_areAddressesUnlike 45 = .ok (.if_icmp .ne 5, 3) := by decide +kernel
theorem dX9_areAddressesUnlike_48 : decode cX9_areAddressesUnlike 48 = .ok (.iconst 0, 1) := by decide +kernel
theorem dX9_areAddressesUnlike_49 : decode cX9_areAddressesUnlike 49 = .ok (.ireturn, 1) := by decide +kernel
theorem dX9_areAddressesUnlike_50 : decode cX9_areAddressesUnlike 50 = .ok (.iinc 2 1, 3) := by decide +kernel
theorem dX9_areAddressesUnlike_53 : decode cX9_areAddressesUnlike 53 = .ok (.goto (-43), 3) := by decide +kernel
theorem dX9_areAddressesUnlike_56 : decode cX9_areAddressesUnlike 56 = .ok (.iinc 1 1, 3) := by decide +kernel
theorem dX9_areAddressesUnlike_59 : decode cX9_areAddressesUnlike 59 = .ok (.goto (-57), 3) := by decide +kernel
theorem dX9_areAddressesUnlike_62 : decode cX9_areAddressesUnlike 62 = .ok (.iconst 1, 1) := by decide +kernel
theorem dX9_areAddressesUnlike_63 : decode cX9_areAddressesUnlike 63 = .ok (.ireturn, 1) := by decide +kernel
theorem dX9_areHubsPlugged_0 : decode cX9_areHubsPlugged 0 = .ok (.iconst 1, 1) := by decide +kernel
theorem dX9_areHubsPlugged_1 : decode cX9_areHubsPlugged 1 = .ok (.istore_n 1, 1) := by decide +kernel
theorem dX9_areHubsPlugged_2 : decode cX9_areHubsPlugged 2 = .ok (.iload_n 1, 1) := by decide +kernel
theorem dX9_areHubsPlugged_3 : decode cX9_areHubsPlugged 3 = .ok (.bipush 16, 2) := by decide +kernel
theorem dX9_areHubsPlugged_5 : decode cX9_areHubsPlugged 5 = .ok (.if_icmp .ge 46, 3) := by decide +kernel
theorem dX9_areHubsPlugged_8 : decode cX9_areHubsPlugged 8 = .ok (.aload_n 0, 1) := by decide +kernel
theorem dX9_areHubsPlugged_9 : decode cX9_areHubsPlugged 9 = .ok (.getfield 11, 3) := by decide +kernel
theorem dX9_areHubsPlugged_12 : decode cX9_areHubsPlugged 12 = .ok (.iload_n 1, 1) := by decide +kernel
theorem dX9_areHubsPlugged_13 : decode cX9_areHubsPlugged 13 = .ok (.aaload, 1) := by decide +kernel
theorem dX9_areHubsPlugged_14 : decode cX9_areHubsPlugged 14 = .ok (.astore_n 2, 1) := by decide +kernel
theorem dX9_areHubsPlugged_15 : decode cX9_areHubsPlugged 15 = .ok (.aload_n 2, 1) := by decide +kernel
theorem dX9_areHubsPlugged_16 : decode cX9_areHubsPlugged 16 = .ok (.getfield 74, 3) := by decide +kernel
theorem dX9_areHubsPlugged_19 : decode cX9_areHubsPlugged 19 = .ok (.bipush 117, 2) := by decide +kernel
theorem dX9_areHubsPlugged_21 : decode cX9_areHubsPlugged 21 = .ok (.if_icmp .eq 24, 3) := by decide +kernel
theorem dX9_areHubsPlugged_24 : decode cX9_areHubsPlugged 24 = .ok (.aload_n 2, 1) := by decide +kernel
theorem dX9_areHubsPlugged_25 : decode cX9_areHubsPlugged 25 = .ok (.getfield 171, 3) := by decide +kernel
theorem dX9_areHubsPlugged_28 : decode cX9_areHubsPlugged 28 = .ok (.ifnull 15, 3) := by decide +kernel
theorem dX9_areHubsPlugged_31 : decode cX9_areHubsPlugged 31 = .ok (.aload_n 2, 1) := by decide +kernel
theorem dX9_areHubsPlugged_32 : decode cX9_areHubsPlugged 32 = .ok (.getfield 171, 3) := by decide +kernel
theorem dX9_areHubsPlugged_35 : decode cX9_areHubsPlugged 35 = .ok (.getfield 74, 3) := by decide +kernel
theorem dX9_areHubsPlugged_38 : decode cX9_areHubsPlugged 38 = .ok (.bipush 117, 2) := by decide +kernel
theorem dX9_areHubsPlugged_40 : decode cX9_areHubsPlugged 40 = .ok (.if_icmp .ne 5, 3) := by decide +kernel
theorem dX9_areHubsPlugged_43 : decode cX9_areHubsPlugged 43 = .ok (.iconst 0, 1) := by decide +kernel
theorem dX9_areHubsPlugged_44 : decode cX9_areHubsPlugged 44 = .ok (.ireturn, 1) := by decide +kernel
theorem dX9_areHubsPlugged_45 : decode cX9_areHubsPlugged 45 = .ok (.iinc 1 1, 3) := by decide +kernel
theorem dX9_areHubsPlugged_48 : decode cX9_areHubsPlugged 48 = .ok (.goto (-46), 3) := by decide +kernel
theorem dX9_areHubsPlugged_51 : decode cX9_areHubsPlugged 51 = .ok (.iconst 1, 1) := by decide +kernel
theorem dX9_areHubsPlugged_52 : decode cX9_areHubsPlugged 52 = .ok (.ireturn, 1) := by decide +kernel
theorem dX9_isNothingInvented_0 : decode cX9_isNothingInvented 0 = .ok (.iconst 0, 1) := by decide +kernel
theorem dX9_isNothingInvented_1 : decode cX9_isNothingInvented 1 = .ok (.istore_n 1, 1) := by decide +kernel
theorem dX9_isNothingInvented_2 : decode cX9_isNothingInvented 2 = .ok (.iload_n 1, 1) := by decide +kernel
theorem dX9_isNothingInvented_3 : decode cX9_isNothingInvented 3 = .ok (.bipush 16, 2) := by decide +kernel
theorem dX9_isNothingInvented_5 : decode cX9_isNothingInvented 5 = .ok (.if_icmp .ge 64, 3) := by decide +kernel
theorem dX9_isNothingInvented_8 : decode cX9_isNothingInvented 8 = .ok (.iconst 0, 1) := by decide +kernel
theorem dX9_isNothingInvented_9 : decode cX9_isNothingInvented 9 = .ok (.istore_n 2, 1) := by decide +kernel
theorem dX9_isNothingInvented_10 : decode cX9_isNothingInvented 10 = .ok (.iload_n 2, 1) := by decide +kernel
theorem dX9_isNothingInvented_11 : decode cX9_isNothingInvented 11 = .ok (.iconst 3, 1) := by decide +kernel
theorem dX9_isNothingInvented_12 : decode cX9_isNothingInvented 12 = .ok (.if_icmp .ge 51, 3) := by decide +kernel
theorem dX9_isNothingInvented_15 : decode cX9_isNothingInvented 15 = .ok (.aload_n 0, 1) := by decide +kernel
theorem dX9_isNothingInvented_16 : decode cX9_isNothingInvented 16 = .ok (.getfield 11, 3) := by decide +kernel
theorem dX9_isNothingInvented_19 : decode cX9_isNothingInvented 19 = .ok (.iload_n 1, 1) := by decide +kernel
theorem dX9_isNothingInvented_20 : decode cX9_isNothingInvented 20 = .ok (.aaload, 1) := by decide +kernel
theorem dX9_isNothingInvented_21 : decode cX9_isNothingInvented 21 = .ok (.getfield 130, 3) := by decide +kernel
theorem dX9_isNothingInvented_24 : decode cX9_isNothingInvented 24 = .ok (.iload_n 2, 1) := by decide +kernel
theorem dX9_isNothingInvented_25 : decode cX9_isNothingInvented 25 = .ok (.aaload, 1) := by decide +kernel
theorem dX9_isNothingInvented_26 : decode cX9_isNothingInvented 26 = .ok (.astore_n 3, 1) := by decide +kernel
theorem dX9_isNothingInvented_27 : decode cX9_isNothingInvented 27 = .ok (.aload_n 3, 1) := by decide +kernel
theorem dX9_isNothingInvented_28 : decode cX9_isNothingInvented 28 = .ok (.getfield 134, 3) := by decide +kernel
theorem dX9_isNothingInvented_31 : decode cX9_isNothingInvented 31 = .ok (.ifCond .eq 26, 3) := by decide +kernel
theorem dX9_isNothingInvented_34 : decode cX9_isNothingInvented 34 = .ok (.aload_n 3, 1) := by decide +kernel
theorem dX9_isNothingInvented_35 : decode cX9_isNothingInvented 35 = .ok (.getfield 144, 3) := by decide +kernel
theorem dX9_isNothingInvented_38 : decode cX9_isNothingInvented 38 = .ok (.ifCond .ne 19, 3) := by decide +kernel
theorem dX9_isNothingInvented_41 : decode cX9_isNothingInvented 41 = .ok (.aload_n 3, 1) := by decide +kernel
theorem dX9_isNothingInvented_42 : decode cX9_isNothingInvented 42 = .ok (.getfield 395, 3) := by decide +kernel
theorem dX9_isNothingInvented_45 : decode cX9_isNothingInvented 45 = .ok (.getfield 474, 3) := by decide +kernel
theorem dX9_isNothingInvented_48 : decode cX9_isNothingInvented 48 = .ok (.aload_n 3, 1) := by decide +kernel
theorem dX9_isNothingInvented_49 : decode cX9_isNothingInvented 49 = .ok (.getfield 629, 3) := by decide +kernel
theorem dX9_isNothingInvented_52 : decode cX9_isNothingInvented 52 = .ok (.if_icmp .le 5, 3) := by decide +kernel
theorem dX9_isNothingInvented_55 : decode cX9_isNothingInvented 55 = .ok (.iconst 0, 1) := by decide +kernel
theorem dX9_isNothingInvented_56 : decode cX9_isNothingInvented 56 = .ok (.ireturn, 1) := by decide +kernel
theorem dX9_isNothingInvented_57 : decode cX9_isNothingInvented 57 = .ok (.iinc 2 1, 3) := by decide +kernel
theorem dX9_isNothingInvented_60 : decode cX9_isNothingInvented 60 = .ok (.goto (-50), 3) := by decide +kernel
theorem dX9_isNothingInvented_63 : decode cX9_isNothingInvented 63 = .ok (.iinc 1 1, 3) := by decide +kernel
theorem dX9_isNothingInvented_66 : decode cX9_isNothingInvented 66 = .ok (.goto (-64), 3) := by decide +kernel
theorem dX9_isNothingInvented_69 : decode cX9_isNothingInvented 69 = .ok (.iconst 1, 1) := by decide +kernel
theorem dX9_isNothingInvented_70 : decode cX9_isNothingInvented 70 = .ok (.ireturn, 1) := by decide +kernel
theorem dX10_init_0 : decode cX10_init 0 = .ok (.aload_n 0, 1) := by decide +kernel
theorem dX10_init_1 : decode cX10_init 1 = .ok (.invokespecial 3, 3) := by decide +kernel
theorem dX10_init_4 : decode cX10_init 4 = .ok (.aload_n 0, 1) := by decide +kernel
theorem dX10_init_5 : decode cX10_init 5 = .ok (.bipush 117, 2) := by decide +kernel
theorem dX10_init_7 : decode cX10_init 7 = .ok (.putfield 9, 3) := by decide +kernel
theorem dX10_init_10 : decode cX10_init 10 = .ok (.aload_n 0, 1) := by decide +kernel
theorem dX10_init_11 : decode cX10_init 11 = .ok (.iconst (-1), 1) := by decide +kernel
theorem dX10_init_12 : decode cX10_init 12 = .ok (.putfield 15, 3) := by decide +kernel
theorem dX10_init_15 : decode cX10_init 15 = .ok (.aload_n 0, 1) := by decide +kernel
theorem dX10_init_16 : decode cX10_init 16 = .ok (.iconst (-1), 1) := by decide +kernel
theorem dX10_init_17 : decode cX10_init 17 = .ok (.putfield 19, 3) := by decide +kernel
theorem dX10_init_20 : decode cX10_init 20 = .ok (.aload_n 0, 1) := by decide +kernel
theorem dX10_init_21 : decode cX10_init 21 = .ok (.iconst 4, 1) := by decide +kernel
theorem dX10_init_22 : decode cX10_init 22 = .ok (.anewarray 22, 3) := by decide +kernel
theorem dX10_init_25 : decode cX10_init 25 = .ok (.putfield 24, 3) := by decide +kernel
theorem dX10_init_28 : decode cX10_init 28 = .ok (.aload_n 0, 1) := by decide +kernel
theorem dX10_init_29 : decode cX10_init 29 = .ok (.iconst 4, 1) := by decide +kernel
theorem dX10_init_30 : decode cX10_init 30 = .ok (.newarray .char, 2) := by decide +kernel
theorem dX10_init_32 : decode cX10_init 32 = .ok (.putfield 28, 3) := by decide +kernel
theorem dX10_init_35 : decode cX10_init 35 = .ok (.aload_n 0, 1) := by decide +kernel
theorem dX10_init_36 : decode cX10_init 36 = .ok (.iconst 4, 1) := by decide +kernel
theorem dX10_init_37 : decode cX10_init 37 = .ok (.newarray .int, 2) := by decide +kernel
theorem dX10_init_39 : decode cX10_init 39 = .ok (.putfield 32, 3) := by decide +kernel
theorem dX10_init_42 : decode cX10_init 42 = .ok (.aload_n 0, 1) := by decide +kernel
theorem dX10_init_43 : decode cX10_init 43 = .ok (.iload_n 1, 1) := by decide +kernel
theorem dX10_init_44 : decode cX10_init 44 = .ok (.putfield 36, 3) := by decide +kernel
theorem dX10_init_47 : decode cX10_init 47 = .ok (.aload_n 0, 1) := by decide +kernel
theorem dX10_init_48 : decode cX10_init 48 = .ok (.iload_n 2, 1) := by decide +kernel
theorem dX10_init_49 : decode cX10_init 49 = .ok (.putfield 39, 3) := by decide +kernel
theorem dX10_init_52 : decode cX10_init 52 = .ok (.aload_n 0, 1) := by decide +kernel
theorem dX10_init_53 : decode cX10_init 53 = .ok (.iload_n 3, 1) := by decide +kernel
theorem dX10_init_54 : decode cX10_init 54 = .ok (.putfield 42, 3) := by decide +kernel
theorem dX10_init_57 : decode cX10_init 57 = .ok (.aload_n 0, 1) := by decide +kernel
theorem dX10_init_58 : decode cX10_init 58 = .ok (.iload 4, 2) := by decide +kernel
theorem dX10_init_60 : decode cX10_init 60 = .ok (.putfield 45, 3) := by decide +kernel
theorem dX10_init_63 : decode cX10_init 63 = .ok (.aload_n 0, 1) := by decide +kernel
theorem dX10_init_64 : decode cX10_init 64 = .ok (.iload 5, 2) := by decide +kernel
theorem dX10_init_66 : decode cX10_init 66 = .ok (.putfield 49, 3) := by decide +kernel
theorem dX10_init_69 : decode cX10_init 69 = .ok (.aload_n 0, 1) := by decide +kernel
theorem dX10_init_70 : decode cX10_init 70 = .ok (.iload_n 3, 1) := by decide +kernel
theorem dX10_init_71 : decode cX10_init 71 = .ok (.putfield 52, 3) := by decide +kernel
theorem dX10_init_74 : decode cX10_init 74 = .ok (.return_, 1) := by decide +kernel
set_option maxRecDepth 20000 in
theorem ggX11_init_Jx4a65c_init_da8c8 : GoodIn wsX11_init wsJx4a65c_init_da8c8 := goodIn_r _ [13, 14, 15, 16, 17, 18, 19, 20, 21, 22, 23, 24, 25, 2, 3, 26, 27, 28] (by decide +kernel) (by decide +kernel)
set_option maxRecDepth 20000 in
theorem gX11_init_Jx4a65c_init_da8c8 : GoodIn wsX11_init (wsJx4a65c_init_da8c8) := ggX11_init_Jx4a65c_init_da8c8
theorem dX11_init_0 : decode cX11_init 0 = .ok (.aload_n 0, 1) := by decide +kernel
theorem dX11_init_1 : decode cX11_init 1 = .ok (.invokespecial 3, 3) := by decide +kernel
theorem dX11_init_4 : decode cX11_init 4 = .ok (.aload_n 0, 1) := by decide +kernel
theorem dX11_init_5 : decode cX11_init 5 = .ok (.new 9, 3) := by decide +kernel
theorem dX11_init_8 : decode cX11_init 8 = .ok (.dup, 1) := by decide +kernel
theorem dX11_init_9 : decode cX11_init 9 = .ok (.invokespecial 11, 3) := by decide +kernel
theorem dX11_init_12 : decode cX11_init 12 = .ok (.putfield 12, 3) := by decide +kernel
theorem dX11_init_15 : decode cX11_init 15 = .ok (.aload_n 0, 1) := by decide +kernel
theorem dX11_init_16 : decode cX11_init 16 = .ok (.iconst (-1), 1) := by decide +kernel
theorem dX11_init_17 : decode cX11_init 17 = .ok (.putfield 18, 3) := by decide +kernel
theorem dX11_init_20 : decode cX11_init 20 = .ok (.aload_n 0, 1) := by decide +kernel
theorem dX11_init_21 : decode cX11_init 21 = .ok (.iload_n 1, 1) := by decide +kernel
theorem dX11_init_22 : decode cX11_init 22 = .ok (.putfield 22, 3) := by decide +kernel
theorem dX11_init_25 : decode cX11_init 25 = .ok (.aload_n 0, 1) := by decide +kernel
theorem dX11_init_26 : decode cX11_init 26 = .ok (.iload_n 2, 1) := by decide +kernel
theorem dX11_init_27 : decode cX11_init 27 = .ok (.putfield 26, 3) := by decide +kernel
theorem dX11_init_30 : decode cX11_init 30 = .ok (.return_, 1) := by decide +kernel
set_option maxRecDepth 20000 in
theorem ggX12_init_Jx4a65c_init_da8c8 : GoodIn wsX12_init wsJx4a65c_init_da8c8 := goodIn_r _ [16, 17, 18, 19, 20, 21, 22, 23, 24, 25, 26, 27, 28, 2, 3, 39, 40, 41] (by decide +kernel) (by decide +kernel)
set_option maxRecDepth 20000 in
theorem gX12_init_Jx4a65c_init_da8c8 : GoodIn wsX12_init (wsJx4a65c_init_da8c8) := ggX12_init_Jx4a65c_init_da8c8
theorem dX12_init_0 : decode cX12_init 0 = .ok (.aload_n 0, 1) := by decide +kernel
theorem dX12_init_1 : decode cX12_init 1 = .ok (.invokespecial 3, 3) := by decide +kernel
theorem dX12_init_4 : decode cX12_init 4 = .ok (.aload_n 0, 1) := by decide +kernel
theorem dX12_init_5 : decode cX12_init 5 = .ok (.iconst (-1), 1) := by decide +kernel
theorem dX12_init_6 : decode cX12_init 6 = .ok (.putfield 9, 3) := by decide +kernel
theorem dX12_init_9 : decode cX12_init 9 = .ok (.aload_n 0, 1) := by decide +kernel
theorem dX12_init_10 : decode cX12_init 10 = .ok (.bipush 32, 2) := by decide +kernel
theorem dX12_init_12 : decode cX12_init 12 = .ok (.putfield 15, 3) := by decide +kernel
theorem dX12_init_15 : decode cX12_init 15 = .ok (.aload_n 0, 1) := by decide +kernel
theorem dX12_init_16 : decode cX12_init 16 = .ok (.new 19, 3) := by decide +kernel
theorem dX12_init_19 : decode cX12_init 19 = .ok (.dup, 1) := by decide +kernel
theorem dX12_init_20 : decode cX12_init 20 = .ok (.invokespecial 21, 3) := by decide +kernel
theorem dX12_init_23 : decode cX12_init 23 = .ok (.putfield 22, 3) := by decide +kernel
theorem dX12_init_26 : decode cX12_init 26 = .ok (.aload_n 0, 1) := by decide +kernel
theorem dX12_init_27 : decode cX12_init 27 = .ok (.iload_n 1, 1) := by decide +kernel
theorem dX12_init_28 : decode cX12_init 28 = .ok (.putfield 26, 3) := by decide +kernel
theorem dX12_init_31 : decode cX12_init 31 = .ok (.aload_n 0, 1) := by decide +kernel
theorem dX12_init_32 : decode cX12_init 32 = .ok (.iload_n 2, 1) := by decide +kernel
theorem dX12_init_33 : decode cX12_init 33 = .ok (.putfield 29, 3) := by decide +kernel
theorem dX12_init_36 : decode cX12_init 36 = .ok (.aload_n 0, 1) := by decide +kernel
theorem dX12_init_37 : decode cX12_init 37 = .ok (.iload_n 3, 1) := by decide +kernel
theorem dX12_init_38 : decode cX12_init 38 = .ok (.putfield 32, 3) := by decide +kernel
theorem dX12_init_41 : decode cX12_init 41 = .ok (.aload_n 0, 1) := by decide +kernel
theorem dX12_init_42 : decode cX12_init 42 = .ok (.iload 4, 2) := by decide +kernel
theorem dX12_init_44 : decode cX12_init 44 = .ok (.putfield 35, 3) := by decide +kernel
theorem dX12_init_47 : decode cX12_init 47 = .ok (.return_, 1) := by decide +kernel
theorem dX12_isPeriodic_0 : decode cX12_isPeriodic 0 = .ok (.aload_n 0, 1) := by decide +kernel
theorem dX12_isPeriodic_1 : decode cX12_isPeriodic 1 = .ok (.getfield 32, 3) := by decide +kernel
theorem dX12_isPeriodic_4 : decode cX12_isPeriodic 4 = .ok (.bipush 98, 2) := by decide +kernel
theorem dX12_isPeriodic_6 : decode cX12_isPeriodic 6 = .ok (.if_icmp .eq 7, 3) := by decide +kernel
theorem dX12_isPeriodic_9 : decode cX12_isPeriodic 9 = .ok (.iconst 1, 1) := by decide +kernel
theorem dX12_isPeriodic_10 : decode cX12_isPeriodic 10 = .ok (.goto 4, 3) := by decide +kernel
theorem dX12_isPeriodic_13 : decode cX12_isPeriodic 13 = .ok (.iconst 0, 1) := by decide +kernel
theorem dX12_isPeriodic_14 : decode cX12_isPeriodic 14 = .ok (.ireturn, 1) := by decide +kernel
theorem dX13_init_0 : decode cX13_init 0 = .ok (.aload_n 0, 1) := by decide +kernel
theorem dX13_init_1 : decode cX13_init 1 = .ok (.invokespecial 1, 3) := by decide +kernel
theorem dX13_init_4 : decode cX13_init 4 = .ok (.aload_n 0, 1) := by decide +kernel
theorem dX13_init_5 : decode cX13_init 5 = .ok (.aload_n 1, 1) := by decide +kernel
theorem dX13_init_6 : decode cX13_init 6 = .ok (.putfield 7, 3) := by decide +kernel
theorem dX13_init_9 : decode cX13_init 9 = .ok (.aload_n 0, 1) := by decide +kernel
theorem dX13_init_10 : decode cX13_init 10 = .ok (.iload_n 2, 1) := by decide +kernel
theorem dX13_init_11 : decode cX13_init 11 = .ok (.putfield 13, 3) := by decide +kernel
theorem dX13_init_14 : decode cX13_init 14 = .ok (.return_, 1) := by decide +kernel
theorem dX14_in_0 : decode cX14_in 0 = .ok (.iload_n 0, 1) := by decide +kernel
theorem dX14_in_1 : decode cX14_in 1 = .ok (.iload_n 1, 1) := by decide +kernel
theorem dX14_in_2 : decode cX14_in 2 = .ok (.if_icmp .lt 12, 3) := by decide +kernel
theorem dX14_in_5 : decode cX14_in 5 = .ok (.iload_n 0, 1) := by decide +kernel
theorem dX14_in_6 : decode cX14_in 6 = .ok (.iload_n 2, 1) := by decide +kernel
theorem dX14_in_7 : decode cX14_in 7 = .ok (.if_icmp .gt 7, 3) := by decide +kernel
theorem dX14_in_10 : decode cX14_in 10 = .ok (.iconst 1, 1) := by decide +kernel
theorem dX14_in_11 : decode cX14_in 11 = .ok (.goto 4, 3) := by decide +kernel
theorem dX14_in_14 : decode cX14_in 14 = .ok (.iconst 0, 1) := by decide +kernel
theorem dX14_in_15 : decode cX14_in 15 = .ok (.ireturn, 1) := by decide +kernel
set_option maxRecDepth 20000 in
theorem ggX14_init_Jx4a65c_init_da8c8 : GoodIn wsX14_init wsJx4a65c_init_da8c8 := goodIn_r _ [24, 25, 26, 27, 28, 29, 30, 31, 32, 33, 34, 35, 36, 2, 3, 108, 109, 110] (by decide +kernel) (by decide +kernel)
set_option maxRecDepth 20000 in
theorem gX14_init_Jx4a65c_init_da8c8 : GoodIn wsX14_init (wsJx4a65c_init_da8c8) := ggX14_init_Jx4a65c_init_da8c8
set_option maxRecDepth 20000 in
theorem ggX14_init_X10_init : GoodIn wsX14_init wsX10_init := goodIn_r _ [39, 40, 2, 3, 41, 42, 43, 44, 45, 46, 47, 13, 48, 49, 50, 51, 52, 53, 54, 130, 131, 132, 133, 134, 135, 136, 137, 138, 139, 140, 141, 142, 143, 144, 145] (by decide +kernel) (by decide +kernel)
set_option maxRecDepth 20000 in
theorem gX14_init_X10_init : GoodIn wsX14_init (wsX10_init) := ggX14_init_X10_init
set_option maxRecDepth 20000 in
theorem ggX14_init_Jx4a65c_add_9ea2d : GoodIn wsX14_init wsJx4a65c_add_9ea2d := goodIn_r _ [58, 59, 60, 26, 61, 62, 63, 64, 6, 65, 66, 67, 68, 69, 70, 71, 72, 73, 25, 74, 75, 76, 77, 78, 79, 80, 81, 82, 83, 84, 85, 86, 87, 88, 89, 90, 91, 92, 93, 94, 95, 96, 97, 98, 99, 100, 101, 102, 103, 104, 105, 106, 107, 108, 109, 110] (by decide +kernel) (by decide +kernel)
set_option maxRecDepth 20000 in
theorem gX14_init_Jx4a65c_add_9ea2d : GoodIn wsX14_init (wsV RX14 57 RJx4a65c yJx4a65c_add_9ea2d wsJx4a65c_add_9ea2d) := goodIn_app (goodIn_of _ (by decide +kernel)) ggX14_init_Jx4a65c_add_9ea2d
theorem dX14_init_0 : decode cX14_init 0 = .ok (.aload_n 0, 1) := by decide +kernel
theorem dX14_init_1 : decode cX14_init 1 = .ok (.invokespecial 1, 3) := by decide +kernel
theorem dX14_init_4 : decode cX14_init 4 = .ok (.aload_n 0, 1) := by decide +kernel
theorem dX14_init_5 : decode cX14_init 5 = .ok (.new 7, 3) := by decide +kernel
theorem dX14_init_8 : decode cX14_init 8 = .ok (.dup, 1) := by decide +kernel
theorem dX14_init_9 : decode cX14_init 9 = .ok (.invokespecial 9, 3) := by decide +kernel
theorem dX14_init_12 : decode cX14_init 12 = .ok (.putfield 10, 3) := by decide +kernel
theorem dX14_init_15 : decode cX14_init 15 = .ok (.aload_n 0, 1) := by decide +kernel
theorem dX14_init_16 : decode cX14_init 16 = .ok (.bipush 12, 2) := by decide +kernel
theorem dX14_init_18 : decode cX14_init 18 = .ok (.anewarray 16, 3) := by decide +kernel
theorem dX14_init_21 : decode cX14_init 21 = .ok (.putfield 18, 3) := by decide +kernel
theorem dX14_init_24 : decode cX14_init 24 = .ok (.aload_n 0, 1) := by decide +kernel
theorem dX14_init_25 : decode cX14_init 25 = .ok (.new 7, 3) := by decide +kernel
theorem dX14_init_28 : decode cX14_init 28 = .ok (.dup, 1) := by decide +kernel
theorem dX14_init_29 : decode cX14_init 29 = .ok (.invokespecial 9, 3) := by decide +kernel
theorem dX14_init_32 : decode cX14_init 32 = .ok (.putfield 22, 3) := by decide +kernel
theorem dX14_init_35 : decode cX14_init 35 = .ok (.aload_n 0, 1) := by decide +kernel
theorem dX14_init_36 : decode cX14_init 36 = .ok (.new 7, 3) := by decide +kernel
theorem dX14_init_39 : decode cX14_init 39 = .ok (.dup, 1) := by decide +kernel
theorem dX14_init_40 : decode cX14_init 40 = .ok (.invokespecial 9, 3) := by decide +kernel
theorem dX14_init_43 : decode cX14_init 43 = .ok (.putfield 25, 3) := by decide +kernel
theorem dX14_init_46 : decode cX14_init 46 = .ok (.aload_n 0, 1) := by decide +kernel
theorem dX14_init_47 : decode cX14_init 47 = .ok (.new 7, 3) := by decide +kernel
theorem dX14_init_50 : decode cX14_init 50 = .ok (.dup, 1) := by decide +kernel
theorem dX14_init_51 : decode cX14_init 51 = .ok (.invokespecial 9, 3) := by decide +kernel
theorem dX14_init_54 : decode cX14_init 54 = .ok (.putfield 28, 3) := by decide +kernel
theorem dX14_init_57 : decode cX14_init 57 = .ok (.aload_n 0, 1) := by decide +kernel
theorem dX14_init_58 : decode cX14_init 58 = .ok (.iconst 0, 1) := by decide +kernel
theorem dX14_init_59 : decode cX14_init 59 = .ok (.newarray .int, 2) := by decide +kernel
theorem dX14_init_61 : decode cX14_init 61 = .ok (.putfield 31, 3) := by decide +kernel
theorem dX14_init_64 : decode cX14_init 64 = .ok (.aload_n 0, 1) := by decide +kernel
theorem dX14_init_65 : decode cX14_init 65 = .ok (.new 7, 3) := by decide +kernel
theorem dX14_init_68 : decode cX14_init 68 = .ok (.dup, 1) := by decide +kernel
theorem dX14_init_69 : decode cX14_init 69 = .ok (.invokespecial 9, 3) := by decide +kernel
theorem dX14_init_72 : decode cX14_init 72 = .ok (.putfield 35, 3) := by decide +kernel
theorem dX14_init_75 : decode cX14_init 75 = .ok (.aload_n 0, 1) := by decide +kernel
theorem dX14_init_76 : decode cX14_init 76 = .ok (.iconst (-1), 1) := by decide +kernel
theorem dX14_init_77 : decode cX14_init 77 = .ok (.putfield 38, 3) := by decide +kernel
theorem dX14_init_80 : decode cX14_init 80 = .ok (.aload_n 0, 1) := by decide +kernel
theorem dX14_init_81 : decode cX14_init 81 = .ok (.bipush 100, 2) := by decide +kernel
theorem dX14_init_83 : decode cX14_init 83 = .ok (.putfield 42, 3) := by decide +kernel
theorem dX14_init_86 : decode cX14_init 86 = .ok (.aload_n 0, 1) := by decide +kernel
theorem dX14_init_87 : decode cX14_init 87 = .ok (.bipush 16, 2) := by decide +kernel
theorem dX14_init_89 : decode cX14_init 89 = .ok (.newarray .int, 2) := by decide +kernel
theorem dX14_init_91 : decode cX14_init 91 = .ok (.putfield 45, 3) := by decide +kernel
theorem dX14_init_94 : decode cX14_init 94 = .ok (.new 48, 3) := by decide +kernel
theorem dX14_init_97 : decode cX14_init 97 = .ok (.dup, 1) := by decide +kernel
theorem dX14_init_98 : decode cX14_init 98 = .ok (.bipush 104, 2) := by decide +kernel
theorem dX14_init_100 : decode cX14_init 100 = .ok (.iconst 4, 1) := by decide +kernel
theorem dX14_init_101 : decode cX14_init 101 = .ok (.iconst 0, 1) := by decide +kernel
theorem dX14_init_102 : decode cX14_init 102 = .ok (.iconst 1, 1) := by decide +kernel
theorem dX14_init_103 : decode cX14_init 103 = .ok (.iconst 0, 1) := by decide +kernel
theorem dX14_init_104 : decode cX14_init 104 = .ok (.invokespecial 50, 3) := by decide +kernel
theorem dX14_init_107 : decode cX14_init 107 = .ok (.astore_n 1, 1) := by decide +kernel
theorem dX14_init_108 : decode cX14_init 108 = .ok (.aload_n 1, 1) := by decide +kernel
theorem dX14_init_109 : decode cX14_init 109 = .ok (.bipush 99, 2) := by decide +kernel
theorem dX14_init_111 : decode cX14_init 111 = .ok (.putfield 53, 3) := by decide +kernel
theorem dX14_init_114 : decode cX14_init 114 = .ok (.aload_n 0, 1) := by decide +kernel
theorem dX14_init_115 : decode cX14_init 115 = .ok (.getfield 10, 3) := by decide +kernel
theorem dX14_init_118 : decode cX14_init 118 = .ok (.aload_n 1, 1) := by decide +kernel
theorem dX14_init_119 : decode cX14_init 119 = .ok (.invokevirtual 57, 3) := by decide +kernel
theorem dX14_init_122 : decode cX14_init 122 = .ok (.pop, 1) := by decide +kernel
theorem dX14_init_123 : decode cX14_init 123 = .ok (.return_, 1) := by decide +kernel
theorem dX14_thrown_0 : decode cX14_thrown 0 = .ok (.aload_n 0, 1) := by decide +kernel
theorem dX14_thrown_1 : decode cX14_thrown 1 = .ok (.getfield 61, 3) := by decide +kernel
theorem dX14_thrown_4 : decode cX14_thrown 4 = .ok (.ireturn, 1) := by decide +kernel
theorem dX14_raises_0 : decode cX14_raises 0 = .ok (.aload_n 0, 1) := by decide +kernel
theorem dX14_raises_1 : decode cX14_raises 1 = .ok (.iload_n 1, 1) := by decide +kernel
theorem dX14_raises_2 : decode cX14_raises 2 = .ok (.putfield 61, 3) := by decide +kernel
theorem dX14_raises_5 : decode cX14_raises 5 = .ok (.iconst 0, 1) := by decide +kernel
theorem dX14_raises_6 : decode cX14_raises 6 = .ok (.ireturn, 1) := by decide +kernel
set_option maxRecDepth 20000 in
theorem ggX14_isDevice_Jx4a65c_size_8abf5 : GoodIn wsX14_isDevice wsJx4a65c_size_8abf5 := goodIn_r _ [6, 7, 31, 32, 33] (by decide +kernel) (by decide +kernel)
set_option maxRecDepth 20000 in
theorem gX14_isDevice_Jx4a65c_size_8abf5 : GoodIn wsX14_isDevice (wsV RX14 64 RJx4a65c yJx4a65c_size_8abf5 wsJx4a65c_size_8abf5) := goodIn_app (goodIn_of _ (by decide +kernel)) ggX14_isDevice_Jx4a65c_size_8abf5
set_option maxRecDepth 20000 in
theorem ggX14_isDevice_X14_in : GoodIn wsX14_isDevice wsX14_in := goodIn_r _ [11] (by decide +kernel) (by decide +kernel)
set_option maxRecDepth 20000 in
theorem gX14_isDevice_X14_in : GoodIn wsX14_isDevice (va_wsS RX14 68 yX14_in wsX14_in) := goodIn_app (goodIn_of _ (by decide +kernel)) ggX14_isDevice_X14_in
theorem dX14_isDevice_0 : decode cX14_isDevice 0 = .ok (.iload_n 1, 1) := by decide +kernel
theorem dX14_isDevice_1 : decode cX14_isDevice 1 = .ok (.iconst 0, 1) := by decide +kernel
theorem dX14_isDevice_2 : decode cX14_isDevice 2 = .ok (.aload_n 0, 1) := by decide +kernel
theorem dX14_isDevice_3 : decode cX14_isDevice 3 = .ok (.getfield 10, 3) := by decide +kernel
theorem dX14_isDevice_6 : decode cX14_isDevice 6 = .ok (.invokevirtual 64, 3) := by decide +kernel
theorem dX14_isDevice_9 : decode cX14_isDevice 9 = .ok (.iconst 1, 1) := by decide +kernel
theorem dX14_isDevice_10 : decode cX14_isDevice 10 = .ok (.isub, 1) := by decide +kernel
theorem dX14_isDevice_11 : decode cX14_isDevice 11 = .ok (.invokestatic 68, 3) := by decide +kernel
theorem dX14_isDevice_14 : decode cX14_isDevice 14 = .ok (.ireturn, 1) := by decide +kernel
set_option maxRecDepth 20000 in
theorem ggX14_noDevice_X14_isDevice : GoodIn wsX14_noDevice wsX14_isDevice := goodIn_r _ [6, 7, 8, 9, 10, 11, 12, 13, 14, 15, 5, 16, 17, 18, 19, 20, 21, 22, 23, 24, 25, 26, 27, 28, 29, 30, 31, 32, 33, 34, 35, 36, 37, 38] (by decide +kernel) (by decide +kernel)
set_option maxRecDepth 20000 in
theorem gX14_noDevice_X14_isDevice : GoodIn wsX14_noDevice (wsV RX14 72 RX14 yX14_isDevice wsX14_isDevice) := goodIn_app (goodIn_of _ (by decide +kernel)) ggX14_noDevice_X14_isDevice
theorem dX14_noDevice_0 : decode cX14_noDevice 0 = .ok (.aload_n 0, 1) := by decide +kernel
theorem dX14_noDevice_1 : decode cX14_noDevice 1 = .ok (.aload_n 0, 1) := by decide +kernel
theorem dX14_noDevice_2 : decode cX14_noDevice 2 = .ok (.iload_n 1, 1) := by decide +kernel
theorem dX14_noDevice_3 : decode cX14_noDevice 3 = .ok (.invokevirtual 72, 3) := by decide +kernel
theorem dX14_noDevice_6 : decode cX14_noDevice 6 = .ok (.ifCond .eq 7, 3) := by decide +kernel
theorem dX14_noDevice_9 : decode cX14_noDevice 9 = .ok (.iconst 0, 1) := by decide +kernel
theorem dX14_noDevice_10 : decode cX14_noDevice 10 = .ok (.goto 4, 3) := by decide +kernel
theorem dX14_noDevice_13 : decode cX14_noDevice 13 = .ok (.iconst 1, 1) := by decide +kernel
theorem dX14_noDevice_14 : decode cX14_noDevice 14 = .ok (.putfield 61, 3) := by decide +kernel
theorem dX14_noDevice_17 : decode cX14_noDevice 17 = .ok (.aload_n 0, 1) := by decide +kernel
theorem dX14_noDevice_18 : decode cX14_noDevice 18 = .ok (.getfield 61, 3) := by decide +kernel
theorem dX14_noDevice_21 : decode cX14_noDevice 21 = .ok (.ifCond .le 7, 3) := by decide +kernel
theorem dX14_noDevice_24 : decode cX14_noDevice 24 = .ok (.iconst 1, 1) := by decide +kernel
theorem dX14_noDevice_25 : decode cX14_noDevice 25 = .ok (.goto 4, 3) := by decide +kernel
theorem dX14_noDevice_28 : decode cX14_noDevice 28 = .ok (.iconst 0, 1) := by decide +kernel
theorem dX14_noDevice_29 : decode cX14_noDevice 29 = .ok (.ireturn, 1) := by decide +kernel
set_option maxRecDepth 20000 in
theorem ggX14_depth_Jx4a65c_get_915e3 : GoodIn wsX14_depth wsJx4a65c_get_915e3 := goodIn_r _ [7, 8, 9, 10, 11, 12, 13, 14, 15, 16, 17, 18, 19, 6, 20, 21, 57, 58, 59] (by decide +kernel) (by decide +kernel)
set_option maxRecDepth 20000 in
theorem gX14_depth_Jx4a65c_get_915e3 : GoodIn wsX14_depth (wsV RX14 76 RJx4a65c yJx4a65c_get_915e3 wsJx4a65c_get_915e3) := goodIn_app (goodIn_of _ (by decide +kernel)) ggX14_depth_Jx4a65c_get_915e3
theorem dX14_depth_0 : decode cX14_depth 0 = .ok (.iconst 0, 1) := by decide +kernel
theorem dX14_depth_1 : decode cX14_depth 1 = .ok (.istore_n 2, 1) := by decide +kernel
theorem dX14_depth_2 : decode cX14_depth 2 = .ok (.iload_n 1, 1) := by decide +kernel
theorem dX14_depth_3 : decode cX14_depth 3 = .ok (.istore_n 3, 1) := by decide +kernel
theorem dX14_depth_4 : decode cX14_depth 4 = .ok (.aload_n 0, 1) := by decide +kernel
theorem dX14_depth_5 : decode cX14_depth 5 = .ok (.getfield 10, 3) := by decide +kernel
theorem dX14_depth_8 : decode cX14_depth 8 = .ok (.iload_n 3, 1) := by decide +kernel
theorem dX14_depth_9 : decode cX14_depth 9 = .ok (.invokevirtual 76, 3) := by decide +kernel
theorem dX14_depth_12 : decode cX14_depth 12 = .ok (.checkcast 48, 3) := by decide +kernel
theorem dX14_depth_15 : decode cX14_depth 15 = .ok (.getfield 80, 3) := by decide +kernel
theorem dX14_depth_18 : decode cX14_depth 18 = .ok (.iconst (-1), 1) := by decide +kernel
theorem dX14_depth_19 : decode cX14_depth 19 = .ok (.if_icmp .eq 24, 3) := by decide +kernel
theorem dX14_depth_22 : decode cX14_depth 22 = .ok (.iinc 2 1, 3) := by decide +kernel
theorem dX14_depth_25 : decode cX14_depth 25 = .ok (.aload_n 0, 1) := by decide +kernel
theorem dX14_depth_26 : decode cX14_depth 26 = .ok (.getfield 10, 3) := by decide +kernel
theorem dX14_depth_29 : decode cX14_depth 29 = .ok (.iload_n 3, 1) := by decide +kernel
theorem dX14_depth_30 : decode cX14_depth 30 = .ok (.invokevirtual 76, 3) := by decide +kernel
theorem dX14_depth_33 : decode cX14_depth 33 = .ok (.checkcast 48, 3) := by decide +kernel
theorem dX14_depth_36 : decode cX14_depth 36 = .ok (.getfield 80, 3) := by decide +kernel
theorem dX14_depth_39 : decode cX14_depth 39 = .ok (.istore_n 3, 1) := by decide +kernel
theorem dX14_depth_40 : decode cX14_depth 40 = .ok (.goto (-36), 3) := by decide +kernel
theorem dX14_depth_43 : decode cX14_depth 43 = .ok (.iload_n 2, 1) := by decide +kernel
theorem dX14_depth_44 : decode cX14_depth 44 = .ok (.ireturn, 1) := by decide +kernel
set_option maxRecDepth 20000 in
theorem ggX14_isPlugged_Jx4a65c_get_915e3 : GoodIn wsX14_isPlugged wsJx4a65c_get_915e3 := goodIn_r _ [7, 8, 9, 10, 11, 12, 13, 14, 15, 16, 17, 18, 19, 6, 20, 21, 57, 58, 59] (by decide +kernel) (by decide +kernel)
set_option maxRecDepth 20000 in
theorem gX14_isPlugged_Jx4a65c_get_915e3 : GoodIn wsX14_isPlugged (wsV RX14 76 RJx4a65c yJx4a65c_get_915e3 wsJx4a65c_get_915e3) := goodIn_app (goodIn_of _ (by decide +kernel)) ggX14_isPlugged_Jx4a65c_get_915e3
theorem dX14_isPlugged_0 : decode cX14_isPlugged 0 = .ok (.aload_n 0, 1) := by decide +kernel
theorem dX14_isPlugged_1 : decode cX14_isPlugged 1 = .ok (.getfield 10, 3) := by decide +kernel
theorem dX14_isPlugged_4 : decode cX14_isPlugged 4 = .ok (.iload_n 1, 1) := by decide +kernel
theorem dX14_isPlugged_5 : decode cX14_isPlugged 5 = .ok (.invokevirtual 76, 3) := by decide +kernel
theorem dX14_isPlugged_8 : decode cX14_isPlugged 8 = .ok (.checkcast 48, 3) := by decide +kernel
theorem dX14_isPlugged_11 : decode cX14_isPlugged 11 = .ok (.getfield 53, 3) := by decide +kernel
theorem dX14_isPlugged_14 : decode cX14_isPlugged 14 = .ok (.bipush 117, 2) := by decide +kernel
theorem dX14_isPlugged_16 : decode cX14_isPlugged 16 = .ok (.if_icmp .eq 7, 3) := by decide +kernel
theorem dX14_isPlugged_19 : decode cX14_isPlugged 19 = .ok (.iconst 1, 1) := by decide +kernel
theorem dX14_isPlugged_20 : decode cX14_isPlugged 20 = .ok (.goto 4, 3) := by decide +kernel
theorem dX14_isPlugged_23 : decode cX14_isPlugged 23 = .ok (.iconst 0, 1) := by decide +kernel
theorem dX14_isPlugged_24 : decode cX14_isPlugged 24 = .ok (.ireturn, 1) := by decide +kernel
set_option maxRecDepth 20000 in
theorem ggX14_isBelow_Jx4a65c_get_915e3 : GoodIn wsX14_isBelow wsJx4a65c_get_915e3 := goodIn_r _ [7, 8, 9, 10, 11, 12, 13, 14, 15, 16, 17, 18, 19, 6, 20, 21, 57, 58, 59] (by decide +kernel) (by decide +kernel)
set_option maxRecDepth 20000 in
theorem gX14_isBelow_Jx4a65c_get_915e3 : GoodIn wsX14_isBelow (wsV RX14 76 RJx4a65c yJx4a65c_get_915e3 wsJx4a65c_get_915e3) := goodIn_app (goodIn_of _ (by decide +kernel)) ggX14_isBelow_Jx4a65c_get_915e3
theorem dX14_isBelow_0 : decode cX14_isBelow 0 = .ok (.iload_n 1, 1) := by decide +kernel
theorem dX14_isBelow_1 : decode cX14_isBelow 1 = .ok (.istore_n 3, 1) := by decide +kernel
theorem dX14_isBelow_2 : decode cX14_isBelow 2 = .ok (.iload_n 3, 1) := by decide +kernel
theorem dX14_isBelow_3 : decode cX14_isBelow 3 = .ok (.iconst (-1), 1) := by decide +kernel
theorem dX14_isBelow_4 : decode cX14_isBelow 4 = .ok (.if_icmp .eq 26, 3) := by decide +kernel
theorem dX14_isBelow_7 : decode cX14_isBelow 7 = .ok (.iload_n 3, 1) := by decide +kernel
theorem dX14_isBelow_8 : decode cX14_isBelow 8 = .ok (.iload_n 2, 1) := by decide +kernel
theorem dX14_isBelow_9 : decode cX14_isBelow 9 = .ok (.if_icmp .eq 21, 3) := by decide +kernel
theorem dX14_isBelow_12 : decode cX14_isBelow 12 = .ok (.aload_n 0, 1) := by decide +kernel
theorem dX14_isBelow_13 : decode cX14_isBelow 13 = .ok (.getfield 10, 3) := by decide +kernel
theorem dX14_isBelow_16 : decode cX14_isBelow 16 = .ok (.iload_n 3, 1) := by decide +kernel
theorem dX14_isBelow_17 : decode cX14_isBelow 17 = .ok (.invokevirtual 76, 3) := by decide +kernel
theorem dX14_isBelow_20 : decode cX14_isBelow 20 = .ok (.checkcast 48, 3) := by decide +kernel
theorem dX14_isBelow_23 : decode cX14_isBelow 23 = .ok (.getfield 80, 3) := by decide +kernel
theorem dX14_isBelow_26 : decode cX14_isBelow 26 = .ok (.istore_n 3, 1) := by decide +kernel
theorem dX14_isBelow_27 : decode cX14_isBelow 27 = .ok (.goto (-25), 3) := by decide +kernel
theorem dX14_isBelow_30 : decode cX14_isBelow 30 = .ok (.iload_n 3, 1) := by decide +kernel
theorem dX14_isBelow_31 : decode cX14_isBelow 31 = .ok (.iload_n 2, 1) := by decide +kernel
theorem dX14_isBelow_32 : decode cX14_isBelow 32 = .ok (.if_icmp .ne 7, 3) := by decide +kernel
theorem dX14_isBelow_35 : decode cX14_isBelow 35 = .ok (.iconst 1, 1) := by decide +kernel
theorem dX14_isBelow_36 : decode cX14_isBelow 36 = .ok (.goto 4, 3) := by decide +kernel
theorem dX14_isBelow_39 : decode cX14_isBelow 39 = .ok (.iconst 0, 1) := by decide +kernel
theorem dX14_isBelow_40 : decode cX14_isBelow 40 = .ok (.ireturn, 1) := by decide +kernel
set_option maxRecDepth 20000 in
theorem ggX14_runs_Jx4a65c_get_915e3 : GoodIn wsX14_runs wsJx4a65c_get_915e3 := goodIn_r _ [7, 8, 9, 10, 11, 12, 13, 14, 15, 16, 17, 18, 19, 6, 20, 21, 57, 58, 59] (by decide +kernel) (by decide +kernel)
set_option maxRecDepth 20000 in
theorem gX14_runs_Jx4a65c_get_915e3 : GoodIn wsX14_runs (wsV RX14 76 RJx4a65c yJx4a65c_get_915e3 wsJx4a65c_get_915e3) := goodIn_app (goodIn_of _ (by decide +kernel)) ggX14_runs_Jx4a65c_get_915e3
theorem dX14_runs_0 : decode cX14_runs 0 = .ok (.bipush 104, 2) := by decide +kernel
theorem dX14_runs_2 : decode cX14_runs 2 = .ok (.istore_n 2, 1) := by decide +kernel
theorem dX14_runs_3 : decode cX14_runs 3 = .ok (.iload_n 1, 1) := by decide +kernel
theorem dX14_runs_4 : decode cX14_runs 4 = .ok (.istore_n 3, 1) := by decide +kernel
theorem dX14_runs_5 : decode cX14_runs 5 = .ok (.iload_n 3, 1) := by decide +kernel
theorem dX14_runs_6 : decode cX14_runs 6 = .ok (.iconst (-1), 1) := by decide +kernel
theorem dX14_runs_7 : decode cX14_runs 7 = .ok (.if_icmp .eq 69, 3) := by decide +kernel
theorem dX14_runs_10 : decode cX14_runs 10 = .ok (.aload_n 0, 1) := by decide +kernel
theorem dX14_runs_11 : decode cX14_runs 11 = .ok (.getfield 10, 3) := by decide +kernel
theorem dX14_runs_14 : decode cX14_runs 14 = .ok (.iload_n 3, 1) := by decide +kernel
theorem dX14_runs_15 : decode cX14_runs 15 = .ok (.invokevirtual 76, 3) := by decide +kernel
theorem dX14_runs_18 : decode cX14_runs 18 = .ok (.checkcast 48, 3) := by decide +kernel
theorem dX14_runs_21 : decode cX14_runs 21 = .ok (.getfield 83, 3) := by decide +kernel
theorem dX14_runs_24 : decode cX14_runs 24 = .ok (.istore 4, 2) := by decide +kernel
theorem dX14_runs_26 : decode cX14_runs 26 = .ok (.iload 4, 2) := by decide +kernel
theorem dX14_runs_28 : decode cX14_runs 28 = .ok (.bipush 108, 2) := by decide +kernel
theorem dX14_runs_30 : decode cX14_runs 30 = .ok (.if_icmp .eq 9, 3) := by decide +kernel
theorem dX14_runs_33 : decode cX14_runs 33 = .ok (.iload_n 2, 1) := by decide +kernel
theorem dX14_runs_34 : decode cX14_runs 34 = .ok (.bipush 108, 2) := by decide +kernel
theorem dX14_runs_36 : decode cX14_runs 36 = .ok (.if_icmp .ne 8, 3) := by decide +kernel
theorem dX14_runs_39 : decode cX14_runs 39 = .ok (.bipush 108, 2) := by decide +kernel
theorem dX14_runs_41 : decode cX14_runs 41 = .ok (.goto 16, 3) := by decide +kernel
theorem dX14_runs_44 : decode cX14_runs 44 = .ok (.iload 4, 2) := by decide +kernel
theorem dX14_runs_46 : decode cX14_runs 46 = .ok (.bipush 102, 2) := by decide +kernel
theorem dX14_runs_48 : decode cX14_runs 48 = .ok (.if_icmp .ne 8, 3) := by decide +kernel
theorem dX14_runs_51 : decode cX14_runs 51 = .ok (.bipush 102, 2) := by decide +kernel
theorem dX14_runs_53 : decode cX14_runs 53 = .ok (.goto 4, 3) := by decide +kernel
theorem dX14_runs_56 : decode cX14_runs 56 = .ok (.iload_n 2, 1) := by decide +kernel
theorem dX14_runs_57 : decode cX14_runs 57 = .ok (.istore_n 2, 1) := by decide +kernel
theorem dX14_runs_58 : decode cX14_runs 58 = .ok (.aload_n 0, 1) := by decide +kernel
theorem dX14_runs_59 : decode cX14_runs 59 = .ok (.getfield 10, 3) := by decide +kernel
theorem dX14_runs_62 : decode cX14_runs 62 = .ok (.iload_n 3, 1) := by decide +kernel
theorem dX14_runs_63 : decode cX14_runs 63 = .ok (.invokevirtual 76, 3) := by decide +kernel
theorem dX14_runs_66 : decode cX14_runs 66 = .ok (.checkcast 48, 3) := by decide +kernel
theorem dX14_runs_69 : decode cX14_runs 69 = .ok (.getfield 80, 3) := by decide +kernel
theorem dX14_runs_72 : decode cX14_runs 72 = .ok (.istore_n 3, 1) := by decide +kernel
theorem dX14_runs_73 : decode cX14_runs 73 = .ok (.goto (-68), 3) := by decide +kernel
theorem dX14_runs_76 : decode cX14_runs 76 = .ok (.iload_n 2, 1) := by decide +kernel
theorem dX14_runs_77 : decode cX14_runs 77 = .ok (.ireturn, 1) := by decide +kernel
set_option maxRecDepth 20000 in
theorem ggX14_translatorOf_Jx4a65c_get_915e3 : GoodIn wsX14_translatorOf wsJx4a65c_get_915e3 := goodIn_r _ [7, 8, 9, 10, 11, 12, 13, 14, 15, 16, 17, 18, 19, 6, 20, 21, 62, 63, 64] (by decide +kernel) (by decide +kernel)
set_option maxRecDepth 20000 in
theorem gX14_translatorOf_Jx4a65c_get_915e3 : GoodIn wsX14_translatorOf (wsV RX14 76 RJx4a65c yJx4a65c_get_915e3 wsJx4a65c_get_915e3) := goodIn_app (goodIn_of _ (by decide +kernel)) ggX14_translatorOf_Jx4a65c_get_915e3
set_option maxRecDepth 20000 in
theorem ggX14_translatorOf_X14_runs : GoodIn wsX14_translatorOf wsX14_runs := goodIn_r _ [26, 1, 2, 3, 4, 5, 6, 7, 8, 9, 10, 11, 12, 13, 14, 15, 16, 17, 18, 19, 20, 21, 27, 28, 29, 30, 31, 32, 33, 34, 35, 36, 37, 38, 39, 40, 41, 42, 43, 44, 45, 46, 47, 48, 49, 50, 51, 52, 53, 54, 55, 56, 57, 58, 59, 60, 61, 62, 63, 64] (by decide +kernel) (by decide +kernel)
set_option maxRecDepth 20000 in
theorem gX14_translatorOf_X14_runs : GoodIn wsX14_translatorOf (wsV RX14 86 RX14 yX14_runs wsX14_runs) := goodIn_app (goodIn_of _ (by decide +kernel)) ggX14_translatorOf_X14_runs
theorem dX14_translatorOf_0 : decode cX14_translatorOf 0 = .ok (.aload_n 0, 1) := by decide +kernel
theorem dX14_translatorOf_1 : decode cX14_translatorOf 1 = .ok (.getfield 10, 3) := by decide +kernel
theorem dX14_translatorOf_4 : decode cX14_translatorOf 4 = .ok (.iload_n 1, 1) := by decide +kernel
theorem dX14_translatorOf_5 : decode cX14_translatorOf 5 = .ok (.invokevirtual 76, 3) := by decide +kernel
theorem dX14_translatorOf_8 : decode cX14_translatorOf 8 = .ok (.checkcast 48, 3) := by decide +kernel
theorem dX14_translatorOf_11 : decode cX14_translatorOf 11 = .ok (.getfield 80, 3) := by decide +kernel
theorem dX14_translatorOf_14 : decode cX14_translatorOf 14 = .ok (.istore_n 2, 1) := by decide +kernel
theorem dX14_translatorOf_15 : decode cX14_translatorOf 15 = .ok (.aload_n 0, 1) := by decide +kernel
theorem dX14_translatorOf_16 : decode cX14_translatorOf 16 = .ok (.iload_n 2, 1) := by decide +kernel
theorem dX14_translatorOf_17 : decode cX14_translatorOf 17 = .ok (.invokevirtual 86, 3) := by decide +kernel
theorem dX14_translatorOf_20 : decode cX14_translatorOf 20 = .ok (.bipush 104, 2) := by decide +kernel
theorem dX14_translatorOf_22 : decode cX14_translatorOf 22 = .ok (.if_icmp .eq 21, 3) := by decide +kernel
theorem dX14_translatorOf_25 : decode cX14_translatorOf 25 = .ok (.aload_n 0, 1) := by decide +kernel
theorem dX14_translatorOf_26 : decode cX14_translatorOf 26 = .ok (.getfield 10, 3) := by decide +kernel
theorem dX14_translatorOf_29 : decode cX14_translatorOf 29 = .ok (.iload_n 2, 1) := by decide +kernel
theorem dX14_translatorOf_30 : decode cX14_translatorOf 30 = .ok (.invokevirtual 76, 3) := by decide +kernel
theorem dX14_translatorOf_33 : decode cX14_translatorOf 33 = .ok (.checkcast 48, 3) := by decide +kernel
theorem dX14_translatorOf_36 : decode cX14_translatorOf 36 = .ok (.getfield 80, 3) := by decide +kernel
theorem dX14_translatorOf_39 : decode cX14_translatorOf 39 = .ok (.istore_n 2, 1) := by decide +kernel
theorem dX14_translatorOf_40 : decode cX14_translatorOf 40 = .ok (.goto (-25), 3) := by decide +kernel
theorem dX14_translatorOf_43 : decode cX14_translatorOf 43 = .ok (.iload_n 2, 1) := by decide +kernel
theorem dX14_translatorOf_44 : decode cX14_translatorOf 44 = .ok (.ireturn, 1) := by decide +kernel
set_option maxRecDepth 20000 in
theorem ggX14_make_X14_in : GoodIn wsX14_make wsX14_in := goodIn_r _ [9] (by decide +kernel) (by decide +kernel)
set_option maxRecDepth 20000 in
theorem gX14_make_X14_in : GoodIn wsX14_make (va_wsS RX14 68 yX14_in wsX14_in) := goodIn_app (goodIn_of _ (by decide +kernel)) ggX14_make_X14_in
set_option maxRecDepth 20000 in
theorem ggX14_make_Jx4a65c_size_8abf5 : GoodIn wsX14_make wsJx4a65c_size_8abf5 := goodIn_r _ [14, 15, 126, 127, 128] (by decide +kernel) (by decide +kernel)
set_option maxRecDepth 20000 in
theorem gX14_make_Jx4a65c_size_8abf5 : GoodIn wsX14_make (wsV RX14 64 RJx4a65c yJx4a65c_size_8abf5 wsJx4a65c_size_8abf5) := goodIn_app (goodIn_of _ (by decide +kernel)) ggX14_make_Jx4a65c_size_8abf5
set_option maxRecDepth 20000 in
theorem ggX14_make_X10_init : GoodIn wsX14_make wsX10_init := goodIn_r _ [18, 19, 20, 21, 22, 23, 24, 25, 26, 27, 28, 29, 30, 31, 32, 33, 34, 35, 36, 110, 111, 112, 113, 114, 115, 116, 117, 118, 119, 120, 121, 122, 123, 124, 125] (by decide +kernel) (by decide +kernel)
set_option maxRecDepth 20000 in
theorem gX14_make_X10_init : GoodIn wsX14_make (wsX10_init) := ggX14_make_X10_init
set_option maxRecDepth 20000 in
theorem ggX14_make_Jx4a65c_add_9ea2d : GoodIn wsX14_make wsJx4a65c_add_9ea2d := goodIn_r _ [40, 41, 42, 43, 15, 44, 45, 46, 13, 47, 48, 49, 50, 51, 52, 53, 54, 55, 56, 57, 58, 59, 60, 61, 62, 63, 64, 65, 66, 67, 68, 69, 70, 71, 72, 73, 74, 75, 76, 77, 78, 79, 80, 81, 82, 83, 84, 85, 86, 87, 88, 89, 90, 126, 127, 128] (by decide +kernel) (by decide +kernel)
set_option maxRecDepth 20000 in
theorem gX14_make_Jx4a65c_add_9ea2d : GoodIn wsX14_make (wsV RX14 57 RJx4a65c yJx4a65c_add_9ea2d wsJx4a65c_add_9ea2d) := goodIn_app (goodIn_of _ (by decide +kernel)) ggX14_make_Jx4a65c_add_9ea2d
theorem dX14_make_0 : decode cX14_make 0 = .ok (.iload_n 1, 1) := by decide +kernel
theorem dX14_make_1 : decode cX14_make 1 = .ok (.bipush 108, 2) := by decide +kernel
theorem dX14_make_3 : decode cX14_make 3 = .ok (.if_icmp .eq 15, 3) := by decide +kernel
theorem dX14_make_6 : decode cX14_make 6 = .ok (.iload_n 1, 1) := by decide +kernel
theorem dX14_make_7 : decode cX14_make 7 = .ok (.bipush 102, 2) := by decide +kernel
theorem dX14_make_9 : decode cX14_make 9 = .ok (.if_icmp .eq 9, 3) := by decide +kernel
theorem dX14_make_12 : decode cX14_make 12 = .ok (.iload_n 1, 1) := by decide +kernel
theorem dX14_make_13 : decode cX14_make 13 = .ok (.bipush 104, 2) := by decide +kernel
theorem dX14_make_15 : decode cX14_make 15 = .ok (.if_icmp .ne 36, 3) := by decide +kernel
theorem dX14_make_18 : decode cX14_make 18 = .ok (.iload_n 2, 1) := by decide +kernel
theorem dX14_make_19 : decode cX14_make 19 = .ok (.iconst 0, 1) := by decide +kernel
theorem dX14_make_20 : decode cX14_make 20 = .ok (.iconst 4, 1) := by decide +kernel
theorem dX14_make_21 : decode cX14_make 21 = .ok (.invokestatic 68, 3) := by decide +kernel
theorem dX14_make_24 : decode cX14_make 24 = .ok (.ifCond .eq 27, 3) := by decide +kernel
theorem dX14_make_27 : decode cX14_make 27 = .ok (.iload_n 3, 1) := by decide +kernel
theorem dX14_make_28 : decode cX14_make 28 = .ok (.iconst 1, 1) := by decide +kernel
theorem dX14_make_29 : decode cX14_make 29 = .ok (.iconst 5, 1) := by decide +kernel
theorem dX14_make_30 : decode cX14_make 30 = .ok (.invokestatic 68, 3) := by decide +kernel
theorem dX14_make_33 : decode cX14_make 33 = .ok (.ifCond .eq 18, 3) := by decide +kernel
theorem dX14_make_36 : decode cX14_make 36 = .ok (.iload 5, 2) := by decide +kernel
theorem dX14_make_38 : decode cX14_make 38 = .ok (.iconst 0, 1) := by decide +kernel
theorem dX14_make_39 : decode cX14_make 39 = .ok (.bipush 99, 2) := by decide +kernel
theorem dX14_make_41 : decode cX14_make 41 = .ok (.invokestatic 68, 3) := by decide +kernel
theorem dX14_make_44 : decode cX14_make 44 = .ok (.ifCond .eq 7, 3) := by decide +kernel
theorem dX14_make_47 : decode cX14_make 47 = .ok (.iconst 1, 1) := by decide +kernel
theorem dX14_make_48 : decode cX14_make 48 = .ok (.goto 4, 3) := by decide +kernel
theorem dX14_make_51 : decode cX14_make 51 = .ok (.iconst 0, 1) := by decide +kernel
theorem dX14_make_52 : decode cX14_make 52 = .ok (.istore 6, 2) := by decide +kernel
theorem dX14_make_54 : decode cX14_make 54 = .ok (.aload_n 0, 1) := by decide +kernel
theorem dX14_make_55 : decode cX14_make 55 = .ok (.iload 6, 2) := by decide +kernel
theorem dX14_make_57 : decode cX14_make 57 = .ok (.ifCond .eq 13, 3) := by decide +kernel
theorem dX14_make_60 : decode cX14_make 60 = .ok (.iload_n 1, 1) := by decide +kernel
theorem dX14_make_61 : decode cX14_make 61 = .ok (.bipush 108, 2) := by decide +kernel
theorem dX14_make_63 : decode cX14_make 63 = .ok (.if_icmp .ne 11, 3) := by decide +kernel
theorem dX14_make_66 : decode cX14_make 66 = .ok (.iload_n 2, 1) := by decide +kernel
theorem dX14_make_67 : decode cX14_make 67 = .ok (.ifCond .le 7, 3) := by decide +kernel
theorem dX14_make_70 : decode cX14_make 70 = .ok (.iconst 1, 1) := by decide +kernel
theorem dX14_make_71 : decode cX14_make 71 = .ok (.goto 20, 3) := by decide +kernel
theorem dX14_make_74 : decode cX14_make 74 = .ok (.aload_n 0, 1) := by decide +kernel
theorem dX14_make_75 : decode cX14_make 75 = .ok (.getfield 10, 3) := by decide +kernel
theorem dX14_make_78 : decode cX14_make 78 = .ok (.invokevirtual 64, 3) := by decide +kernel
theorem dX14_make_81 : decode cX14_make 81 = .ok (.bipush 16, 2) := by decide +kernel
theorem dX14_make_83 : decode cX14_make 83 = .ok (.if_icmp .ne 7, 3) := by decide +kernel
theorem dX14_make_86 : decode cX14_make 86 = .ok (.iconst 2, 1) := by decide +kernel
theorem dX14_make_87 : decode cX14_make 87 = .ok (.goto 4, 3) := by decide +kernel
theorem dX14_make_90 : decode cX14_make 90 = .ok (.iconst 0, 1) := by decide +kernel
theorem dX14_make_91 : decode cX14_make 91 = .ok (.putfield 61, 3) := by decide +kernel
theorem dX14_make_94 : decode cX14_make 94 = .ok (.aload_n 0, 1) := by decide +kernel
theorem dX14_make_95 : decode cX14_make 95 = .ok (.getfield 61, 3) := by decide +kernel
theorem dX14_make_98 : decode cX14_make 98 = .ok (.ifCond .le 5, 3) := by decide +kernel
theorem dX14_make_101 : decode cX14_make 101 = .ok (.iconst 0, 1) := by decide +kernel
theorem dX14_make_102 : decode cX14_make 102 = .ok (.ireturn, 1) := by decide +kernel
theorem dX14_make_103 : decode cX14_make 103 = .ok (.aload_n 0, 1) := by decide +kernel
theorem dX14_make_104 : decode cX14_make 104 = .ok (.getfield 10, 3) := by decide +kernel
theorem dX14_make_107 : decode cX14_make 107 = .ok (.new 48, 3) := by decide +kernel
theorem dX14_make_110 : decode cX14_make 110 = .ok (.dup, 1) := by decide +kernel
theorem dX14_make_111 : decode cX14_make 111 = .ok (.iload_n 1, 1) := by decide +kernel
theorem dX14_make_112 : decode cX14_make 112 = .ok (.iload_n 2, 1) := by decide +kernel
theorem dX14_make_113 : decode cX14_make 113 = .ok (.iload_n 3, 1) := by decide +kernel
theorem dX14_make_114 : decode cX14_make 114 = .ok (.iload 4, 2) := by decide +kernel
theorem dX14_make_116 : decode cX14_make 116 = .ok (.iload 5, 2) := by decide +kernel
theorem dX14_make_118 : decode cX14_make 118 = .ok (.invokespecial 50, 3) := by decide +kernel
theorem dX14_make_121 : decode cX14_make 121 = .ok (.invokevirtual 57, 3) := by decide +kernel
theorem dX14_make_124 : decode cX14_make 124 = .ok (.pop, 1) := by decide +kernel
theorem dX14_make_125 : decode cX14_make 125 = .ok (.aload_n 0, 1) := by decide +kernel
theorem dX14_make_126 : decode cX14_make 126 = .ok (.getfield 10, 3) := by decide +kernel
theorem dX14_make_129 : decode cX14_make 129 = .ok (.invokevirtual 64, 3) := by decide +kernel
theorem dX14_make_132 : decode cX14_make 132 = .ok (.iconst 1, 1) := by decide +kernel
theorem dX14_make_133 : decode cX14_make 133 = .ok (.isub, 1) := by decide +kernel
theorem dX14_make_134 : decode cX14_make 134 = .ok (.ireturn, 1) := by decide +kernel
set_option maxRecDepth 20000 in
theorem ggX14_endpoint_X14_noDevice : GoodIn wsX14_endpoint wsX14_noDevice := goodIn_r _ [11, 3, 12, 13, 14, 10, 15, 1, 16, 17, 18, 19, 20, 21, 22, 23, 24, 72, 73, 74, 75, 76, 77, 78, 79, 80, 81, 82, 83, 84, 85, 86, 87, 88, 89, 90, 112, 113, 114] (by decide +kernel) (by decide +kernel)
set_option maxRecDepth 20000 in
theorem gX14_endpoint_X14_noDevice : GoodIn wsX14_endpoint (wsV RX14 90 RX14 yX14_noDevice wsX14_noDevice) := goodIn_app (goodIn_of _ (by decide +kernel)) ggX14_endpoint_X14_noDevice
set_option maxRecDepth 20000 in
theorem ggX14_endpoint_Jx4a65c_get_915e3 : GoodIn wsX14_endpoint wsJx4a65c_get_915e3 := goodIn_r _ [28, 21, 29, 30, 31, 32, 33, 34, 35, 36, 37, 38, 39, 19, 40, 41, 112, 113, 114] (by decide +kernel) (by decide +kernel)
set_option maxRecDepth 20000 in
theorem gX14_endpoint_Jx4a65c_get_915e3 : GoodIn wsX14_endpoint (wsV RX14 76 RJx4a65c yJx4a65c_get_915e3 wsJx4a65c_get_915e3) := goodIn_app (goodIn_of _ (by decide +kernel)) ggX14_endpoint_Jx4a65c_get_915e3
set_option maxRecDepth 20000 in
theorem ggX14_endpoint_X14_in : GoodIn wsX14_endpoint wsX14_in := goodIn_r _ [24] (by decide +kernel) (by decide +kernel)
set_option maxRecDepth 20000 in
theorem gX14_endpoint_X14_in : GoodIn wsX14_endpoint (va_wsS RX14 68 yX14_in wsX14_in) := goodIn_app (goodIn_of _ (by decide +kernel)) ggX14_endpoint_X14_in
set_option maxRecDepth 20000 in
theorem ggX14_endpoint_X14_isPlugged : GoodIn wsX14_endpoint wsX14_isPlugged := goodIn_r _ [45, 1, 2, 25, 26, 27, 19, 28, 21, 29, 30, 31, 32, 33, 34, 35, 36, 37, 38, 39, 40, 41, 72, 73, 74, 75, 76, 77, 78, 79, 80, 81, 82, 83, 84, 85, 86, 87, 88, 89, 90, 91, 92, 93, 94, 95, 96, 97, 98, 99, 100, 101, 102, 103, 104, 105, 106, 112, 113, 114] (by decide +kernel) (by decide +kernel)
set_option maxRecDepth 20000 in
theorem gX14_endpoint_X14_isPlugged : GoodIn wsX14_endpoint (wsV RX14 93 RX14 yX14_isPlugged wsX14_isPlugged) := goodIn_app (goodIn_of _ (by decide +kernel)) ggX14_endpoint_X14_isPlugged
set_option maxRecDepth 20000 in
theorem ggX14_endpoint_X11_init : GoodIn wsX14_endpoint wsX11_init := goodIn_r _ [48, 49, 50, 51, 52, 53, 19, 54, 55, 56, 57, 58, 59, 60, 61, 41, 62, 63, 64, 65, 66, 67, 68, 69, 70, 71, 112, 113, 114, 107, 108, 109, 110, 111] (by decide +kernel) (by decide +kernel)
set_option maxRecDepth 20000 in
theorem gX14_endpoint_X11_init : GoodIn wsX14_endpoint (wsX11_init) := ggX14_endpoint_X11_init
theorem dX14_endpoint_0 : decode cX14_endpoint 0 = .ok (.aload_n 0, 1) := by decide +kernel
theorem dX14_endpoint_1 : decode cX14_endpoint 1 = .ok (.iload_n 1, 1) := by decide +kernel
theorem dX14_endpoint_2 : decode cX14_endpoint 2 = .ok (.invokevirtual 90, 3) := by decide +kernel
theorem dX14_endpoint_5 : decode cX14_endpoint 5 = .ok (.ifCond .eq 5, 3) := by decide +kernel
theorem dX14_endpoint_8 : decode cX14_endpoint 8 = .ok (.iconst 0, 1) := by decide +kernel
theorem dX14_endpoint_9 : decode cX14_endpoint 9 = .ok (.ireturn, 1) := by decide +kernel
theorem dX14_endpoint_10 : decode cX14_endpoint 10 = .ok (.aload_n 0, 1) := by decide +kernel
theorem dX14_endpoint_11 : decode cX14_endpoint 11 = .ok (.getfield 10, 3) := by decide +kernel
theorem dX14_endpoint_14 : decode cX14_endpoint 14 = .ok (.iload_n 1, 1) := by decide +kernel
theorem dX14_endpoint_15 : decode cX14_endpoint 15 = .ok (.invokevirtual 76, 3) := by decide +kernel
theorem dX14_endpoint_18 : decode cX14_endpoint 18 = .ok (.checkcast 48, 3) := by decide +kernel
theorem dX14_endpoint_21 : decode cX14_endpoint 21 = .ok (.astore 5, 2) := by decide +kernel
theorem dX14_endpoint_23 : decode cX14_endpoint 23 = .ok (.aload_n 0, 1) := by decide +kernel
theorem dX14_endpoint_24 : decode cX14_endpoint 24 = .ok (.iload_n 2, 1) := by decide +kernel
theorem dX14_endpoint_25 : decode cX14_endpoint 25 = .ok (.iconst 1, 1) := by decide +kernel
theorem dX14_endpoint_26 : decode cX14_endpoint 26 = .ok (.iconst 3, 1) := by decide +kernel
theorem dX14_endpoint_27 : decode cX14_endpoint 27 = .ok (.invokestatic 68, 3) := by decide +kernel
theorem dX14_endpoint_30 : decode cX14_endpoint 30 = .ok (.ifCond .eq 14, 3) := by decide +kernel
theorem dX14_endpoint_33 : decode cX14_endpoint 33 = .ok (.iload 4, 2) := by decide +kernel
theorem dX14_endpoint_35 : decode cX14_endpoint 35 = .ok (.iconst 1, 1) := by decide +kernel
theorem dX14_endpoint_36 : decode cX14_endpoint 36 = .ok (.bipush 8, 2) := by decide +kernel
theorem dX14_endpoint_38 : decode cX14_endpoint 38 = .ok (.invokestatic 68, 3) := by decide +kernel
theorem dX14_endpoint_41 : decode cX14_endpoint 41 = .ok (.ifCond .ne 7, 3) := by decide +kernel
theorem dX14_endpoint_44 : decode cX14_endpoint 44 = .ok (.iconst 2, 1) := by decide +kernel
theorem dX14_endpoint_45 : decode cX14_endpoint 45 = .ok (.goto 26, 3) := by decide +kernel
theorem dX14_endpoint_48 : decode cX14_endpoint 48 = .ok (.aload_n 0, 1) := by decide +kernel
theorem dX14_endpoint_49 : decode cX14_endpoint 49 = .ok (.iload_n 1, 1) := by decide +kernel
theorem dX14_endpoint_50 : decode cX14_endpoint 50 = .ok (.invokevirtual 93, 3) := by decide +kernel
theorem dX14_endpoint_53 : decode cX14_endpoint 53 = .ok (.ifCond .ne 13, 3) := by decide +kernel
theorem dX14_endpoint_56 : decode cX14_endpoint 56 = .ok (.aload 5, 2) := by decide +kernel
theorem dX14_endpoint_58 : decode cX14_endpoint 58 = .ok (.getfield 96, 3) := by decide +kernel
theorem dX14_endpoint_61 : decode cX14_endpoint 61 = .ok (.iload_n 2, 1) := by decide +kernel
theorem dX14_endpoint_62 : decode cX14_endpoint 62 = .ok (.aaload, 1) := by decide +kernel
theorem dX14_endpoint_63 : decode cX14_endpoint 63 = .ok (.ifnull 7, 3) := by decide +kernel
theorem dX14_endpoint_66 : decode cX14_endpoint 66 = .ok (.iconst 3, 1) := by decide +kernel
theorem dX14_endpoint_67 : decode cX14_endpoint 67 = .ok (.goto 4, 3) := by decide +kernel
theorem dX14_endpoint_70 : decode cX14_endpoint 70 = .ok (.iconst 0, 1) := by decide +kernel
theorem dX14_endpoint_71 : decode cX14_endpoint 71 = .ok (.putfield 61, 3) := by decide +kernel
theorem dX14_endpoint_74 : decode cX14_endpoint 74 = .ok (.aload_n 0, 1) := by decide +kernel
theorem dX14_endpoint_75 : decode cX14_endpoint 75 = .ok (.getfield 61, 3) := by decide +kernel
theorem dX14_endpoint_78 : decode cX14_endpoint 78 = .ok (.ifCond .le 5, 3) := by decide +kernel
theorem dX14_endpoint_81 : decode cX14_endpoint 81 = .ok (.iconst 0, 1) := by decide +kernel
theorem dX14_endpoint_82 : decode cX14_endpoint 82 = .ok (.ireturn, 1) := by decide +kernel
theorem dX14_endpoint_83 : decode cX14_endpoint 83 = .ok (.aload 5, 2) := by decide +kernel
theorem dX14_endpoint_85 : decode cX14_endpoint 85 = .ok (.getfield 96, 3) := by decide +kernel
theorem dX14_endpoint_88 : decode cX14_endpoint 88 = .ok (.iload_n 2, 1) := by decide +kernel
theorem dX14_endpoint_89 : decode cX14_endpoint 89 = .ok (.new 100, 3) := by decide +kernel
theorem dX14_endpoint_92 : decode cX14_endpoint 92 = .ok (.dup, 1) := by decide +kernel
theorem dX14_endpoint_93 : decode cX14_endpoint 93 = .ok (.iload_n 3, 1) := by decide +kernel
theorem dX14_endpoint_94 : decode cX14_endpoint 94 = .ok (.iload 4, 2) := by decide +kernel
theorem dX14_endpoint_96 : decode cX14_endpoint 96 = .ok (.invokespecial 102, 3) := by decide +kernel
theorem dX14_endpoint_99 : decode cX14_endpoint 99 = .ok (.aastore, 1) := by decide +kernel
theorem dX14_endpoint_100 : decode cX14_endpoint 100 = .ok (.iconst 0, 1) := by decide +kernel
theorem dX14_endpoint_101 : decode cX14_endpoint 101 = .ok (.istore 6, 2) := by decide +kernel
theorem dX14_endpoint_103 : decode cX14_endpoint 103 = .ok (.aload 5, 2) := by decide +kernel
theorem dX14_endpoint_105 : decode cX14_endpoint 105 = .ok (.getfield 96, 3) := by decide +kernel
theorem dX14_endpoint_108 : decode cX14_endpoint 108 = .ok (.astore 7, 2) := by decide +kernel
theorem dX14_endpoint_110 : decode cX14_endpoint 110 = .ok (.aload 7, 2) := by decide +kernel
theorem dX14_endpoint_112 : decode cX14_endpoint 112 = .ok (.arraylength, 1) := by decide +kernel
theorem dX14_endpoint_113 : decode cX14_endpoint 113 = .ok (.istore 8, 2) := by decide +kernel
theorem dX14_endpoint_115 : decode cX14_endpoint 115 = .ok (.iconst 0, 1) := by decide +kernel
theorem dX14_endpoint_116 : decode cX14_endpoint 116 = .ok (.istore 9, 2) := by decide +kernel
theorem dX14_endpoint_118 : decode cX14_endpoint 118 = .ok (.iload 9, 2) := by decide +kernel
theorem dX14_endpoint_120 : decode cX14_endpoint 120 = .ok (.iload 8, 2) := by decide +kernel
theorem dX14_endpoint_122 : decode cX14_endpoint 122 = .ok (.if_icmp .ge 31, 3) := by decide +kernel
theorem dX14_endpoint_125 : decode cX14_endpoint 125 = .ok (.aload 7, 2) := by decide +kernel
theorem dX14_endpoint_127 : decode cX14_endpoint 127 = .ok (.iload 9, 2) := by decide +kernel
theorem dX14_endpoint_129 : decode cX14_endpoint 129 = .ok (.aaload, 1) := by decide +kernel
theorem dX14_endpoint_130 : decode cX14_endpoint 130 = .ok (.astore 10, 2) := by decide +kernel
theorem dX14_endpoint_132 : decode cX14_endpoint 132 = .ok (.iload 6, 2) := by decide +kernel
theorem dX14_endpoint_134 : decode cX14_endpoint 134 = .ok (.aload 10, 2) := by decide +kernel
theorem dX14_endpoint_136 : decode cX14_endpoint 136 = .ok (.ifnonnull 7, 3) := by decide +kernel
theorem dX14_endpoint_139 : decode cX14_endpoint 139 = .ok (.iconst 0, 1) := by decide +kernel
theorem dX14_endpoint_140 : decode cX14_endpoint 140 = .ok (.goto 4, 3) := by decide +kernel
theorem dX14_endpoint_143 : decode cX14_endpoint 143 = .ok (.iconst 1, 1) := by decide +kernel
theorem dX14_endpoint_144 : decode cX14_endpoint 144 = .ok (.iadd, 1) := by decide +kernel
theorem dX14_endpoint_145 : decode cX14_endpoint 145 = .ok (.istore 6, 2) := by decide +kernel
theorem dX14_endpoint_147 : decode cX14_endpoint 147 = .ok (.iinc 9 1, 3) := by decide +kernel
theorem dX14_endpoint_150 : decode cX14_endpoint 150 = .ok (.goto (-32), 3) := by decide +kernel
theorem dX14_endpoint_153 : decode cX14_endpoint 153 = .ok (.iload 6, 2) := by decide +kernel
theorem dX14_endpoint_155 : decode cX14_endpoint 155 = .ok (.ireturn, 1) := by decide +kernel
set_option maxRecDepth 20000 in
theorem ggX14_plug_X14_isDevice : GoodIn wsX14_plug wsX14_isDevice := goodIn_r _ [8, 1, 9, 10, 11, 12, 13, 14, 15, 16, 7, 17, 75, 76, 77, 78, 79, 80, 81, 82, 83, 84, 85, 86, 87, 88, 89, 90, 91, 92, 93, 110, 111, 112] (by decide +kernel) (by decide +kernel)
set_option maxRecDepth 20000 in
theorem gX14_plug_X14_isDevice : GoodIn wsX14_plug (wsV RX14 72 RX14 yX14_isDevice wsX14_isDevice) := goodIn_app (goodIn_of _ (by decide +kernel)) ggX14_plug_X14_isDevice
set_option maxRecDepth 20000 in
theorem ggX14_plug_Jx4a65c_get_915e3 : GoodIn wsX14_plug wsJx4a65c_get_915e3 := goodIn_r _ [21, 14, 22, 23, 24, 25, 26, 27, 28, 29, 30, 31, 32, 12, 33, 34, 110, 111, 112] (by decide +kernel) (by decide +kernel)
set_option maxRecDepth 20000 in
theorem gX14_plug_Jx4a65c_get_915e3 : GoodIn wsX14_plug (wsV RX14 76 RJx4a65c yJx4a65c_get_915e3 wsJx4a65c_get_915e3) := goodIn_app (goodIn_of _ (by decide +kernel)) ggX14_plug_Jx4a65c_get_915e3
set_option maxRecDepth 20000 in
theorem ggX14_plug_X14_in : GoodIn wsX14_plug wsX14_in := goodIn_r _ [17] (by decide +kernel) (by decide +kernel)
set_option maxRecDepth 20000 in
theorem gX14_plug_X14_in : GoodIn wsX14_plug (va_wsS RX14 68 yX14_in wsX14_in) := goodIn_app (goodIn_of _ (by decide +kernel)) ggX14_plug_X14_in
set_option maxRecDepth 20000 in
theorem ggX14_plug_Jx4a65c_iterator_32c93 : GoodIn wsX14_plug wsJx4a65c_iterator_32c93 := goodIn_r _ [38, 39, 40, 41, 42, 43, 44, 45, 46, 47, 48, 49, 50, 51, 52, 113, 114, 115, 116, 110, 111, 112] (by decide +kernel) (by decide +kernel)
set_option maxRecDepth 20000 in
theorem gX14_plug_Jx4a65c_iterator_32c93 : GoodIn wsX14_plug (wsV RX14 108 RJx4a65c yJx4a65c_iterator_32c93 wsJx4a65c_iterator_32c93) := goodIn_app (goodIn_of _ (by decide +kernel)) ggX14_plug_Jx4a65c_iterator_32c93
set_option maxRecDepth 20000 in
theorem ggX14_plug_Jx35411_hasNext_aae02 : GoodIn wsX14_plug wsJx35411_hasNext_aae02 := goodIn_r _ [56, 57, 45, 113, 114, 115, 116, 110, 111, 112] (by decide +kernel) (by decide +kernel)
set_option maxRecDepth 20000 in
theorem gX14_plug_Jx35411_hasNext_aae02_f112Jx35411 : GoodIn wsX14_plug (va_wsF RX14 112 RJx35411 ⟨"java/util/Iterator", "hasNext", "()Z"⟩ yJx35411_hasNext_aae02 wsJx35411_hasNext_aae02) := goodIn_app (goodIn_of _ (by decide +kernel)) ggX14_plug_Jx35411_hasNext_aae02
set_option maxRecDepth 20000 in
theorem ggX14_plug_Jx35411_next_0502b : GoodIn wsX14_plug wsJx35411_next_0502b := goodIn_r _ [61, 57, 45, 62, 49, 63, 64, 65, 41, 66, 50, 51, 52, 113, 114, 115, 116, 110, 111, 112] (by decide +kernel) (by decide +kernel)
set_option maxRecDepth 20000 in
theorem gX14_plug_Jx35411_next_0502b_f118Jx35411 : GoodIn wsX14_plug (va_wsF RX14 118 RJx35411 ⟨"java/util/Iterator", "next", "()Ljava/lang/Object;"⟩ yJx35411_next_0502b wsJx35411_next_0502b) := goodIn_app (goodIn_of _ (by decide +kernel)) ggX14_plug_Jx35411_next_0502b
set_option maxRecDepth 20000 in
theorem ggX14_plug_X14_isPlugged : GoodIn wsX14_plug wsX14_isPlugged := goodIn_r _ [70, 1, 2, 18, 19, 20, 12, 21, 14, 22, 23, 24, 25, 26, 27, 28, 29, 30, 31, 32, 33, 34, 75, 76, 77, 78, 79, 80, 81, 82, 83, 84, 85, 86, 87, 88, 89, 90, 91, 92, 93, 94, 95, 96, 97, 98, 99, 100, 101, 102, 103, 104, 105, 106, 107, 108, 109, 110, 111, 112] (by decide +kernel) (by decide +kernel)
set_option maxRecDepth 20000 in
theorem gX14_plug_X14_isPlugged : GoodIn wsX14_plug (wsV RX14 93 RX14 yX14_isPlugged wsX14_isPlugged) := goodIn_app (goodIn_of _ (by decide +kernel)) ggX14_plug_X14_isPlugged
set_option maxRecDepth 20000 in
theorem ggX14_plug_X14_depth : GoodIn wsX14_plug wsX14_depth := goodIn_r _ [74, 1, 2, 18, 19, 20, 12, 21, 14, 22, 23, 24, 25, 26, 27, 28, 29, 30, 31, 32, 33, 34, 75, 76, 77, 78, 79, 80, 81, 82, 83, 84, 85, 86, 87, 88, 89, 90, 91, 92, 93, 94, 95, 96, 97, 98, 99, 100, 101, 102, 103, 104, 105, 106, 107, 108, 109, 110, 111, 112] (by decide +kernel) (by decide +kernel)
set_option maxRecDepth 20000 in
theorem gX14_plug_X14_depth : GoodIn wsX14_plug (wsV RX14 125 RX14 yX14_depth wsX14_depth) := goodIn_app (goodIn_of _ (by decide +kernel)) ggX14_plug_X14_depth
theorem dX14_plug_0 : decode cX14_plug 0 = .ok (.aload_n 0, 1) := by decide +kernel
theorem dX14_plug_1 : decode cX14_plug 1 = .ok (.aload_n 0, 1) := by decide +kernel
theorem dX14_plug_2 : decode cX14_plug 2 = .ok (.iload_n 1, 1) := by decide +kernel
theorem dX14_plug_3 : decode cX14_plug 3 = .ok (.invokevirtual 72, 3) := by decide +kernel
theorem dX14_plug_6 : decode cX14_plug 6 = .ok (.ifCond .eq 35, 3) := by decide +kernel
theorem dX14_plug_9 : decode cX14_plug 9 = .ok (.aload_n 0, 1) := by decide +kernel
theorem dX14_plug_10 : decode cX14_plug 10 = .ok (.iload_n 2, 1) := by decide +kernel
theorem dX14_plug_11 : decode cX14_plug 11 = .ok (.invokevirtual 72, 3) := by decide +kernel
theorem dX14_plug_14 : decode cX14_plug 14 = .ok (.ifCond .eq 27, 3) := by decide +kernel
theorem dX14_plug_17 : decode cX14_plug 17 = .ok (.iload_n 3, 1) := by decide +kernel
theorem dX14_plug_18 : decode cX14_plug 18 = .ok (.iconst 0, 1) := by decide +kernel
theorem dX14_plug_19 : decode cX14_plug 19 = .ok (.aload_n 0, 1) := by decide +kernel
