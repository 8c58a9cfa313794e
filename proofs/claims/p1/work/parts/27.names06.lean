theorem dX14_isEnd_17 : decode cX14_isEnd 17 = .ok (.aload_n 0, 1) := by decide +kernel
theorem dX14_isEnd_18 : decode cX14_isEnd 18 = .ok (.getfield 10, 3) := by decide +kernel
theorem dX14_isEnd_21 : decode cX14_isEnd 21 = .ok (.iload_n 1, 1) := by decide +kernel
theorem dX14_isEnd_22 : decode cX14_isEnd 22 = .ok (.invokevirtual 76, 3) := by decide +kernel
theorem dX14_isEnd_25 : decode cX14_isEnd 25 = .ok (.checkcast 48, 3) := by decide +kernel
theorem dX14_isEnd_28 : decode cX14_isEnd 28 = .ok (.getfield 96, 3) := by decide +kernel
theorem dX14_isEnd_31 : decode cX14_isEnd 31 = .ok (.iload_n 2, 1) := by decide +kernel
theorem dX14_isEnd_32 : decode cX14_isEnd 32 = .ok (.aaload, 1) := by decide +kernel
theorem dX14_isEnd_33 : decode cX14_isEnd 33 = .ok (.ifnull 7, 3) := by decide +kernel
theorem dX14_isEnd_40 : decode cX14_isEnd 40 = .ok (.iconst 0, 1) := by decide +kernel
theorem dX14_isEnd_41 : decode cX14_isEnd 41 = .ok (.ireturn, 1) := by decide +kernel
set_option maxRecDepth 20000 in
theorem ggX14_open_X14_isEnd : GoodIn wsX14_open wsX14_isEnd := goodIn_r _ [12, 1, 2, 13, 14, 15, 11, 16, 17, 18, 19, 20, 21, 22, 23, 24, 25, 26, 27, 28, 29, 30, 31, 32, 33, 34, 35, 36, 37, 38, 39, 40, 41, 42, 103, 104, 105, 106, 107, 108, 109, 110, 111, 112, 113, 114, 115, 116, 117, 118, 119, 120, 121, 122, 123, 124, 125, 126, 127, 128, 129, 130, 131, 132, 133, 134, 135, 136, 137, 153, 154, 155] (by decide +kernel) (by decide +kernel)
set_option maxRecDepth 20000 in
theorem gX14_open_X14_isEnd : GoodIn wsX14_open (wsV RX14 256 RX14 yX14_isEnd wsX14_isEnd) := goodIn_app (goodIn_of _ (by decide +kernel)) ggX14_open_X14_isEnd
theorem dX14_open_0 : decode cX14_open 0 = .ok (.iload 4, 2) := by decide +kernel
theorem dX14_open_2 : decode cX14_open 2 = .ok (.iconst 1, 1) := by decide +kernel
theorem dX14_open_3 : decode cX14_open 3 = .ok (.if_icmp .eq 22, 3) := by decide +kernel
theorem dX14_open_6 : decode cX14_open 6 = .ok (.iload 4, 2) := by decide +kernel
theorem dX14_open_8 : decode cX14_open 8 = .ok (.iconst 2, 1) := by decide +kernel
theorem dX14_open_9 : decode cX14_open 9 = .ok (.if_icmp .eq 16, 3) := by decide +kernel
theorem dX14_open_12 : decode cX14_open 12 = .ok (.iload 4, 2) := by decide +kernel
theorem dX14_open_14 : decode cX14_open 14 = .ok (.iconst 4, 1) := by decide +kernel
theorem dX14_open_15 : decode cX14_open 15 = .ok (.if_icmp .eq 10, 3) := by decide +kernel
theorem dX14_open_18 : decode cX14_open 18 = .ok (.iload 4, 2) := by decide +kernel
theorem dX14_open_20 : decode cX14_open 20 = .ok (.bipush 8, 2) := by decide +kernel
theorem dX14_open_22 : decode cX14_open 22 = .ok (.if_icmp .ne 7, 3) := by decide +kernel
theorem dX14_open_25 : decode cX14_open 25 = .ok (.iconst 1, 1) := by decide +kernel
theorem dX14_open_26 : decode cX14_open 26 = .ok (.goto 4, 3) := by decide +kernel
theorem dX14_open_29 : decode cX14_open 29 = .ok (.iconst 0, 1) := by decide +kernel
theorem dX14_open_30 : decode cX14_open 30 = .ok (.istore 5, 2) := by decide +kernel
theorem dX14_open_32 : decode cX14_open 32 = .ok (.iload_n 3, 1) := by decide +kernel
theorem dX14_open_33 : decode cX14_open 33 = .ok (.bipush 98, 2) := by decide +kernel
theorem dX14_open_35 : decode cX14_open 35 = .ok (.if_icmp .eq 20, 3) := by decide +kernel
theorem dX14_open_38 : decode cX14_open 38 = .ok (.iload_n 3, 1) := by decide +kernel
theorem dX14_open_39 : decode cX14_open 39 = .ok (.bipush 105, 2) := by decide +kernel
theorem dX14_open_41 : decode cX14_open 41 = .ok (.if_icmp .eq 9, 3) := by decide +kernel
theorem dX14_open_44 : decode cX14_open 44 = .ok (.iload_n 3, 1) := by decide +kernel
theorem dX14_open_45 : decode cX14_open 45 = .ok (.bipush 115, 2) := by decide +kernel
theorem dX14_open_47 : decode cX14_open 47 = .ok (.if_icmp .ne 12, 3) := by decide +kernel
theorem dX14_open_50 : decode cX14_open 50 = .ok (.iload 5, 2) := by decide +kernel
theorem dX14_open_52 : decode cX14_open 52 = .ok (.ifCond .eq 7, 3) := by decide +kernel
theorem dX14_open_55 : decode cX14_open 55 = .ok (.iconst 1, 1) := by decide +kernel
theorem dX14_open_56 : decode cX14_open 56 = .ok (.goto 4, 3) := by decide +kernel
theorem dX14_open_59 : decode cX14_open 59 = .ok (.iconst 0, 1) := by decide +kernel
theorem dX14_open_60 : decode cX14_open 60 = .ok (.istore 6, 2) := by decide +kernel
theorem dX14_open_62 : decode cX14_open 62 = .ok (.aload_n 0, 1) := by decide +kernel
theorem dX14_open_63 : decode cX14_open 63 = .ok (.aload_n 0, 1) := by decide +kernel
theorem dX14_open_64 : decode cX14_open 64 = .ok (.iload_n 1, 1) := by decide +kernel
theorem dX14_open_65 : decode cX14_open 65 = .ok (.iload_n 2, 1) := by decide +kernel
theorem dX14_open_66 : decode cX14_open 66 = .ok (.invokevirtual 256, 3) := by decide +kernel
theorem dX14_open_69 : decode cX14_open 69 = .ok (.ifCond .ne 7, 3) := by decide +kernel
theorem dX14_open_72 : decode cX14_open 72 = .ok (.iconst 1, 1) := by decide +kernel
theorem dX14_open_73 : decode cX14_open 73 = .ok (.goto 36, 3) := by decide +kernel
theorem dX14_open_109 : decode cX14_open 109 = .ok (.putfield 61, 3) := by decide +kernel
theorem dX14_open_112 : decode cX14_open 112 = .ok (.iconst (-1), 1) := by decide +kernel
theorem dX14_open_113 : decode cX14_open 113 = .ok (.istore 7, 2) := by decide +kernel
theorem dX14_open_115 : decode cX14_open 115 = .ok (.bipush 11, 2) := by decide +kernel
theorem dX14_open_117 : decode cX14_open 117 = .ok (.istore 8, 2) := by decide +kernel
theorem dX14_open_119 : decode cX14_open 119 = .ok (.iload 8, 2) := by decide +kernel
theorem dX14_open_121 : decode cX14_open 121 = .ok (.ifCond .lt 82, 3) := by decide +kernel
theorem dX14_open_124 : decode cX14_open 124 = .ok (.aload_n 0, 1) := by decide +kernel
theorem dX14_open_125 : decode cX14_open 125 = .ok (.getfield 61, 3) := by decide +kernel
theorem dX14_open_128 : decode cX14_open 128 = .ok (.ifCond .ne 75, 3) := by decide +kernel
theorem dX14_open_203 : decode cX14_open 203 = .ok (.aload_n 0, 1) := by decide +kernel
theorem dX14_open_204 : decode cX14_open 204 = .ok (.getfield 61, 3) := by decide +kernel
theorem dX14_open_207 : decode cX14_open 207 = .ok (.ifCond .le 5, 3) := by decide +kernel
theorem dX14_open_210 : decode cX14_open 210 = .ok (.iconst 0, 1) := by decide +kernel
theorem dX14_open_211 : decode cX14_open 211 = .ok (.ireturn, 1) := by decide +kernel
set_option maxRecDepth 20000 in
theorem ggX14_noPipe_X14_in : GoodIn wsX14_noPipe wsX14_in := goodIn_r _ [6] (by decide +kernel) (by decide +kernel)
set_option maxRecDepth 20000 in
theorem gX14_noPipe_X14_in : GoodIn wsX14_noPipe (va_wsS RX14 68 yX14_in wsX14_in) := goodIn_app (goodIn_of _ (by decide +kernel)) ggX14_noPipe_X14_in
theorem dX14_noPipe_0 : decode cX14_noPipe 0 = .ok (.aload_n 0, 1) := by decide +kernel
theorem dX14_noPipe_1 : decode cX14_noPipe 1 = .ok (.iload_n 1, 1) := by decide +kernel
theorem dX14_noPipe_2 : decode cX14_noPipe 2 = .ok (.iconst 0, 1) := by decide +kernel
theorem dX14_noPipe_3 : decode cX14_noPipe 3 = .ok (.bipush 11, 2) := by decide +kernel
theorem dX14_noPipe_5 : decode cX14_noPipe 5 = .ok (.invokestatic 68, 3) := by decide +kernel
theorem dX14_noPipe_8 : decode cX14_noPipe 8 = .ok (.ifCond .eq 16, 3) := by decide +kernel
theorem dX14_noPipe_11 : decode cX14_noPipe 11 = .ok (.aload_n 0, 1) := by decide +kernel
theorem dX14_noPipe_12 : decode cX14_noPipe 12 = .ok (.getfield 18, 3) := by decide +kernel
theorem dX14_noPipe_15 : decode cX14_noPipe 15 = .ok (.iload_n 1, 1) := by decide +kernel
theorem dX14_noPipe_16 : decode cX14_noPipe 16 = .ok (.aaload, 1) := by decide +kernel
theorem dX14_noPipe_17 : decode cX14_noPipe 17 = .ok (.ifnull 7, 3) := by decide +kernel
theorem dX14_noPipe_24 : decode cX14_noPipe 24 = .ok (.iconst 1, 1) := by decide +kernel
theorem dX14_noPipe_25 : decode cX14_noPipe 25 = .ok (.putfield 61, 3) := by decide +kernel
theorem dX14_noPipe_28 : decode cX14_noPipe 28 = .ok (.aload_n 0, 1) := by decide +kernel
theorem dX14_noPipe_29 : decode cX14_noPipe 29 = .ok (.getfield 61, 3) := by decide +kernel
theorem dX14_noPipe_32 : decode cX14_noPipe 32 = .ok (.ifCond .le 7, 3) := by decide +kernel
theorem dX14_noPipe_35 : decode cX14_noPipe 35 = .ok (.iconst 1, 1) := by decide +kernel
theorem dX14_noPipe_36 : decode cX14_noPipe 36 = .ok (.goto 4, 3) := by decide +kernel
theorem dX14_noPipe_40 : decode cX14_noPipe 40 = .ok (.ireturn, 1) := by decide +kernel
set_option maxRecDepth 20000 in
theorem ggX14_close_X14_noPipe : GoodIn wsX14_close wsX14_noPipe := goodIn_r _ [5, 6, 7, 8, 9, 4, 10, 102, 103, 104, 105, 106, 107, 108, 109, 110, 111, 112, 113, 114, 115, 116, 117, 118, 119, 120] (by decide +kernel) (by decide +kernel)
set_option maxRecDepth 20000 in
theorem gX14_close_X14_noPipe : GoodIn wsX14_close (wsV RX14 293 RX14 yX14_noPipe wsX14_noPipe) := goodIn_app (goodIn_of _ (by decide +kernel)) ggX14_close_X14_noPipe
theorem dX14_close_0 : decode cX14_close 0 = .ok (.aload_n 0, 1) := by decide +kernel
theorem dX14_close_1 : decode cX14_close 1 = .ok (.iload_n 1, 1) := by decide +kernel
theorem dX14_close_2 : decode cX14_close 2 = .ok (.invokevirtual 293, 3) := by decide +kernel
theorem dX14_close_5 : decode cX14_close 5 = .ok (.ifCond .eq 7, 3) := by decide +kernel
theorem dX14_close_8 : decode cX14_close 8 = .ok (.iconst 0, 1) := by decide +kernel
theorem dX14_close_9 : decode cX14_close 9 = .ok (.goto 10, 3) := by decide +kernel
theorem dX14_close_19 : decode cX14_close 19 = .ok (.ireturn, 1) := by decide +kernel
set_option maxRecDepth 20000 in
theorem ggX14_phaseOf_X14_noPipe : GoodIn wsX14_phaseOf wsX14_noPipe := goodIn_r _ [6, 1, 7, 8, 9, 5, 10, 11, 12, 13, 14, 15, 16, 17, 18, 19, 20, 21, 22, 23, 24, 25, 26, 27, 28, 29] (by decide +kernel) (by decide +kernel)
set_option maxRecDepth 20000 in
theorem gX14_phaseOf_X14_noPipe : GoodIn wsX14_phaseOf (wsV RX14 293 RX14 yX14_noPipe wsX14_noPipe) := goodIn_app (goodIn_of _ (by decide +kernel)) ggX14_phaseOf_X14_noPipe
theorem dX14_phaseOf_0 : decode cX14_phaseOf 0 = .ok (.aload_n 0, 1) := by decide +kernel
theorem dX14_phaseOf_1 : decode cX14_phaseOf 1 = .ok (.iload_n 1, 1) := by decide +kernel
theorem dX14_phaseOf_2 : decode cX14_phaseOf 2 = .ok (.invokevirtual 293, 3) := by decide +kernel
theorem dX14_phaseOf_5 : decode cX14_phaseOf 5 = .ok (.ifCond .eq 7, 3) := by decide +kernel
theorem dX14_phaseOf_8 : decode cX14_phaseOf 8 = .ok (.iconst 0, 1) := by decide +kernel
theorem dX14_phaseOf_9 : decode cX14_phaseOf 9 = .ok (.goto 12, 3) := by decide +kernel
theorem dX14_phaseOf_21 : decode cX14_phaseOf 21 = .ok (.ireturn, 1) := by decide +kernel
set_option maxRecDepth 20000 in
theorem ggX14_reserved_X14_in : GoodIn wsX14_reserved wsX14_in := goodIn_r _ [5] (by decide +kernel) (by decide +kernel)
set_option maxRecDepth 20000 in
theorem gX14_reserved_X14_in : GoodIn wsX14_reserved (va_wsS RX14 68 yX14_in wsX14_in) := goodIn_app (goodIn_of _ (by decide +kernel)) ggX14_reserved_X14_in
set_option maxRecDepth 20000 in
theorem ggX14_reserved_X14_isDevice : GoodIn wsX14_reserved wsX14_isDevice := goodIn_r _ [9, 10, 11, 12, 13, 14, 15, 16, 2, 3, 4, 5, 61, 62, 63, 64, 65, 66, 67, 68, 69, 70, 71, 72, 73, 74, 75, 76, 77, 78, 79, 80, 81, 82] (by decide +kernel) (by decide +kernel)
set_option maxRecDepth 20000 in
theorem gX14_reserved_X14_isDevice : GoodIn wsX14_reserved (wsV RX14 72 RX14 yX14_isDevice wsX14_isDevice) := goodIn_app (goodIn_of _ (by decide +kernel)) ggX14_reserved_X14_isDevice
set_option maxRecDepth 20000 in
theorem ggX14_reserved_X14_reservedIn : GoodIn wsX14_reserved wsX14_reservedIn := goodIn_ca (goodIn_r _ [20, 21, 10, 22, 23, 24, 25, 26, 27, 28, 29, 30, 31, 14, 32, 16, 33, 34, 35, 36, 37, 38, 39, 40, 41, 42, 43, 44, 45, 46, 47, 48, 4, 49, 50, 51, 52, 53, 54, 55, 56, 57, 58, 59, 60, 61, 62, 63, 64, 65, 66, 67, 68, 69, 70, 71, 72, 73, 74, 75, 76, 77, 78, 79, 83, 84, 85, 86, 87, 88, 89, 90, 91, 92, 93, 94, 95, 96, 97, 98, 99, 100, 101, 102, 103, 104, 105, 106, 107, 108, 109, 110, 111, 112, 113, 80, 81, 82] (by decide +kernel) (by decide +kernel)) (goodIn_sub (fun _ h => List.mem_cons_of_mem _ (List.mem_append_right _ h)) (by decide +kernel))
set_option maxRecDepth 20000 in
theorem gX14_reserved_X14_reservedIn : GoodIn wsX14_reserved (wsV RX14 248 RX14 yX14_reservedIn wsX14_reservedIn) := goodIn_app (goodIn_of _ (by decide +kernel)) ggX14_reserved_X14_reservedIn
theorem dX14_reserved_0 : decode cX14_reserved 0 = .ok (.aload_n 0, 1) := by decide +kernel
theorem dX14_reserved_1 : decode cX14_reserved 1 = .ok (.iload_n 1, 1) := by decide +kernel
theorem dX14_reserved_2 : decode cX14_reserved 2 = .ok (.iconst 0, 1) := by decide +kernel
theorem dX14_reserved_3 : decode cX14_reserved 3 = .ok (.bipush 7, 2) := by decide +kernel
theorem dX14_reserved_5 : decode cX14_reserved 5 = .ok (.invokestatic 68, 3) := by decide +kernel
theorem dX14_reserved_8 : decode cX14_reserved 8 = .ok (.ifCond .ne 7, 3) := by decide +kernel
theorem dX14_reserved_11 : decode cX14_reserved 11 = .ok (.iconst 1, 1) := by decide +kernel
theorem dX14_reserved_12 : decode cX14_reserved 12 = .ok (.goto 21, 3) := by decide +kernel
theorem dX14_reserved_15 : decode cX14_reserved 15 = .ok (.iload_n 2, 1) := by decide +kernel
theorem dX14_reserved_16 : decode cX14_reserved 16 = .ok (.iconst (-1), 1) := by decide +kernel
theorem dX14_reserved_17 : decode cX14_reserved 17 = .ok (.if_icmp .eq 15, 3) := by decide +kernel
theorem dX14_reserved_20 : decode cX14_reserved 20 = .ok (.aload_n 0, 1) := by decide +kernel
theorem dX14_reserved_21 : decode cX14_reserved 21 = .ok (.iload_n 2, 1) := by decide +kernel
theorem dX14_reserved_22 : decode cX14_reserved 22 = .ok (.invokevirtual 72, 3) := by decide +kernel
theorem dX14_reserved_25 : decode cX14_reserved 25 = .ok (.ifCond .ne 7, 3) := by decide +kernel
theorem dX14_reserved_28 : decode cX14_reserved 28 = .ok (.iconst 2, 1) := by decide +kernel
theorem dX14_reserved_29 : decode cX14_reserved 29 = .ok (.goto 4, 3) := by decide +kernel
theorem dX14_reserved_32 : decode cX14_reserved 32 = .ok (.iconst 0, 1) := by decide +kernel
theorem dX14_reserved_33 : decode cX14_reserved 33 = .ok (.putfield 61, 3) := by decide +kernel
theorem dX14_reserved_36 : decode cX14_reserved 36 = .ok (.aload_n 0, 1) := by decide +kernel
theorem dX14_reserved_37 : decode cX14_reserved 37 = .ok (.getfield 61, 3) := by decide +kernel
theorem dX14_reserved_40 : decode cX14_reserved 40 = .ok (.ifCond .le 7, 3) := by decide +kernel
theorem dX14_reserved_43 : decode cX14_reserved 43 = .ok (.iconst 0, 1) := by decide +kernel
theorem dX14_reserved_44 : decode cX14_reserved 44 = .ok (.goto 9, 3) := by decide +kernel
theorem dX14_reserved_47 : decode cX14_reserved 47 = .ok (.aload_n 0, 1) := by decide +kernel
theorem dX14_reserved_48 : decode cX14_reserved 48 = .ok (.iload_n 1, 1) := by decide +kernel
theorem dX14_reserved_49 : decode cX14_reserved 49 = .ok (.iload_n 2, 1) := by decide +kernel
theorem dX14_reserved_50 : decode cX14_reserved 50 = .ok (.invokevirtual 248, 3) := by decide +kernel
theorem dX14_reserved_53 : decode cX14_reserved 53 = .ok (.ireturn, 1) := by decide +kernel
set_option maxRecDepth 20000 in
theorem ggX14_send_X14_noPipe : GoodIn wsX14_send wsX14_noPipe := goodIn_r _ [11, 1, 3, 12, 13, 10, 14, 125, 126, 127, 128, 129, 130, 131, 132, 133, 134, 135, 136, 137, 138, 139, 140, 141, 142, 143] (by decide +kernel) (by decide +kernel)
set_option maxRecDepth 20000 in
theorem gX14_send_X14_noPipe : GoodIn wsX14_send (wsV RX14 293 RX14 yX14_noPipe wsX14_noPipe) := goodIn_app (goodIn_of _ (by decide +kernel)) ggX14_send_X14_noPipe
theorem dX14_send_0 : decode cX14_send 0 = .ok (.aload_n 0, 1) := by decide +kernel
theorem dX14_send_1 : decode cX14_send 1 = .ok (.iload_n 1, 1) := by decide +kernel
theorem dX14_send_2 : decode cX14_send 2 = .ok (.invokevirtual 293, 3) := by decide +kernel
theorem dX14_send_5 : decode cX14_send 5 = .ok (.ifCond .eq 5, 3) := by decide +kernel
theorem dX14_send_8 : decode cX14_send 8 = .ok (.iconst 0, 1) := by decide +kernel
theorem dX14_send_9 : decode cX14_send 9 = .ok (.ireturn, 1) := by decide +kernel
set_option maxRecDepth 20000 in
theorem ggX14_ask_X14_noPipe : GoodIn wsX14_ask wsX14_noPipe := goodIn_r _ [11, 1, 2, 12, 13, 10, 14, 105, 106, 107, 108, 109, 110, 111, 112, 113, 114, 115, 116, 117, 118, 119, 120, 121, 122, 123] (by decide +kernel) (by decide +kernel)
set_option maxRecDepth 20000 in
theorem gX14_ask_X14_noPipe : GoodIn wsX14_ask (wsV RX14 293 RX14 yX14_noPipe wsX14_noPipe) := goodIn_app (goodIn_of _ (by decide +kernel)) ggX14_ask_X14_noPipe
theorem dX14_ask_0 : decode cX14_ask 0 = .ok (.aload_n 0, 1) := by decide +kernel
theorem dX14_ask_1 : decode cX14_ask 1 = .ok (.iload_n 1, 1) := by decide +kernel
theorem dX14_ask_2 : decode cX14_ask 2 = .ok (.invokevirtual 293, 3) := by decide +kernel
theorem dX14_ask_5 : decode cX14_ask 5 = .ok (.ifCond .eq 5, 3) := by decide +kernel
theorem dX14_ask_8 : decode cX14_ask 8 = .ok (.iconst 0, 1) := by decide +kernel
theorem dX14_ask_9 : decode cX14_ask 9 = .ok (.ireturn, 1) := by decide +kernel
set_option maxRecDepth 20000 in
theorem ggX14_ring_X14_noPipe : GoodIn wsX14_ring wsX14_noPipe := goodIn_r _ [7, 1, 8, 9, 10, 6, 11, 45, 46, 47, 48, 49, 50, 51, 52, 53, 54, 55, 56, 57, 58, 59, 60, 61, 62, 63] (by decide +kernel) (by decide +kernel)
set_option maxRecDepth 20000 in
theorem gX14_ring_X14_noPipe : GoodIn wsX14_ring (wsV RX14 293 RX14 yX14_noPipe wsX14_noPipe) := goodIn_app (goodIn_of _ (by decide +kernel)) ggX14_ring_X14_noPipe
theorem dX14_ring_0 : decode cX14_ring 0 = .ok (.iconst 0, 1) := by decide +kernel
theorem dX14_ring_1 : decode cX14_ring 1 = .ok (.istore_n 2, 1) := by decide +kernel
theorem dX14_ring_2 : decode cX14_ring 2 = .ok (.aload_n 0, 1) := by decide +kernel
theorem dX14_ring_3 : decode cX14_ring 3 = .ok (.iload_n 1, 1) := by decide +kernel
theorem dX14_ring_4 : decode cX14_ring 4 = .ok (.invokevirtual 293, 3) := by decide +kernel
theorem dX14_ring_7 : decode cX14_ring 7 = .ok (.ifCond .ne 61, 3) := by decide +kernel
theorem dX14_ring_68 : decode cX14_ring 68 = .ok (.iload_n 2, 1) := by decide +kernel
theorem dX14_ring_69 : decode cX14_ring 69 = .ok (.ireturn, 1) := by decide +kernel
set_option maxRecDepth 20000 in
theorem ggX14_isHalted_X14_noPipe : GoodIn wsX14_isHalted wsX14_noPipe := goodIn_r _ [6, 1, 7, 8, 9, 5, 10, 11, 12, 13, 14, 15, 16, 17, 18, 19, 20, 21, 22, 23, 24, 25, 26, 27, 28, 29] (by decide +kernel) (by decide +kernel)
set_option maxRecDepth 20000 in
theorem gX14_isHalted_X14_noPipe : GoodIn wsX14_isHalted (wsV RX14 293 RX14 yX14_noPipe wsX14_noPipe) := goodIn_app (goodIn_of _ (by decide +kernel)) ggX14_isHalted_X14_noPipe
theorem dX14_isHalted_0 : decode cX14_isHalted 0 = .ok (.aload_n 0, 1) := by decide +kernel
theorem dX14_isHalted_1 : decode cX14_isHalted 1 = .ok (.iload_n 1, 1) := by decide +kernel
theorem dX14_isHalted_2 : decode cX14_isHalted 2 = .ok (.invokevirtual 293, 3) := by decide +kernel
theorem dX14_isHalted_5 : decode cX14_isHalted 5 = .ok (.ifCond .ne 19, 3) := by decide +kernel
theorem dX14_isHalted_24 : decode cX14_isHalted 24 = .ok (.iconst 0, 1) := by decide +kernel
theorem dX14_isHalted_25 : decode cX14_isHalted 25 = .ok (.ireturn, 1) := by decide +kernel
set_option maxRecDepth 20000 in
theorem ggX14_clear_X14_noPipe : GoodIn wsX14_clear wsX14_noPipe := goodIn_r _ [6, 1, 7, 8, 9, 5, 10, 40, 41, 42, 43, 44, 45, 46, 47, 48, 49, 50, 51, 52, 53, 54, 55, 56, 57, 58] (by decide +kernel) (by decide +kernel)
set_option maxRecDepth 20000 in
theorem gX14_clear_X14_noPipe : GoodIn wsX14_clear (wsV RX14 293 RX14 yX14_noPipe wsX14_noPipe) := goodIn_app (goodIn_of _ (by decide +kernel)) ggX14_clear_X14_noPipe
theorem dX14_clear_0 : decode cX14_clear 0 = .ok (.aload_n 0, 1) := by decide +kernel
theorem dX14_clear_1 : decode cX14_clear 1 = .ok (.iload_n 1, 1) := by decide +kernel
theorem dX14_clear_2 : decode cX14_clear 2 = .ok (.invokevirtual 293, 3) := by decide +kernel
theorem dX14_clear_5 : decode cX14_clear 5 = .ok (.ifCond .eq 5, 3) := by decide +kernel
theorem dX14_clear_8 : decode cX14_clear 8 = .ok (.iconst 0, 1) := by decide +kernel
theorem dX14_clear_9 : decode cX14_clear 9 = .ok (.ireturn, 1) := by decide +kernel
set_option maxRecDepth 20000 in
theorem ggX14_cancel_X14_noPipe : GoodIn wsX14_cancel wsX14_noPipe := goodIn_r _ [8, 1, 2, 9, 10, 7, 11, 110, 111, 112, 113, 114, 115, 116, 117, 118, 119, 120, 121, 122, 123, 124, 125, 126, 127, 128] (by decide +kernel) (by decide +kernel)
set_option maxRecDepth 20000 in
theorem gX14_cancel_X14_noPipe : GoodIn wsX14_cancel (wsV RX14 293 RX14 yX14_noPipe wsX14_noPipe) := goodIn_app (goodIn_of _ (by decide +kernel)) ggX14_cancel_X14_noPipe
theorem dX14_cancel_0 : decode cX14_cancel 0 = .ok (.aload_n 0, 1) := by decide +kernel
theorem dX14_cancel_1 : decode cX14_cancel 1 = .ok (.iload_n 1, 1) := by decide +kernel
theorem dX14_cancel_2 : decode cX14_cancel 2 = .ok (.invokevirtual 293, 3) := by decide +kernel
theorem dX14_cancel_5 : decode cX14_cancel 5 = .ok (.ifCond .eq 5, 3) := by decide +kernel
theorem dX14_cancel_8 : decode cX14_cancel 8 = .ok (.iconst 0, 1) := by decide +kernel
theorem dX14_cancel_9 : decode cX14_cancel 9 = .ok (.ireturn, 1) := by decide +kernel
set_option maxRecDepth 20000 in
theorem ggX14_load_X14_isEnd : GoodIn wsX14_load wsX14_isEnd := goodIn_r _ [9, 2, 3, 10, 11, 12, 8, 13, 14, 15, 16, 17, 18, 19, 20, 21, 22, 23, 24, 25, 26, 27, 28, 29, 30, 31, 32, 33, 34, 35, 36, 37, 38, 39, 94, 95, 96, 97, 98, 99, 100, 101, 102, 103, 104, 105, 106, 107, 108, 109, 110, 111, 112, 113, 114, 115, 116, 117, 118, 119, 120, 121, 122, 123, 124, 125, 126, 127, 128, 134, 135, 136] (by decide +kernel) (by decide +kernel)
set_option maxRecDepth 20000 in
theorem gX14_load_X14_isEnd : GoodIn wsX14_load (wsV RX14 256 RX14 yX14_isEnd wsX14_isEnd) := goodIn_app (goodIn_of _ (by decide +kernel)) ggX14_load_X14_isEnd
theorem dX14_load_0 : decode cX14_load 0 = .ok (.aload_n 0, 1) := by decide +kernel
theorem dX14_load_1 : decode cX14_load 1 = .ok (.aload_n 0, 1) := by decide +kernel
theorem dX14_load_2 : decode cX14_load 2 = .ok (.iload_n 1, 1) := by decide +kernel
theorem dX14_load_3 : decode cX14_load 3 = .ok (.iload_n 2, 1) := by decide +kernel
theorem dX14_load_4 : decode cX14_load 4 = .ok (.invokevirtual 256, 3) := by decide +kernel
theorem dX14_load_7 : decode cX14_load 7 = .ok (.ifCond .ne 7, 3) := by decide +kernel
theorem dX14_load_10 : decode cX14_load 10 = .ok (.iconst 1, 1) := by decide +kernel
theorem dX14_load_11 : decode cX14_load 11 = .ok (.goto 4, 3) := by decide +kernel
theorem dX14_load_15 : decode cX14_load 15 = .ok (.putfield 61, 3) := by decide +kernel
theorem dX14_load_18 : decode cX14_load 18 = .ok (.aload_n 0, 1) := by decide +kernel
theorem dX14_load_19 : decode cX14_load 19 = .ok (.getfield 61, 3) := by decide +kernel
theorem dX14_load_22 : decode cX14_load 22 = .ok (.ifCond .le 5, 3) := by decide +kernel
theorem dX14_load_25 : decode cX14_load 25 = .ok (.iconst 0, 1) := by decide +kernel
theorem dX14_load_26 : decode cX14_load 26 = .ok (.ireturn, 1) := by decide +kernel
set_option maxRecDepth 20000 in
theorem ggX14_fault_X14_isOther : GoodIn wsX14_fault wsX14_isOther := goodIn_r _ [8, 9, 10, 11, 7, 12, 2, 13, 14, 15, 16, 17, 18, 19, 20, 21, 131, 132, 133, 134, 135, 136, 137, 138, 139, 140, 141, 142, 143, 144, 145, 146, 147, 148, 149, 166, 167, 168] (by decide +kernel) (by decide +kernel)
set_option maxRecDepth 20000 in
theorem gX14_fault_X14_isOther : GoodIn wsX14_fault (wsV RX14 149 RX14 yX14_isOther wsX14_isOther) := goodIn_app (goodIn_of _ (by decide +kernel)) ggX14_fault_X14_isOther
theorem dX14_fault_0 : decode cX14_fault 0 = .ok (.aload_n 0, 1) := by decide +kernel
theorem dX14_fault_1 : decode cX14_fault 1 = .ok (.iload_n 1, 1) := by decide +kernel
theorem dX14_fault_2 : decode cX14_fault 2 = .ok (.invokevirtual 149, 3) := by decide +kernel
theorem dX14_fault_5 : decode cX14_fault 5 = .ok (.ifCond .eq 20, 3) := by decide +kernel
theorem dX14_fault_25 : decode cX14_fault 25 = .ok (.iconst 0, 1) := by decide +kernel
theorem dX14_fault_26 : decode cX14_fault 26 = .ok (.istore 5, 2) := by decide +kernel
theorem dX14_fault_28 : decode cX14_fault 28 = .ok (.aload_n 0, 1) := by decide +kernel
theorem dX14_fault_29 : decode cX14_fault 29 = .ok (.iload 5, 2) := by decide +kernel
theorem dX14_fault_31 : decode cX14_fault 31 = .ok (.ifCond .ne 7, 3) := by decide +kernel
theorem dX14_fault_34 : decode cX14_fault 34 = .ok (.iconst 1, 1) := by decide +kernel
theorem dX14_fault_35 : decode cX14_fault 35 = .ok (.goto 29, 3) := by decide +kernel
theorem dX14_fault_64 : decode cX14_fault 64 = .ok (.putfield 61, 3) := by decide +kernel
theorem dX14_fault_67 : decode cX14_fault 67 = .ok (.aload_n 0, 1) := by decide +kernel
theorem dX14_fault_68 : decode cX14_fault 68 = .ok (.getfield 61, 3) := by decide +kernel
theorem dX14_fault_71 : decode cX14_fault 71 = .ok (.ifCond .le 5, 3) := by decide +kernel
theorem dX14_fault_74 : decode cX14_fault 74 = .ok (.iconst 0, 1) := by decide +kernel
theorem dX14_fault_75 : decode cX14_fault 75 = .ok (.ireturn, 1) := by decide +kernel
