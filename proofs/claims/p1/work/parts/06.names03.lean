theorem dX9_stuffed_82 : decode cX9_stuffed 82 = .ok (.iload_n 1, 1) := by decide +kernel
theorem dX9_stuffed_83 : decode cX9_stuffed 83 = .ok (.ireturn, 1) := by decide +kernel
set_option maxRecDepth 20000 in
theorem ggX9_open_X9_deviceAt : GoodIn wsX9_open wsX9_deviceAt := goodIn_ca (goodIn_r _ [12, 13, 14, 15, 16, 117, 118, 119, 120, 121, 122, 123, 124, 125, 126, 127, 128, 129] (by decide +kernel) (by decide +kernel)) (goodIn_sub (fun _ h => List.mem_cons_of_mem _ (List.mem_append_left _ (List.mem_append_right _ h))) (by decide +kernel))
set_option maxRecDepth 20000 in
theorem gX9_open_X9_deviceAt : GoodIn wsX9_open (wsV RX9 124 RX9 yX9_deviceAt wsX9_deviceAt) := goodIn_app (goodIn_of _ (by decide +kernel)) ggX9_open_X9_deviceAt
set_option maxRecDepth 20000 in
theorem ggX9_open_X9_endpointAt : GoodIn wsX9_open wsX9_endpointAt := goodIn_ca (goodIn_r _ [19, 13, 14, 20, 21, 11, 22, 88, 89, 90, 91, 92, 93, 94, 95, 96, 97, 98, 99, 100, 101, 102, 103, 104, 105, 106, 107, 108, 109, 110, 111, 112, 113, 114, 115, 116] (by decide +kernel) (by decide +kernel)) (goodIn_sub (fun _ h => List.mem_cons_of_mem _ (List.mem_append_left _ (List.mem_append_right _ h))) (by decide +kernel))
set_option maxRecDepth 20000 in
theorem gX9_open_X9_endpointAt : GoodIn wsX9_open (va_wsS RX9 283 yX9_endpointAt wsX9_endpointAt) := goodIn_app (goodIn_of _ (by decide +kernel)) ggX9_open_X9_endpointAt
theorem dX9_open_0 : decode cX9_open 0 = .ok (.aload_n 0, 1) := by decide +kernel
theorem dX9_open_1 : decode cX9_open 1 = .ok (.iload_n 1, 1) := by decide +kernel
theorem dX9_open_2 : decode cX9_open 2 = .ok (.invokevirtual 124, 3) := by decide +kernel
theorem dX9_open_5 : decode cX9_open 5 = .ok (.astore 5, 2) := by decide +kernel
theorem dX9_open_7 : decode cX9_open 7 = .ok (.aload 5, 2) := by decide +kernel
theorem dX9_open_9 : decode cX9_open 9 = .ok (.iload_n 2, 1) := by decide +kernel
theorem dX9_open_10 : decode cX9_open 10 = .ok (.invokestatic 283, 3) := by decide +kernel
set_option maxRecDepth 20000 in
theorem ggX9_close_X9_openPipe : GoodIn wsX9_close wsX9_openPipe := goodIn_ca (goodIn_r _ [5, 6, 7, 8, 9, 10, 4, 11, 12, 13, 14, 15, 16, 73, 74, 75, 76, 77, 78, 79, 80, 81, 82, 83, 84, 85, 86, 87, 88, 89, 90, 91, 92, 93, 94, 95, 96, 97, 98, 99] (by decide +kernel) (by decide +kernel)) (goodIn_sub (fun _ h => List.mem_cons_of_mem _ (List.mem_append_left _ (List.mem_append_right _ h))) (by decide +kernel))
set_option maxRecDepth 20000 in
theorem gX9_close_X9_openPipe : GoodIn wsX9_close (wsV RX9 334 RX9 yX9_openPipe wsX9_openPipe) := goodIn_app (goodIn_of _ (by decide +kernel)) ggX9_close_X9_openPipe
theorem dX9_close_0 : decode cX9_close 0 = .ok (.aload_n 0, 1) := by decide +kernel
theorem dX9_close_1 : decode cX9_close 1 = .ok (.aload_n 0, 1) := by decide +kernel
theorem dX9_close_2 : decode cX9_close 2 = .ok (.iload_n 1, 1) := by decide +kernel
theorem dX9_close_3 : decode cX9_close 3 = .ok (.invokevirtual 334, 3) := by decide +kernel
set_option maxRecDepth 20000 in
theorem ggX9_phaseOf_X9_openPipe : GoodIn wsX9_phaseOf wsX9_openPipe := goodIn_ca (goodIn_r _ [5, 6, 7, 8, 9, 10, 4, 11, 12, 13, 14, 15, 16, 31, 32, 33, 34, 35, 36, 37, 38, 39, 40, 41, 42, 43, 17, 18, 19, 20, 21, 22, 23, 24, 25, 26, 27, 28, 29, 30] (by decide +kernel) (by decide +kernel)) (goodIn_sub (fun _ h => List.mem_cons_of_mem _ (List.mem_append_right _ h)) (by decide +kernel))
set_option maxRecDepth 20000 in
theorem gX9_phaseOf_X9_openPipe : GoodIn wsX9_phaseOf (wsV RX9 334 RX9 yX9_openPipe wsX9_openPipe) := goodIn_app (goodIn_of _ (by decide +kernel)) ggX9_phaseOf_X9_openPipe
theorem dX9_phaseOf_0 : decode cX9_phaseOf 0 = .ok (.aload_n 0, 1) := by decide +kernel
theorem dX9_phaseOf_1 : decode cX9_phaseOf 1 = .ok (.iload_n 1, 1) := by decide +kernel
theorem dX9_phaseOf_2 : decode cX9_phaseOf 2 = .ok (.invokevirtual 334, 3) := by decide +kernel
set_option maxRecDepth 20000 in
theorem ggX9_reserved_X9_isWithin : GoodIn wsX9_reserved wsX9_isWithin := goodIn_r _ [7] (by decide +kernel) (by decide +kernel)
set_option maxRecDepth 20000 in
theorem gX9_reserved_X9_isWithin : GoodIn wsX9_reserved (va_wsS RX9 88 yX9_isWithin wsX9_isWithin) := goodIn_app (goodIn_of _ (by decide +kernel)) ggX9_reserved_X9_isWithin
set_option maxRecDepth 20000 in
theorem ggX9_reserved_X9_deviceAt : GoodIn wsX9_reserved wsX9_deviceAt := goodIn_ca (goodIn_r _ [11, 12, 13, 14, 15, 16, 17, 18, 19, 20, 21, 22, 23, 24, 25, 26, 27, 28] (by decide +kernel) (by decide +kernel)) (goodIn_sub (fun _ h => List.mem_cons_of_mem _ (List.mem_append_right _ h)) (by decide +kernel))
set_option maxRecDepth 20000 in
theorem gX9_reserved_X9_deviceAt : GoodIn wsX9_reserved (wsV RX9 124 RX9 yX9_deviceAt wsX9_deviceAt) := goodIn_app (goodIn_of _ (by decide +kernel)) ggX9_reserved_X9_deviceAt
theorem dX9_reserved_0 : decode cX9_reserved 0 = .ok (.iload_n 1, 1) := by decide +kernel
theorem dX9_reserved_1 : decode cX9_reserved 1 = .ok (.iconst 0, 1) := by decide +kernel
theorem dX9_reserved_2 : decode cX9_reserved 2 = .ok (.bipush 7, 2) := by decide +kernel
theorem dX9_reserved_4 : decode cX9_reserved 4 = .ok (.invokestatic 88, 3) := by decide +kernel
theorem dX9_reserved_7 : decode cX9_reserved 7 = .ok (.ifCond .ne 14, 3) := by decide +kernel
theorem dX9_reserved_10 : decode cX9_reserved 10 = .ok (.new 92, 3) := by decide +kernel
theorem dX9_reserved_13 : decode cX9_reserved 13 = .ok (.dup, 1) := by decide +kernel
theorem dX9_reserved_14 : decode cX9_reserved 14 = .ok (.ldc_w 342, 3) := by decide +kernel
theorem dX9_reserved_17 : decode cX9_reserved 17 = .ok (.invokespecial 96, 3) := by decide +kernel
theorem dX9_reserved_20 : decode cX9_reserved 20 = .ok (.athrow, 1) := by decide +kernel
theorem dX9_reserved_21 : decode cX9_reserved 21 = .ok (.iload_n 2, 1) := by decide +kernel
theorem dX9_reserved_22 : decode cX9_reserved 22 = .ok (.iconst (-1), 1) := by decide +kernel
theorem dX9_reserved_23 : decode cX9_reserved 23 = .ok (.if_icmp .ne 13, 3) := by decide +kernel
theorem dX9_reserved_26 : decode cX9_reserved 26 = .ok (.aload_n 0, 1) := by decide +kernel
theorem dX9_reserved_27 : decode cX9_reserved 27 = .ok (.getfield 45, 3) := by decide +kernel
theorem dX9_reserved_30 : decode cX9_reserved 30 = .ok (.getfield 344, 3) := by decide +kernel
theorem dX9_reserved_33 : decode cX9_reserved 33 = .ok (.iload_n 1, 1) := by decide +kernel
theorem dX9_reserved_34 : decode cX9_reserved 34 = .ok (.iaload, 1) := by decide +kernel
theorem dX9_reserved_35 : decode cX9_reserved 35 = .ok (.ireturn, 1) := by decide +kernel
theorem dX9_reserved_36 : decode cX9_reserved 36 = .ok (.aload_n 0, 1) := by decide +kernel
theorem dX9_reserved_37 : decode cX9_reserved 37 = .ok (.getfield 45, 3) := by decide +kernel
theorem dX9_reserved_40 : decode cX9_reserved 40 = .ok (.getfield 347, 3) := by decide +kernel
theorem dX9_reserved_43 : decode cX9_reserved 43 = .ok (.aload_n 0, 1) := by decide +kernel
theorem dX9_reserved_44 : decode cX9_reserved 44 = .ok (.iload_n 2, 1) := by decide +kernel
theorem dX9_reserved_45 : decode cX9_reserved 45 = .ok (.invokevirtual 124, 3) := by decide +kernel
theorem dX9_reserved_48 : decode cX9_reserved 48 = .ok (.getfield 121, 3) := by decide +kernel
theorem dX9_reserved_51 : decode cX9_reserved 51 = .ok (.bipush 8, 2) := by decide +kernel
theorem dX9_reserved_53 : decode cX9_reserved 53 = .ok (.imul, 1) := by decide +kernel
theorem dX9_reserved_54 : decode cX9_reserved 54 = .ok (.iload_n 1, 1) := by decide +kernel
theorem dX9_reserved_55 : decode cX9_reserved 55 = .ok (.iadd, 1) := by decide +kernel
theorem dX9_reserved_56 : decode cX9_reserved 56 = .ok (.iaload, 1) := by decide +kernel
theorem dX9_reserved_57 : decode cX9_reserved 57 = .ok (.ireturn, 1) := by decide +kernel
set_option maxRecDepth 20000 in
theorem ggX9_send_X9_openPipe : GoodIn wsX9_send wsX9_openPipe := goodIn_ca (goodIn_r _ [10, 11, 12, 13, 14, 15, 9, 16, 17, 18, 19, 20, 21, 69, 70, 71, 72, 73, 74, 75, 76, 77, 78, 79, 80, 81, 46, 47, 48, 49, 50, 51, 52, 53, 54, 55, 56, 57, 58, 59] (by decide +kernel) (by decide +kernel)) (goodIn_sub (fun _ h => List.mem_cons_of_mem _ (List.mem_append_right _ h)) (by decide +kernel))
set_option maxRecDepth 20000 in
theorem gX9_send_X9_openPipe : GoodIn wsX9_send (wsV RX9 334 RX9 yX9_openPipe wsX9_openPipe) := goodIn_app (goodIn_of _ (by decide +kernel)) ggX9_send_X9_openPipe
theorem dX9_send_0 : decode cX9_send 0 = .ok (.aload_n 0, 1) := by decide +kernel
theorem dX9_send_1 : decode cX9_send 1 = .ok (.iload_n 1, 1) := by decide +kernel
theorem dX9_send_2 : decode cX9_send 2 = .ok (.invokevirtual 334, 3) := by decide +kernel
set_option maxRecDepth 20000 in
theorem ggX9_ask_X9_openPipe : GoodIn wsX9_ask wsX9_openPipe := goodIn_ca (goodIn_r _ [11, 12, 13, 14, 15, 16, 10, 17, 18, 19, 20, 21, 22, 56, 57, 58, 59, 60, 61, 62, 63, 64, 65, 66, 67, 68, 33, 34, 35, 36, 37, 38, 39, 40, 41, 42, 43, 44, 45, 46] (by decide +kernel) (by decide +kernel)) (goodIn_sub (fun _ h => List.mem_cons_of_mem _ (List.mem_append_right _ h)) (by decide +kernel))
set_option maxRecDepth 20000 in
theorem gX9_ask_X9_openPipe : GoodIn wsX9_ask (wsV RX9 334 RX9 yX9_openPipe wsX9_openPipe) := goodIn_app (goodIn_of _ (by decide +kernel)) ggX9_ask_X9_openPipe
theorem dX9_ask_0 : decode cX9_ask 0 = .ok (.aload_n 0, 1) := by decide +kernel
theorem dX9_ask_1 : decode cX9_ask 1 = .ok (.iload_n 1, 1) := by decide +kernel
theorem dX9_ask_2 : decode cX9_ask 2 = .ok (.invokevirtual 334, 3) := by decide +kernel
set_option maxRecDepth 20000 in
theorem ggX9_ring_X9_openPipe : GoodIn wsX9_ring wsX9_openPipe := goodIn_ca (goodIn_r _ [5, 6, 7, 8, 9, 10, 4, 11, 12, 13, 14, 15, 16, 42, 43, 44, 45, 46, 47, 48, 49, 50, 51, 52, 53, 54, 22, 23, 24, 25, 26, 27, 28, 29, 30, 31, 32, 33, 34, 35] (by decide +kernel) (by decide +kernel)) (goodIn_sub (fun _ h => List.mem_cons_of_mem _ (List.mem_append_right _ h)) (by decide +kernel))
set_option maxRecDepth 20000 in
theorem gX9_ring_X9_openPipe : GoodIn wsX9_ring (wsV RX9 334 RX9 yX9_openPipe wsX9_openPipe) := goodIn_app (goodIn_of _ (by decide +kernel)) ggX9_ring_X9_openPipe
theorem dX9_ring_0 : decode cX9_ring 0 = .ok (.aload_n 0, 1) := by decide +kernel
theorem dX9_ring_1 : decode cX9_ring 1 = .ok (.iload_n 1, 1) := by decide +kernel
theorem dX9_ring_2 : decode cX9_ring 2 = .ok (.invokevirtual 334, 3) := by decide +kernel
set_option maxRecDepth 20000 in
theorem ggX9_isHalted_X9_openPipe : GoodIn wsX9_isHalted wsX9_openPipe := goodIn_ca (goodIn_r _ [5, 6, 7, 8, 9, 10, 4, 11, 12, 13, 14, 15, 16, 31, 32, 33, 34, 35, 36, 37, 38, 39, 40, 41, 42, 43, 17, 18, 19, 20, 21, 22, 23, 24, 25, 26, 27, 28, 29, 30] (by decide +kernel) (by decide +kernel)) (goodIn_sub (fun _ h => List.mem_cons_of_mem _ (List.mem_append_right _ h)) (by decide +kernel))
set_option maxRecDepth 20000 in
theorem gX9_isHalted_X9_openPipe : GoodIn wsX9_isHalted (wsV RX9 334 RX9 yX9_openPipe wsX9_openPipe) := goodIn_app (goodIn_of _ (by decide +kernel)) ggX9_isHalted_X9_openPipe
theorem dX9_isHalted_0 : decode cX9_isHalted 0 = .ok (.aload_n 0, 1) := by decide +kernel
theorem dX9_isHalted_1 : decode cX9_isHalted 1 = .ok (.iload_n 1, 1) := by decide +kernel
theorem dX9_isHalted_2 : decode cX9_isHalted 2 = .ok (.invokevirtual 334, 3) := by decide +kernel
set_option maxRecDepth 20000 in
theorem ggX9_clear_X9_openPipe : GoodIn wsX9_clear wsX9_openPipe := goodIn_ca (goodIn_r _ [5, 6, 7, 8, 9, 10, 4, 11, 12, 13, 14, 15, 16, 38, 39, 40, 41, 42, 43, 44, 45, 46, 47, 48, 49, 50, 24, 25, 26, 27, 28, 29, 30, 31, 32, 33, 34, 35, 36, 37] (by decide +kernel) (by decide +kernel)) (goodIn_sub (fun _ h => List.mem_cons_of_mem _ (List.mem_append_right _ h)) (by decide +kernel))
set_option maxRecDepth 20000 in
theorem gX9_clear_X9_openPipe : GoodIn wsX9_clear (wsV RX9 334 RX9 yX9_openPipe wsX9_openPipe) := goodIn_app (goodIn_of _ (by decide +kernel)) ggX9_clear_X9_openPipe
theorem dX9_clear_0 : decode cX9_clear 0 = .ok (.aload_n 0, 1) := by decide +kernel
theorem dX9_clear_1 : decode cX9_clear 1 = .ok (.iload_n 1, 1) := by decide +kernel
theorem dX9_clear_2 : decode cX9_clear 2 = .ok (.invokevirtual 334, 3) := by decide +kernel
set_option maxRecDepth 20000 in
theorem ggX9_cancel_X9_openPipe : GoodIn wsX9_cancel wsX9_openPipe := goodIn_ca (goodIn_r _ [7, 8, 9, 10, 11, 12, 6, 13, 14, 15, 16, 17, 18, 65, 66, 67, 68, 69, 70, 71, 72, 73, 74, 75, 76, 77, 45, 46, 47, 48, 49, 50, 51, 52, 53, 54, 55, 56, 57, 58] (by decide +kernel) (by decide +kernel)) (goodIn_sub (fun _ h => List.mem_cons_of_mem _ (List.mem_append_left _ (List.mem_append_right _ h))) (by decide +kernel))
set_option maxRecDepth 20000 in
theorem gX9_cancel_X9_openPipe : GoodIn wsX9_cancel (wsV RX9 334 RX9 yX9_openPipe wsX9_openPipe) := goodIn_app (goodIn_of _ (by decide +kernel)) ggX9_cancel_X9_openPipe
theorem dX9_cancel_0 : decode cX9_cancel 0 = .ok (.aload_n 0, 1) := by decide +kernel
theorem dX9_cancel_1 : decode cX9_cancel 1 = .ok (.iload_n 1, 1) := by decide +kernel
theorem dX9_cancel_2 : decode cX9_cancel 2 = .ok (.invokevirtual 334, 3) := by decide +kernel
set_option maxRecDepth 20000 in
theorem ggX9_load_X9_deviceAt : GoodIn wsX9_load wsX9_deviceAt := goodIn_ca (goodIn_r _ [10, 11, 12, 13, 14, 52, 53, 54, 55, 56, 57, 58, 59, 60, 61, 62, 63, 64] (by decide +kernel) (by decide +kernel)) (goodIn_sub (fun _ h => List.mem_cons_of_mem _ (List.mem_append_left _ (List.mem_append_right _ h))) (by decide +kernel))
set_option maxRecDepth 20000 in
theorem gX9_load_X9_deviceAt : GoodIn wsX9_load (wsV RX9 124 RX9 yX9_deviceAt wsX9_deviceAt) := goodIn_app (goodIn_of _ (by decide +kernel)) ggX9_load_X9_deviceAt
set_option maxRecDepth 20000 in
theorem ggX9_load_X9_endpointAt : GoodIn wsX9_load wsX9_endpointAt := goodIn_ca (goodIn_r _ [17, 11, 12, 18, 19, 9, 20, 65, 66, 67, 68, 69, 70, 71, 72, 73, 74, 75, 76, 77, 78, 79, 80, 81, 82, 83, 84, 39, 40, 41, 42, 43, 44, 45, 46, 47] (by decide +kernel) (by decide +kernel)) (goodIn_sub (fun _ h => List.mem_cons_of_mem _ (List.mem_append_left _ (List.mem_append_right _ h))) (by decide +kernel))
set_option maxRecDepth 20000 in
theorem gX9_load_X9_endpointAt : GoodIn wsX9_load (va_wsS RX9 283 yX9_endpointAt wsX9_endpointAt) := goodIn_app (goodIn_of _ (by decide +kernel)) ggX9_load_X9_endpointAt
theorem dX9_load_0 : decode cX9_load 0 = .ok (.aload_n 0, 1) := by decide +kernel
theorem dX9_load_1 : decode cX9_load 1 = .ok (.iload_n 1, 1) := by decide +kernel
theorem dX9_load_2 : decode cX9_load 2 = .ok (.invokevirtual 124, 3) := by decide +kernel
theorem dX9_load_5 : decode cX9_load 5 = .ok (.iload_n 2, 1) := by decide +kernel
theorem dX9_load_6 : decode cX9_load 6 = .ok (.invokestatic 283, 3) := by decide +kernel
set_option maxRecDepth 20000 in
theorem ggX9_fault_X9_deviceBelowHost : GoodIn wsX9_fault wsX9_deviceBelowHost := goodIn_ca (goodIn_r _ [7, 8, 9, 10, 11, 12, 6, 13, 14, 15, 56, 57, 58, 59, 60, 61, 62, 63, 64, 65, 66, 67, 68] (by decide +kernel) (by decide +kernel)) (goodIn_sub (fun _ h => List.mem_cons_of_mem _ (List.mem_append_right _ h)) (by decide +kernel))
set_option maxRecDepth 20000 in
theorem gX9_fault_X9_deviceBelowHost : GoodIn wsX9_fault (wsV RX9 185 RX9 yX9_deviceBelowHost wsX9_deviceBelowHost) := goodIn_app (goodIn_of _ (by decide +kernel)) ggX9_fault_X9_deviceBelowHost
theorem dX9_fault_0 : decode cX9_fault 0 = .ok (.aload_n 0, 1) := by decide +kernel
theorem dX9_fault_1 : decode cX9_fault 1 = .ok (.iload_n 1, 1) := by decide +kernel
theorem dX9_fault_2 : decode cX9_fault 2 = .ok (.invokevirtual 185, 3) := by decide +kernel
set_option maxRecDepth 20000 in
theorem ggX9_frame_X8_beginFrame : GoodIn wsX9_frame wsX8_beginFrame := goodIn_ca (goodIn_r _ [9, 10, 11, 221, 222, 223, 224, 225] (by decide +kernel) (by decide +kernel)) (goodIn_sub (fun _ h => List.mem_cons_of_mem _ (List.mem_append_right _ h)) (by decide +kernel))
set_option maxRecDepth 20000 in
theorem gX9_frame_X8_beginFrame_n421 : GoodIn wsX9_frame (wsX8_beginFrame) := ggX9_frame_X8_beginFrame
set_option maxRecDepth 20000 in
theorem ggX9_frame_X9_shutGreedyDevices : GoodIn wsX9_frame wsX9_shutGreedyDevices := goodIn_ca (goodIn_r _ [16, 17, 18, 19, 15, 20, 21, 22, 23, 24, 25, 26, 27, 28, 29, 30, 31, 4, 32, 33, 34, 35, 36, 37, 38, 39, 40, 41, 42, 3, 43, 44, 45, 46, 47, 48, 49, 50, 51, 52, 53, 54, 55, 7, 56, 57, 58, 59, 60, 61, 62, 63, 64, 65, 66, 67, 68, 69, 70, 71, 72, 73, 74, 75, 76, 77, 78, 79, 80, 81, 82, 83, 84, 85, 86, 87, 88, 89, 90, 91, 92, 93, 94, 95, 96, 97, 98, 99, 100, 101, 102, 103, 191, 192, 193, 194, 195, 196, 197, 198, 199, 200, 201, 202, 203, 226, 227, 228, 229, 230, 231, 232, 233, 234, 235, 236, 237, 238, 239, 240, 241, 242, 243, 244, 245, 207, 208, 209, 210, 211, 212, 213, 214, 215, 216, 217, 218, 219, 220, 246, 247, 248, 249, 250, 251, 252, 253, 254, 221, 222, 223, 224, 225, 255, 256, 257, 258, 259, 260, 261, 262, 263, 264, 265, 266, 267, 268, 269, 270] (by decide +kernel) (by decide +kernel)) (goodIn_sub (fun _ h => List.mem_cons_of_mem _ (List.mem_append_right _ h)) (by decide +kernel))
set_option maxRecDepth 20000 in
theorem gX9_frame_X9_shutGreedyDevices : GoodIn wsX9_frame (wsV RX9 424 RX9 yX9_shutGreedyDevices wsX9_shutGreedyDevices) := goodIn_app (goodIn_of _ (by decide +kernel)) ggX9_frame_X9_shutGreedyDevices
set_option maxRecDepth 20000 in
theorem ggX9_frame_X5_isDueIn : GoodIn wsX9_frame wsX5_isDueIn := goodIn_r _ [52, 53, 54, 207, 208, 209, 210, 211, 212, 213, 214, 215, 216, 217, 218, 219, 220] (by decide +kernel) (by decide +kernel)
set_option maxRecDepth 20000 in
theorem gX9_frame_X5_isDueIn_n430 : GoodIn wsX9_frame (wsX5_isDueIn) := ggX9_frame_X5_isDueIn
set_option maxRecDepth 20000 in
theorem ggX9_frame_X9_nextBulkPipe : GoodIn wsX9_frame wsX9_nextBulkPipe := goodIn_ca (goodIn_r _ [190, 4, 5, 104, 105, 106, 15, 107, 2, 3, 65, 50, 66, 67, 68, 69, 108, 109, 110, 111, 112, 113, 114, 115, 116, 117, 118, 119, 120, 43, 44, 45, 46, 47, 48, 121, 7, 122, 123, 10, 11, 191, 192, 193, 194, 195, 196, 197, 198, 199, 200, 201, 202, 203, 207, 208, 209, 210, 211, 212, 213, 214, 215, 216, 217, 218, 219, 220, 255, 256, 257, 258, 259, 260, 226, 227, 228, 229, 230, 231, 232, 233, 234, 235, 236, 237, 238, 239, 240, 241, 242, 243, 244, 245, 246, 247, 248, 249, 250, 251, 252, 253, 254, 271, 272, 273, 274, 221, 222, 223, 224, 225] (by decide +kernel) (by decide +kernel)) (goodIn_sub (fun _ h => List.mem_cons_of_mem _ (List.mem_append_right _ h)) (by decide +kernel))
set_option maxRecDepth 20000 in
theorem gX9_frame_X9_nextBulkPipe : GoodIn wsX9_frame (wsV RX9 441 RX9 yX9_nextBulkPipe wsX9_nextBulkPipe) := goodIn_app (goodIn_of _ (by decide +kernel)) ggX9_frame_X9_nextBulkPipe
theorem dX9_frame_0 : decode cX9_frame 0 = .ok (.aload_n 0, 1) := by decide +kernel
theorem dX9_frame_1 : decode cX9_frame 1 = .ok (.getfield 59, 3) := by decide +kernel
theorem dX9_frame_4 : decode cX9_frame 4 = .ok (.getfield 418, 3) := by decide +kernel
theorem dX9_frame_7 : decode cX9_frame 7 = .ok (.istore_n 1, 1) := by decide +kernel
theorem dX9_frame_8 : decode cX9_frame 8 = .ok (.aload_n 0, 1) := by decide +kernel
theorem dX9_frame_9 : decode cX9_frame 9 = .ok (.dup, 1) := by decide +kernel
theorem dX9_frame_10 : decode cX9_frame 10 = .ok (.getfield 252, 3) := by decide +kernel
theorem dX9_frame_13 : decode cX9_frame 13 = .ok (.iconst 1, 1) := by decide +kernel
theorem dX9_frame_14 : decode cX9_frame 14 = .ok (.iadd, 1) := by decide +kernel
theorem dX9_frame_15 : decode cX9_frame 15 = .ok (.putfield 252, 3) := by decide +kernel
theorem dX9_frame_18 : decode cX9_frame 18 = .ok (.aload_n 0, 1) := by decide +kernel
theorem dX9_frame_19 : decode cX9_frame 19 = .ok (.getfield 45, 3) := by decide +kernel
theorem dX9_frame_22 : decode cX9_frame 22 = .ok (.invokevirtual 421, 3) := by decide +kernel
theorem dX9_frame_25 : decode cX9_frame 25 = .ok (.aload_n 0, 1) := by decide +kernel
theorem dX9_frame_26 : decode cX9_frame 26 = .ok (.invokevirtual 424, 3) := by decide +kernel
theorem dX9_frame_29 : decode cX9_frame 29 = .ok (.iconst 0, 1) := by decide +kernel
theorem dX9_frame_30 : decode cX9_frame 30 = .ok (.istore_n 2, 1) := by decide +kernel
theorem dX9_frame_31 : decode cX9_frame 31 = .ok (.iload_n 2, 1) := by decide +kernel
theorem dX9_frame_32 : decode cX9_frame 32 = .ok (.bipush 12, 2) := by decide +kernel
theorem dX9_frame_34 : decode cX9_frame 34 = .ok (.if_icmp .ge 45, 3) := by decide +kernel
theorem dX9_frame_37 : decode cX9_frame 37 = .ok (.aload_n 0, 1) := by decide +kernel
theorem dX9_frame_38 : decode cX9_frame 38 = .ok (.getfield 24, 3) := by decide +kernel
theorem dX9_frame_41 : decode cX9_frame 41 = .ok (.iload_n 2, 1) := by decide +kernel
theorem dX9_frame_42 : decode cX9_frame 42 = .ok (.aaload, 1) := by decide +kernel
theorem dX9_frame_43 : decode cX9_frame 43 = .ok (.astore_n 3, 1) := by decide +kernel
theorem dX9_frame_44 : decode cX9_frame 44 = .ok (.aload_n 3, 1) := by decide +kernel
theorem dX9_frame_45 : decode cX9_frame 45 = .ok (.iconst 0, 1) := by decide +kernel
theorem dX9_frame_46 : decode cX9_frame 46 = .ok (.putfield 427, 3) := by decide +kernel
theorem dX9_frame_49 : decode cX9_frame 49 = .ok (.aload_n 3, 1) := by decide +kernel
theorem dX9_frame_50 : decode cX9_frame 50 = .ok (.aload_n 0, 1) := by decide +kernel
theorem dX9_frame_51 : decode cX9_frame 51 = .ok (.getfield 252, 3) := by decide +kernel
theorem dX9_frame_54 : decode cX9_frame 54 = .ok (.invokevirtual 430, 3) := by decide +kernel
theorem dX9_frame_57 : decode cX9_frame 57 = .ok (.ifCond .eq 16, 3) := by decide +kernel
theorem dX9_frame_73 : decode cX9_frame 73 = .ok (.iinc 2 1, 3) := by decide +kernel
theorem dX9_frame_76 : decode cX9_frame 76 = .ok (.goto (-45), 3) := by decide +kernel
theorem dX9_frame_79 : decode cX9_frame 79 = .ok (.aload_n 0, 1) := by decide +kernel
theorem dX9_frame_80 : decode cX9_frame 80 = .ok (.invokevirtual 441, 3) := by decide +kernel
theorem dX9_frame_83 : decode cX9_frame 83 = .ok (.astore_n 2, 1) := by decide +kernel
theorem dX9_frame_84 : decode cX9_frame 84 = .ok (.iconst 0, 1) := by decide +kernel
theorem dX9_frame_85 : decode cX9_frame 85 = .ok (.istore_n 3, 1) := by decide +kernel
theorem dX9_frame_86 : decode cX9_frame 86 = .ok (.iload_n 3, 1) := by decide +kernel
theorem dX9_frame_87 : decode cX9_frame 87 = .ok (.sipush 1000, 3) := by decide +kernel
theorem dX9_frame_90 : decode cX9_frame 90 = .ok (.if_icmp .ge 31, 3) := by decide +kernel
theorem dX9_frame_93 : decode cX9_frame 93 = .ok (.aload_n 2, 1) := by decide +kernel
theorem dX9_frame_94 : decode cX9_frame 94 = .ok (.ifnull 27, 3) := by decide +kernel
theorem dX9_frame_121 : decode cX9_frame 121 = .ok (.aload_n 0, 1) := by decide +kernel
theorem dX9_frame_122 : decode cX9_frame 122 = .ok (.getfield 59, 3) := by decide +kernel
theorem dX9_frame_125 : decode cX9_frame 125 = .ok (.getfield 418, 3) := by decide +kernel
theorem dX9_frame_128 : decode cX9_frame 128 = .ok (.iload_n 1, 1) := by decide +kernel
theorem dX9_frame_129 : decode cX9_frame 129 = .ok (.isub, 1) := by decide +kernel
theorem dX9_frame_130 : decode cX9_frame 130 = .ok (.ireturn, 1) := by decide +kernel
theorem dX9_frames_0 : decode cX9_frames 0 = .ok (.aload_n 0, 1) := by decide +kernel
theorem dX9_frames_1 : decode cX9_frames 1 = .ok (.getfield 252, 3) := by decide +kernel
theorem dX9_frames_4 : decode cX9_frames 4 = .ok (.ireturn, 1) := by decide +kernel
set_option maxRecDepth 20000 in
theorem ggX9_left_X9_deviceAt : GoodIn wsX9_left wsX9_deviceAt := goodIn_ca (goodIn_r _ [9, 10, 11, 12, 13, 34, 35, 36, 37, 38, 39, 40, 41, 42, 43, 44, 45, 46] (by decide +kernel) (by decide +kernel)) (goodIn_sub (fun _ h => List.mem_cons_of_mem _ (List.mem_append_right _ h)) (by decide +kernel))
set_option maxRecDepth 20000 in
theorem gX9_left_X9_deviceAt : GoodIn wsX9_left (wsV RX9 124 RX9 yX9_deviceAt wsX9_deviceAt) := goodIn_app (goodIn_of _ (by decide +kernel)) ggX9_left_X9_deviceAt
theorem dX9_left_0 : decode cX9_left 0 = .ok (.iload_n 1, 1) := by decide +kernel
theorem dX9_left_1 : decode cX9_left 1 = .ok (.iconst (-1), 1) := by decide +kernel
theorem dX9_left_2 : decode cX9_left 2 = .ok (.if_icmp .ne 7, 3) := by decide +kernel
theorem dX9_left_5 : decode cX9_left 5 = .ok (.iconst (-1), 1) := by decide +kernel
theorem dX9_left_6 : decode cX9_left 6 = .ok (.goto 11, 3) := by decide +kernel
theorem dX9_left_9 : decode cX9_left 9 = .ok (.aload_n 0, 1) := by decide +kernel
theorem dX9_left_10 : decode cX9_left 10 = .ok (.iload_n 1, 1) := by decide +kernel
theorem dX9_left_11 : decode cX9_left 11 = .ok (.invokevirtual 124, 3) := by decide +kernel
theorem dX9_left_14 : decode cX9_left 14 = .ok (.getfield 121, 3) := by decide +kernel
theorem dX9_left_17 : decode cX9_left 17 = .ok (.istore_n 2, 1) := by decide +kernel
theorem dX9_left_18 : decode cX9_left 18 = .ok (.aload_n 0, 1) := by decide +kernel
theorem dX9_left_19 : decode cX9_left 19 = .ok (.getfield 252, 3) := by decide +kernel
theorem dX9_left_22 : decode cX9_left 22 = .ok (.ifCond .ne 14, 3) := by decide +kernel
theorem dX9_left_25 : decode cX9_left 25 = .ok (.new 203, 3) := by decide +kernel
theorem dX9_left_28 : decode cX9_left 28 = .ok (.dup, 1) := by decide +kernel
theorem dX9_left_29 : decode cX9_left 29 = .ok (.ldc_w 444, 3) := by decide +kernel
theorem dX9_left_32 : decode cX9_left 32 = .ok (.invokespecial 207, 3) := by decide +kernel
theorem dX9_left_35 : decode cX9_left 35 = .ok (.athrow, 1) := by decide +kernel
theorem dX9_events_0 : decode cX9_events 0 = .ok (.aload_n 0, 1) := by decide +kernel
theorem dX9_events_1 : decode cX9_events 1 = .ok (.getfield 52, 3) := by decide +kernel
theorem dX9_events_4 : decode cX9_events 4 = .ok (.getfield 452, 3) := by decide +kernel
theorem dX9_events_7 : decode cX9_events 7 = .ok (.ireturn, 1) := by decide +kernel
theorem dX9_event_0 : decode cX9_event 0 = .ok (.aload_n 0, 1) := by decide +kernel
theorem dX9_event_1 : decode cX9_event 1 = .ok (.getfield 52, 3) := by decide +kernel
theorem dX9_event_4 : decode cX9_event 4 = .ok (.getfield 452, 3) := by decide +kernel
theorem dX9_event_7 : decode cX9_event 7 = .ok (.ifCond .ne 14, 3) := by decide +kernel
theorem dX9_event_10 : decode cX9_event 10 = .ok (.new 203, 3) := by decide +kernel
theorem dX9_event_13 : decode cX9_event 13 = .ok (.dup, 1) := by decide +kernel
theorem dX9_event_14 : decode cX9_event 14 = .ok (.ldc_w 453, 3) := by decide +kernel
theorem dX9_event_17 : decode cX9_event 17 = .ok (.invokespecial 207, 3) := by decide +kernel
theorem dX9_event_20 : decode cX9_event 20 = .ok (.athrow, 1) := by decide +kernel
theorem dX9_eventPipe_0 : decode cX9_eventPipe 0 = .ok (.aload_n 0, 1) := by decide +kernel
theorem dX9_eventPipe_1 : decode cX9_eventPipe 1 = .ok (.getfield 52, 3) := by decide +kernel
theorem dX9_eventPipe_4 : decode cX9_eventPipe 4 = .ok (.getfield 459, 3) := by decide +kernel
theorem dX9_eventPipe_7 : decode cX9_eventPipe 7 = .ok (.ifCond .ge 14, 3) := by decide +kernel
theorem dX9_eventPipe_10 : decode cX9_eventPipe 10 = .ok (.new 203, 3) := by decide +kernel
theorem dX9_eventPipe_13 : decode cX9_eventPipe 13 = .ok (.dup, 1) := by decide +kernel
theorem dX9_eventPipe_14 : decode cX9_eventPipe 14 = .ok (.ldc_w 462, 3) := by decide +kernel
theorem dX9_eventPipe_17 : decode cX9_eventPipe 17 = .ok (.invokespecial 207, 3) := by decide +kernel
theorem dX9_eventPipe_20 : decode cX9_eventPipe 20 = .ok (.athrow, 1) := by decide +kernel
theorem dX9_eventBytes_0 : decode cX9_eventBytes 0 = .ok (.aload_n 0, 1) := by decide +kernel
theorem dX9_eventBytes_1 : decode cX9_eventBytes 1 = .ok (.getfield 52, 3) := by decide +kernel
theorem dX9_eventBytes_4 : decode cX9_eventBytes 4 = .ok (.getfield 459, 3) := by decide +kernel
theorem dX9_eventBytes_7 : decode cX9_eventBytes 7 = .ok (.ifCond .ge 14, 3) := by decide +kernel
theorem dX9_eventBytes_10 : decode cX9_eventBytes 10 = .ok (.new 203, 3) := by decide +kernel
theorem dX9_eventBytes_13 : decode cX9_eventBytes 13 = .ok (.dup, 1) := by decide +kernel
theorem dX9_eventBytes_14 : decode cX9_eventBytes 14 = .ok (.ldc_w 462, 3) := by decide +kernel
theorem dX9_eventBytes_17 : decode cX9_eventBytes 17 = .ok (.invokespecial 207, 3) := by decide +kernel
theorem dX9_eventBytes_20 : decode cX9_eventBytes 20 = .ok (.athrow, 1) := by decide +kernel
theorem dX9_missed_0 : decode cX9_missed 0 = .ok (.aload_n 0, 1) := by decide +kernel
theorem dX9_missed_1 : decode cX9_missed 1 = .ok (.getfield 52, 3) := by decide +kernel
theorem dX9_missed_4 : decode cX9_missed 4 = .ok (.getfield 467, 3) := by decide +kernel
theorem dX9_missed_7 : decode cX9_missed 7 = .ok (.ireturn, 1) := by decide +kernel
set_option maxRecDepth 20000 in
theorem ggX9_taken_X9_endpointOut : GoodIn wsX9_taken wsX9_endpointOut := goodIn_ca (goodIn_ca (goodIn_r _ [5, 6, 7, 8, 9, 10, 4, 11, 12, 13, 14, 15, 16, 17, 18, 19, 20, 21, 22, 23, 24, 25, 26, 27, 28, 29, 30, 35, 36, 37, 38, 39, 40, 41, 42, 43, 44, 45, 46, 47, 48, 49, 50, 51, 52, 53, 54, 55, 56, 57, 58, 59, 60, 61, 62, 63, 64, 65, 66, 67] (by decide +kernel) (by decide +kernel)) (goodIn_sub (fun _ h => List.mem_cons_of_mem _ (List.mem_append_left _ (List.mem_append_right _ h))) (by decide +kernel))) (goodIn_sub (fun _ h => List.mem_cons_of_mem _ (List.mem_append_right _ h)) (by decide +kernel))
set_option maxRecDepth 20000 in
theorem gX9_taken_X9_endpointOut : GoodIn wsX9_taken (wsV RX9 470 RX9 yX9_endpointOut wsX9_endpointOut) := goodIn_app (goodIn_of _ (by decide +kernel)) ggX9_taken_X9_endpointOut
theorem dX9_taken_0 : decode cX9_taken 0 = .ok (.aload_n 0, 1) := by decide +kernel
theorem dX9_taken_1 : decode cX9_taken 1 = .ok (.iload_n 1, 1) := by decide +kernel
theorem dX9_taken_2 : decode cX9_taken 2 = .ok (.iload_n 2, 1) := by decide +kernel
theorem dX9_taken_3 : decode cX9_taken 3 = .ok (.invokevirtual 470, 3) := by decide +kernel
set_option maxRecDepth 20000 in
theorem ggX9_takenAt_X9_endpointOut : GoodIn wsX9_takenAt wsX9_endpointOut := goodIn_ca (goodIn_ca (goodIn_r _ [5, 6, 7, 8, 9, 10, 4, 11, 12, 13, 14, 15, 16, 17, 18, 19, 20, 21, 33, 34, 35, 36, 37, 38, 39, 40, 41, 42, 43, 44, 45, 46, 47, 48, 49, 50, 51, 52, 53, 54, 55, 56, 57, 58, 59, 60, 61, 62, 63, 64, 65, 66, 67, 68, 69, 70, 71, 72, 73, 74] (by decide +kernel) (by decide +kernel)) (goodIn_sub (fun _ h => List.mem_cons_of_mem _ (List.mem_append_left _ (List.mem_append_left _ (List.mem_append_left _ (List.mem_append_right _ h))))) (by decide +kernel))) (goodIn_sub (fun _ h => List.mem_cons_of_mem _ (List.mem_append_left _ (List.mem_append_left _ (List.mem_append_right _ h)))) (by decide +kernel))
set_option maxRecDepth 20000 in
theorem gX9_takenAt_X9_endpointOut : GoodIn wsX9_takenAt (wsV RX9 470 RX9 yX9_endpointOut wsX9_endpointOut) := goodIn_app (goodIn_of _ (by decide +kernel)) ggX9_takenAt_X9_endpointOut
theorem dX9_takenAt_0 : decode cX9_takenAt 0 = .ok (.aload_n 0, 1) := by decide +kernel
theorem dX9_takenAt_1 : decode cX9_takenAt 1 = .ok (.iload_n 1, 1) := by decide +kernel
theorem dX9_takenAt_2 : decode cX9_takenAt 2 = .ok (.iload_n 2, 1) := by decide +kernel
theorem dX9_takenAt_3 : decode cX9_takenAt 3 = .ok (.invokevirtual 470, 3) := by decide +kernel
set_option maxRecDepth 20000 in
theorem ggX9_waiting_X9_deviceAt : GoodIn wsX9_waiting wsX9_deviceAt := goodIn_ca (goodIn_r _ [7, 8, 9, 10, 11, 31, 32, 33, 34, 35, 36, 37, 38, 39, 40, 41, 42, 43] (by decide +kernel) (by decide +kernel)) (goodIn_sub (fun _ h => List.mem_cons_of_mem _ (List.mem_append_right _ h)) (by decide +kernel))
set_option maxRecDepth 20000 in
theorem gX9_waiting_X9_deviceAt : GoodIn wsX9_waiting (wsV RX9 124 RX9 yX9_deviceAt wsX9_deviceAt) := goodIn_app (goodIn_of _ (by decide +kernel)) ggX9_waiting_X9_deviceAt
set_option maxRecDepth 20000 in
theorem ggX9_waiting_X9_endpointAt : GoodIn wsX9_waiting wsX9_endpointAt := goodIn_ca (goodIn_r _ [14, 8, 9, 15, 16, 6, 17, 44, 45, 46, 47, 48, 49, 50, 51, 52, 53, 54, 55, 56, 57, 58, 59, 60, 61, 62, 63, 18, 19, 20, 21, 22, 23, 24, 25, 26] (by decide +kernel) (by decide +kernel)) (goodIn_sub (fun _ h => List.mem_cons_of_mem _ (List.mem_append_right _ h)) (by decide +kernel))
set_option maxRecDepth 20000 in
theorem gX9_waiting_X9_endpointAt : GoodIn wsX9_waiting (va_wsS RX9 283 yX9_endpointAt wsX9_endpointAt) := goodIn_app (goodIn_of _ (by decide +kernel)) ggX9_waiting_X9_endpointAt
theorem dX9_waiting_0 : decode cX9_waiting 0 = .ok (.aload_n 0, 1) := by decide +kernel
theorem dX9_waiting_1 : decode cX9_waiting 1 = .ok (.iload_n 1, 1) := by decide +kernel
theorem dX9_waiting_2 : decode cX9_waiting 2 = .ok (.invokevirtual 124, 3) := by decide +kernel
theorem dX9_waiting_5 : decode cX9_waiting 5 = .ok (.iload_n 2, 1) := by decide +kernel
theorem dX9_waiting_6 : decode cX9_waiting 6 = .ok (.invokestatic 283, 3) := by decide +kernel
theorem dX9_got_0 : decode cX9_got 0 = .ok (.aload_n 0, 1) := by decide +kernel
theorem dX9_got_1 : decode cX9_got 1 = .ok (.getfield 39, 3) := by decide +kernel
theorem dX9_got_4 : decode cX9_got 4 = .ok (.getfield 474, 3) := by decide +kernel
theorem dX9_got_7 : decode cX9_got 7 = .ok (.ireturn, 1) := by decide +kernel
set_option maxRecDepth 20000 in
theorem ggX9_gotAt_X9_newest : GoodIn wsX9_gotAt wsX9_newest := goodIn_ca (goodIn_ca (goodIn_r _ [5, 6, 7, 8, 9, 10, 11, 12, 13, 27, 28, 29, 30] (by decide +kernel) (by decide +kernel)) (goodIn_sub (fun _ h => List.mem_cons_of_mem _ (List.mem_append_left _ (List.mem_append_right _ h))) (by decide +kernel))) (goodIn_sub (fun _ h => List.mem_cons_of_mem _ (List.mem_append_right _ h)) (by decide +kernel))
set_option maxRecDepth 20000 in
theorem gX9_gotAt_X9_newest : GoodIn wsX9_gotAt (va_wsS RX9 477 yX9_newest wsX9_newest) := goodIn_app (goodIn_of _ (by decide +kernel)) ggX9_gotAt_X9_newest
theorem dX9_gotAt_0 : decode cX9_gotAt 0 = .ok (.aload_n 0, 1) := by decide +kernel
theorem dX9_gotAt_1 : decode cX9_gotAt 1 = .ok (.getfield 39, 3) := by decide +kernel
theorem dX9_gotAt_4 : decode cX9_gotAt 4 = .ok (.iload_n 1, 1) := by decide +kernel
theorem dX9_gotAt_5 : decode cX9_gotAt 5 = .ok (.invokestatic 477, 3) := by decide +kernel
theorem dX9_packets_0 : decode cX9_packets 0 = .ok (.iload_n 1, 1) := by decide +kernel
theorem dX9_packets_1 : decode cX9_packets 1 = .ok (.bipush 116, 2) := by decide +kernel
theorem dX9_packets_3 : decode cX9_packets 3 = .ok (.if_icmp .ne 11, 3) := by decide +kernel
theorem dX9_packets_6 : decode cX9_packets 6 = .ok (.aload_n 0, 1) := by decide +kernel
theorem dX9_packets_7 : decode cX9_packets 7 = .ok (.getfield 59, 3) := by decide +kernel
theorem dX9_packets_10 : decode cX9_packets 10 = .ok (.getfield 418, 3) := by decide +kernel
theorem dX9_packets_13 : decode cX9_packets 13 = .ok (.ireturn, 1) := by decide +kernel
theorem dX9_packets_14 : decode cX9_packets 14 = .ok (.iload_n 1, 1) := by decide +kernel
theorem dX9_packets_15 : decode cX9_packets 15 = .ok (.bipush 100, 2) := by decide +kernel
theorem dX9_packets_17 : decode cX9_packets 17 = .ok (.if_icmp .ne 11, 3) := by decide +kernel
theorem dX9_packets_20 : decode cX9_packets 20 = .ok (.aload_n 0, 1) := by decide +kernel
theorem dX9_packets_21 : decode cX9_packets 21 = .ok (.getfield 59, 3) := by decide +kernel
theorem dX9_packets_24 : decode cX9_packets 24 = .ok (.getfield 481, 3) := by decide +kernel
theorem dX9_packets_27 : decode cX9_packets 27 = .ok (.ireturn, 1) := by decide +kernel
theorem dX9_packets_28 : decode cX9_packets 28 = .ok (.iload_n 1, 1) := by decide +kernel
theorem dX9_packets_29 : decode cX9_packets 29 = .ok (.bipush 104, 2) := by decide +kernel
theorem dX9_packets_31 : decode cX9_packets 31 = .ok (.if_icmp .ne 11, 3) := by decide +kernel
theorem dX9_packets_34 : decode cX9_packets 34 = .ok (.aload_n 0, 1) := by decide +kernel
theorem dX9_packets_35 : decode cX9_packets 35 = .ok (.getfield 59, 3) := by decide +kernel
theorem dX9_packets_38 : decode cX9_packets 38 = .ok (.getfield 484, 3) := by decide +kernel
theorem dX9_packets_41 : decode cX9_packets 41 = .ok (.ireturn, 1) := by decide +kernel
theorem dX9_packets_42 : decode cX9_packets 42 = .ok (.new 92, 3) := by decide +kernel
theorem dX9_packets_45 : decode cX9_packets 45 = .ok (.dup, 1) := by decide +kernel
theorem dX9_packets_46 : decode cX9_packets 46 = .ok (.ldc_w 487, 3) := by decide +kernel
theorem dX9_packets_49 : decode cX9_packets 49 = .ok (.invokespecial 96, 3) := by decide +kernel
theorem dX9_packets_52 : decode cX9_packets 52 = .ok (.athrow, 1) := by decide +kernel
set_option maxRecDepth 20000 in
theorem ggX9_blame_X9_deviceAt : GoodIn wsX9_blame wsX9_deviceAt := goodIn_ca (goodIn_r _ [5, 6, 7, 8, 9, 30, 31, 32, 33, 34, 35, 36, 37, 38, 39, 40, 41, 42] (by decide +kernel) (by decide +kernel)) (goodIn_sub (fun _ h => List.mem_cons_of_mem _ (List.mem_append_right _ h)) (by decide +kernel))
set_option maxRecDepth 20000 in
theorem gX9_blame_X9_deviceAt : GoodIn wsX9_blame (wsV RX9 124 RX9 yX9_deviceAt wsX9_deviceAt) := goodIn_app (goodIn_of _ (by decide +kernel)) ggX9_blame_X9_deviceAt
theorem dX9_blame_0 : decode cX9_blame 0 = .ok (.aload_n 0, 1) := by decide +kernel
theorem dX9_blame_1 : decode cX9_blame 1 = .ok (.iload_n 1, 1) := by decide +kernel
theorem dX9_blame_2 : decode cX9_blame 2 = .ok (.invokevirtual 124, 3) := by decide +kernel
theorem dX9_blame_5 : decode cX9_blame 5 = .ok (.getfield 489, 3) := by decide +kernel
theorem dX9_blame_8 : decode cX9_blame 8 = .ok (.ireturn, 1) := by decide +kernel
set_option maxRecDepth 20000 in
theorem ggX9_causeOf_X9_openPipe : GoodIn wsX9_causeOf wsX9_openPipe := goodIn_ca (goodIn_r _ [7, 8, 9, 10, 11, 12, 6, 13, 14, 15, 16, 17, 18, 33, 34, 35, 36, 37, 38, 39, 40, 41, 42, 43, 44, 45, 19, 20, 21, 22, 23, 24, 25, 26, 27, 28, 29, 30, 31, 32] (by decide +kernel) (by decide +kernel)) (goodIn_sub (fun _ h => List.mem_cons_of_mem _ (List.mem_append_right _ h)) (by decide +kernel))
set_option maxRecDepth 20000 in
theorem gX9_causeOf_X9_openPipe : GoodIn wsX9_causeOf (wsV RX9 334 RX9 yX9_openPipe wsX9_openPipe) := goodIn_app (goodIn_of _ (by decide +kernel)) ggX9_causeOf_X9_openPipe
theorem dX9_causeOf_0 : decode cX9_causeOf 0 = .ok (.aload_n 0, 1) := by decide +kernel
theorem dX9_causeOf_1 : decode cX9_causeOf 1 = .ok (.iload_n 1, 1) := by decide +kernel
theorem dX9_causeOf_2 : decode cX9_causeOf 2 = .ok (.invokevirtual 334, 3) := by decide +kernel
theorem dX9_busyShare_0 : decode cX9_busyShare 0 = .ok (.aload_n 0, 1) := by decide +kernel
theorem dX9_busyShare_1 : decode cX9_busyShare 1 = .ok (.getfield 252, 3) := by decide +kernel
theorem dX9_busyShare_4 : decode cX9_busyShare 4 = .ok (.ifCond .ne 14, 3) := by decide +kernel
theorem dX9_busyShare_7 : decode cX9_busyShare 7 = .ok (.new 497, 3) := by decide +kernel
theorem dX9_busyShare_10 : decode cX9_busyShare 10 = .ok (.dup, 1) := by decide +kernel
theorem dX9_busyShare_11 : decode cX9_busyShare 11 = .ok (.ldc_w 444, 3) := by decide +kernel
theorem dX9_busyShare_14 : decode cX9_busyShare 14 = .ok (.invokespecial 499, 3) := by decide +kernel
theorem dX9_busyShare_17 : decode cX9_busyShare 17 = .ok (.athrow, 1) := by decide +kernel
theorem dX9_meanBytes_0 : decode cX9_meanBytes 0 = .ok (.aload_n 0, 1) := by decide +kernel
theorem dX9_meanBytes_1 : decode cX9_meanBytes 1 = .ok (.getfield 52, 3) := by decide +kernel
theorem dX9_meanBytes_4 : decode cX9_meanBytes 4 = .ok (.getfield 503, 3) := by decide +kernel
theorem dX9_meanBytes_7 : decode cX9_meanBytes 7 = .ok (.ifCond .ne 14, 3) := by decide +kernel
theorem dX9_meanBytes_10 : decode cX9_meanBytes 10 = .ok (.new 497, 3) := by decide +kernel
theorem dX9_meanBytes_13 : decode cX9_meanBytes 13 = .ok (.dup, 1) := by decide +kernel
theorem dX9_meanBytes_14 : decode cX9_meanBytes 14 = .ok (.ldc_w 506, 3) := by decide +kernel
theorem dX9_meanBytes_17 : decode cX9_meanBytes 17 = .ok (.invokespecial 499, 3) := by decide +kernel
theorem dX9_meanBytes_20 : decode cX9_meanBytes 20 = .ok (.athrow, 1) := by decide +kernel
theorem dX9_checksum_0 : decode cX9_checksum 0 = .ok (.ldc2_w 511, 3) := by decide +kernel
theorem dX9_checksum_3 : decode cX9_checksum 3 = .ok (.lstore_n 1, 1) := by decide +kernel
theorem dX9_checksum_4 : decode cX9_checksum 4 = .ok (.iconst 0, 1) := by decide +kernel
theorem dX9_checksum_5 : decode cX9_checksum 5 = .ok (.istore_n 3, 1) := by decide +kernel
theorem dX9_checksum_6 : decode cX9_checksum 6 = .ok (.iload_n 3, 1) := by decide +kernel
theorem dX9_checksum_7 : decode cX9_checksum 7 = .ok (.aload_n 0, 1) := by decide +kernel
theorem dX9_checksum_8 : decode cX9_checksum 8 = .ok (.getfield 81, 3) := by decide +kernel
theorem dX9_checksum_11 : decode cX9_checksum 11 = .ok (.if_icmp .ge 53, 3) := by decide +kernel
theorem dX9_checksum_14 : decode cX9_checksum 14 = .ok (.iload_n 3, 1) := by decide +kernel
theorem dX9_checksum_15 : decode cX9_checksum 15 = .ok (.bipush 16, 2) := by decide +kernel
theorem dX9_checksum_17 : decode cX9_checksum 17 = .ok (.if_icmp .ge 47, 3) := by decide +kernel
theorem dX9_checksum_20 : decode cX9_checksum 20 = .ok (.aload_n 0, 1) := by decide +kernel
theorem dX9_checksum_21 : decode cX9_checksum 21 = .ok (.getfield 11, 3) := by decide +kernel
theorem dX9_checksum_24 : decode cX9_checksum 24 = .ok (.iload_n 3, 1) := by decide +kernel
theorem dX9_checksum_25 : decode cX9_checksum 25 = .ok (.aaload, 1) := by decide +kernel
theorem dX9_checksum_26 : decode cX9_checksum 26 = .ok (.astore 4, 2) := by decide +kernel
theorem dX9_checksum_28 : decode cX9_checksum 28 = .ok (.ldc2_w 513, 3) := by decide +kernel
theorem dX9_checksum_31 : decode cX9_checksum 31 = .ok (.lload_n 1, 1) := by decide +kernel
theorem dX9_checksum_32 : decode cX9_checksum 32 = .ok (.lmul, 1) := by decide +kernel
theorem dX9_checksum_33 : decode cX9_checksum 33 = .ok (.aload 4, 2) := by decide +kernel
theorem dX9_checksum_35 : decode cX9_checksum 35 = .ok (.getfield 74, 3) := by decide +kernel
theorem dX9_checksum_38 : decode cX9_checksum 38 = .ok (.i2l, 1) := by decide +kernel
theorem dX9_checksum_39 : decode cX9_checksum 39 = .ok (.ladd, 1) := by decide +kernel
theorem dX9_checksum_40 : decode cX9_checksum 40 = .ok (.aload 4, 2) := by decide +kernel
theorem dX9_checksum_42 : decode cX9_checksum 42 = .ok (.getfield 196, 3) := by decide +kernel
theorem dX9_checksum_45 : decode cX9_checksum 45 = .ok (.i2l, 1) := by decide +kernel
theorem dX9_checksum_46 : decode cX9_checksum 46 = .ok (.ladd, 1) := by decide +kernel
theorem dX9_checksum_47 : decode cX9_checksum 47 = .ok (.bipush 100, 2) := by decide +kernel
theorem dX9_checksum_49 : decode cX9_checksum 49 = .ok (.aload 4, 2) := by decide +kernel
theorem dX9_checksum_51 : decode cX9_checksum 51 = .ok (.getfield 489, 3) := by decide +kernel
theorem dX9_checksum_54 : decode cX9_checksum 54 = .ok (.imul, 1) := by decide +kernel
theorem dX9_checksum_55 : decode cX9_checksum 55 = .ok (.i2l, 1) := by decide +kernel
theorem dX9_checksum_56 : decode cX9_checksum 56 = .ok (.ladd, 1) := by decide +kernel
theorem dX9_checksum_57 : decode cX9_checksum 57 = .ok (.lstore_n 1, 1) := by decide +kernel
theorem dX9_checksum_58 : decode cX9_checksum 58 = .ok (.iinc 3 1, 3) := by decide +kernel
theorem dX9_checksum_61 : decode cX9_checksum 61 = .ok (.goto (-55), 3) := by decide +kernel
theorem dX9_checksum_64 : decode cX9_checksum 64 = .ok (.iconst 0, 1) := by decide +kernel
theorem dX9_checksum_65 : decode cX9_checksum 65 = .ok (.istore_n 3, 1) := by decide +kernel
theorem dX9_checksum_66 : decode cX9_checksum 66 = .ok (.iload_n 3, 1) := by decide +kernel
theorem dX9_checksum_67 : decode cX9_checksum 67 = .ok (.aload_n 0, 1) := by decide +kernel
theorem dX9_checksum_68 : decode cX9_checksum 68 = .ok (.getfield 39, 3) := by decide +kernel
theorem dX9_checksum_71 : decode cX9_checksum 71 = .ok (.getfield 266, 3) := by decide +kernel
theorem dX9_checksum_74 : decode cX9_checksum 74 = .ok (.if_icmp .ge 25, 3) := by decide +kernel
theorem dX9_checksum_99 : decode cX9_checksum 99 = .ok (.lload_n 1, 1) := by decide +kernel
theorem dX9_checksum_100 : decode cX9_checksum 100 = .ok (.lreturn, 1) := by decide +kernel
set_option maxRecDepth 20000 in
theorem ggX9_isSound_X9_areReservesRight : GoodIn wsX9_isSound wsX9_areReservesRight := goodIn_ca (goodIn_r _ [5, 6, 7, 8, 9, 4, 10, 11, 12, 13, 14, 15, 16, 17, 18, 19, 20, 21, 22, 23, 37, 38, 39, 40, 41, 42, 43, 44, 45, 46, 47, 48, 49, 50, 51, 52, 53, 54, 55, 56, 57, 58, 59, 60, 61, 62, 63, 64, 65, 66, 67, 68, 69, 70, 71, 72, 73, 74, 75, 76, 77, 78, 79, 80, 81, 82, 83, 84, 85, 86, 87, 88, 89, 90, 91, 92, 93, 94, 95, 96, 97] (by decide +kernel) (by decide +kernel)) (goodIn_sub (fun _ h => List.mem_cons_of_mem _ (List.mem_append_right _ h)) (by decide +kernel))
set_option maxRecDepth 20000 in
theorem gX9_isSound_X9_areReservesRight : GoodIn wsX9_isSound (wsV RX9 515 RX9 yX9_areReservesRight wsX9_areReservesRight) := goodIn_app (goodIn_of _ (by decide +kernel)) ggX9_isSound_X9_areReservesRight
set_option maxRecDepth 20000 in
theorem ggX9_isSound_X9_areAddressesUnlike : GoodIn wsX9_isSound wsX9_areAddressesUnlike := goodIn_r _ [27, 28, 37, 38, 39, 40, 41, 42, 43, 44, 45, 46, 47, 48, 49, 78, 79, 80, 81, 82, 83, 84, 85, 86, 87, 88, 89, 90, 91, 92, 93, 94, 95, 96, 97] (by decide +kernel) (by decide +kernel)
set_option maxRecDepth 20000 in
theorem gX9_isSound_X9_areAddressesUnlike : GoodIn wsX9_isSound (wsV RX9 519 RX9 yX9_areAddressesUnlike wsX9_areAddressesUnlike) := goodIn_app (goodIn_of _ (by decide +kernel)) ggX9_isSound_X9_areAddressesUnlike
set_option maxRecDepth 20000 in
theorem ggX9_isSound_X9_areHubsPlugged : GoodIn wsX9_isSound wsX9_areHubsPlugged := goodIn_r _ [32, 28, 37, 38, 39, 40, 41, 42, 43, 44, 45, 46, 47, 48, 49, 78, 79, 80, 81, 82, 83, 84, 85, 86, 87, 88, 89, 90, 91, 92, 93, 94, 95, 96, 97] (by decide +kernel) (by decide +kernel)
set_option maxRecDepth 20000 in
theorem gX9_isSound_X9_areHubsPlugged : GoodIn wsX9_isSound (wsV RX9 522 RX9 yX9_areHubsPlugged wsX9_areHubsPlugged) := goodIn_app (goodIn_of _ (by decide +kernel)) ggX9_isSound_X9_areHubsPlugged
set_option maxRecDepth 20000 in
theorem ggX9_isSound_X9_isNothingInvented : GoodIn wsX9_isSound wsX9_isNothingInvented := goodIn_r _ [36, 28, 37, 38, 39, 40, 41, 42, 43, 44, 45, 46, 47, 48, 49, 78, 79, 80, 81, 82, 83, 84, 85, 86, 87, 88, 89, 90, 91, 92, 93, 94, 95, 96, 97, 69, 70, 71, 72, 73, 74, 75, 76, 77, 98, 99, 100, 101] (by decide +kernel) (by decide +kernel)
set_option maxRecDepth 20000 in
theorem gX9_isSound_X9_isNothingInvented : GoodIn wsX9_isSound (wsV RX9 525 RX9 yX9_isNothingInvented wsX9_isNothingInvented) := goodIn_app (goodIn_of _ (by decide +kernel)) ggX9_isSound_X9_isNothingInvented
theorem dX9_isSound_0 : decode cX9_isSound 0 = .ok (.aload_n 0, 1) := by decide +kernel
theorem dX9_isSound_1 : decode cX9_isSound 1 = .ok (.invokevirtual 515, 3) := by decide +kernel
theorem dX9_isSound_4 : decode cX9_isSound 4 = .ok (.ifCond .eq 28, 3) := by decide +kernel
theorem dX9_isSound_7 : decode cX9_isSound 7 = .ok (.aload_n 0, 1) := by decide +kernel
theorem dX9_isSound_8 : decode cX9_isSound 8 = .ok (.invokevirtual 519, 3) := by decide +kernel
theorem dX9_isSound_11 : decode cX9_isSound 11 = .ok (.ifCond .eq 21, 3) := by decide +kernel
theorem dX9_isSound_14 : decode cX9_isSound 14 = .ok (.aload_n 0, 1) := by decide +kernel
theorem dX9_isSound_15 : decode cX9_isSound 15 = .ok (.invokevirtual 522, 3) := by decide +kernel
theorem dX9_isSound_18 : decode cX9_isSound 18 = .ok (.ifCond .eq 14, 3) := by decide +kernel
theorem dX9_isSound_21 : decode cX9_isSound 21 = .ok (.aload_n 0, 1) := by decide +kernel
theorem dX9_isSound_22 : decode cX9_isSound 22 = .ok (.invokevirtual 525, 3) := by decide +kernel
theorem dX9_isSound_25 : decode cX9_isSound 25 = .ok (.ifCond .eq 7, 3) := by decide +kernel
theorem dX9_isSound_28 : decode cX9_isSound 28 = .ok (.iconst 1, 1) := by decide +kernel
theorem dX9_isSound_29 : decode cX9_isSound 29 = .ok (.goto 4, 3) := by decide +kernel
theorem dX9_isSound_33 : decode cX9_isSound 33 = .ok (.ireturn, 1) := by decide +kernel
theorem dX9_isWithin_0 : decode cX9_isWithin 0 = .ok (.iload_n 0, 1) := by decide +kernel
theorem dX9_isWithin_1 : decode cX9_isWithin 1 = .ok (.iload_n 1, 1) := by decide +kernel
theorem dX9_isWithin_2 : decode cX9_isWithin 2 = .ok (.if_icmp .lt 12, 3) := by decide +kernel
theorem dX9_isWithin_5 : decode cX9_isWithin 5 = .ok (.iload_n 0, 1) := by decide +kernel
theorem dX9_isWithin_6 : decode cX9_isWithin 6 = .ok (.iload_n 2, 1) := by decide +kernel
theorem dX9_isWithin_7 : decode cX9_isWithin 7 = .ok (.if_icmp .gt 7, 3) := by decide +kernel
theorem dX9_isWithin_10 : decode cX9_isWithin 10 = .ok (.iconst 1, 1) := by decide +kernel
theorem dX9_isWithin_11 : decode cX9_isWithin 11 = .ok (.goto 4, 3) := by decide +kernel
theorem dX9_isWithin_14 : decode cX9_isWithin 14 = .ok (.iconst 0, 1) := by decide +kernel
theorem dX9_isWithin_15 : decode cX9_isWithin 15 = .ok (.ireturn, 1) := by decide +kernel
theorem dX9_deviceAt_0 : decode cX9_deviceAt 0 = .ok (.iload_n 1, 1) := by decide +kernel
theorem dX9_deviceAt_1 : decode cX9_deviceAt 1 = .ok (.ifCond .lt 17, 3) := by decide +kernel
theorem dX9_deviceAt_4 : decode cX9_deviceAt 4 = .ok (.iload_n 1, 1) := by decide +kernel
theorem dX9_deviceAt_5 : decode cX9_deviceAt 5 = .ok (.aload_n 0, 1) := by decide +kernel
theorem dX9_deviceAt_6 : decode cX9_deviceAt 6 = .ok (.getfield 81, 3) := by decide +kernel
theorem dX9_deviceAt_9 : decode cX9_deviceAt 9 = .ok (.if_icmp .ge 9, 3) := by decide +kernel
theorem dX9_deviceAt_12 : decode cX9_deviceAt 12 = .ok (.iload_n 1, 1) := by decide +kernel
theorem dX9_deviceAt_13 : decode cX9_deviceAt 13 = .ok (.bipush 16, 2) := by decide +kernel
theorem dX9_deviceAt_15 : decode cX9_deviceAt 15 = .ok (.if_icmp .lt 14, 3) := by decide +kernel
theorem dX9_deviceAt_18 : decode cX9_deviceAt 18 = .ok (.new 154, 3) := by decide +kernel
theorem dX9_deviceAt_21 : decode cX9_deviceAt 21 = .ok (.dup, 1) := by decide +kernel
theorem dX9_deviceAt_22 : decode cX9_deviceAt 22 = .ok (.ldc_w 528, 3) := by decide +kernel
theorem dX9_deviceAt_25 : decode cX9_deviceAt 25 = .ok (.invokespecial 158, 3) := by decide +kernel
theorem dX9_deviceAt_28 : decode cX9_deviceAt 28 = .ok (.athrow, 1) := by decide +kernel
theorem dX9_deviceAt_29 : decode cX9_deviceAt 29 = .ok (.aload_n 0, 1) := by decide +kernel
theorem dX9_deviceAt_30 : decode cX9_deviceAt 30 = .ok (.getfield 11, 3) := by decide +kernel
theorem dX9_deviceAt_33 : decode cX9_deviceAt 33 = .ok (.iload_n 1, 1) := by decide +kernel
theorem dX9_deviceAt_34 : decode cX9_deviceAt 34 = .ok (.aaload, 1) := by decide +kernel
theorem dX9_deviceAt_35 : decode cX9_deviceAt 35 = .ok (.areturn, 1) := by decide +kernel
set_option maxRecDepth 20000 in
theorem ggX9_deviceBelowHost_X9_deviceAt : GoodIn wsX9_deviceBelowHost wsX9_deviceAt := goodIn_ca (goodIn_r _ [7, 1, 2, 8, 9, 10, 11, 12, 13, 14, 15, 16, 17, 18, 19, 20, 21, 22] (by decide +kernel) (by decide +kernel)) (goodIn_sub (fun _ h => List.mem_cons_of_mem _ (List.mem_append_right _ h)) (by decide +kernel))
set_option maxRecDepth 20000 in
theorem gX9_deviceBelowHost_X9_deviceAt : GoodIn wsX9_deviceBelowHost (wsV RX9 124 RX9 yX9_deviceAt wsX9_deviceAt) := goodIn_app (goodIn_of _ (by decide +kernel)) ggX9_deviceBelowHost_X9_deviceAt
theorem dX9_deviceBelowHost_0 : decode cX9_deviceBelowHost 0 = .ok (.iload_n 1, 1) := by decide +kernel
theorem dX9_deviceBelowHost_1 : decode cX9_deviceBelowHost 1 = .ok (.ifCond .ne 14, 3) := by decide +kernel
theorem dX9_deviceBelowHost_4 : decode cX9_deviceBelowHost 4 = .ok (.new 154, 3) := by decide +kernel
theorem dX9_deviceBelowHost_7 : decode cX9_deviceBelowHost 7 = .ok (.dup, 1) := by decide +kernel
theorem dX9_deviceBelowHost_8 : decode cX9_deviceBelowHost 8 = .ok (.ldc_w 530, 3) := by decide +kernel
theorem dX9_deviceBelowHost_11 : decode cX9_deviceBelowHost 11 = .ok (.invokespecial 158, 3) := by decide +kernel
theorem dX9_deviceBelowHost_14 : decode cX9_deviceBelowHost 14 = .ok (.athrow, 1) := by decide +kernel
theorem dX9_deviceBelowHost_15 : decode cX9_deviceBelowHost 15 = .ok (.aload_n 0, 1) := by decide +kernel
theorem dX9_deviceBelowHost_16 : decode cX9_deviceBelowHost 16 = .ok (.iload_n 1, 1) := by decide +kernel
theorem dX9_deviceBelowHost_17 : decode cX9_deviceBelowHost 17 = .ok (.invokevirtual 124, 3) := by decide +kernel
set_option maxRecDepth 20000 in
theorem ggX9_endpointAt_X9_isWithin : GoodIn wsX9_endpointAt wsX9_isWithin := goodIn_r _ [6] (by decide +kernel) (by decide +kernel)
set_option maxRecDepth 20000 in
theorem gX9_endpointAt_X9_isWithin : GoodIn wsX9_endpointAt (va_wsS RX9 88 yX9_isWithin wsX9_isWithin) := goodIn_app (goodIn_of _ (by decide +kernel)) ggX9_endpointAt_X9_isWithin
theorem dX9_endpointAt_0 : decode cX9_endpointAt 0 = .ok (.iload_n 1, 1) := by decide +kernel
theorem dX9_endpointAt_1 : decode cX9_endpointAt 1 = .ok (.iconst 1, 1) := by decide +kernel
theorem dX9_endpointAt_2 : decode cX9_endpointAt 2 = .ok (.iconst 3, 1) := by decide +kernel
theorem dX9_endpointAt_3 : decode cX9_endpointAt 3 = .ok (.invokestatic 88, 3) := by decide +kernel
theorem dX9_endpointAt_6 : decode cX9_endpointAt 6 = .ok (.ifCond .eq 17, 3) := by decide +kernel
theorem dX9_endpointAt_9 : decode cX9_endpointAt 9 = .ok (.aload_n 0, 1) := by decide +kernel
theorem dX9_endpointAt_10 : decode cX9_endpointAt 10 = .ok (.getfield 130, 3) := by decide +kernel
theorem dX9_endpointAt_13 : decode cX9_endpointAt 13 = .ok (.iload_n 1, 1) := by decide +kernel
theorem dX9_endpointAt_14 : decode cX9_endpointAt 14 = .ok (.iconst 1, 1) := by decide +kernel
theorem dX9_endpointAt_15 : decode cX9_endpointAt 15 = .ok (.isub, 1) := by decide +kernel
theorem dX9_endpointAt_16 : decode cX9_endpointAt 16 = .ok (.aaload, 1) := by decide +kernel
theorem dX9_endpointAt_17 : decode cX9_endpointAt 17 = .ok (.getfield 134, 3) := by decide +kernel
theorem dX9_endpointAt_20 : decode cX9_endpointAt 20 = .ok (.ifCond .ne 14, 3) := by decide +kernel
theorem dX9_endpointAt_23 : decode cX9_endpointAt 23 = .ok (.new 154, 3) := by decide +kernel
theorem dX9_endpointAt_26 : decode cX9_endpointAt 26 = .ok (.dup, 1) := by decide +kernel
theorem dX9_endpointAt_27 : decode cX9_endpointAt 27 = .ok (.ldc_w 532, 3) := by decide +kernel
theorem dX9_endpointAt_30 : decode cX9_endpointAt 30 = .ok (.invokespecial 158, 3) := by decide +kernel
theorem dX9_endpointAt_33 : decode cX9_endpointAt 33 = .ok (.athrow, 1) := by decide +kernel
set_option maxRecDepth 20000 in
theorem ggX9_endpointOut_X9_deviceAt : GoodIn wsX9_endpointOut wsX9_deviceAt := goodIn_ca (goodIn_r _ [7, 8, 9, 10, 11, 27, 28, 29, 30, 31, 32, 33, 34, 35, 36, 37, 38, 39] (by decide +kernel) (by decide +kernel)) (goodIn_sub (fun _ h => List.mem_cons_of_mem _ (List.mem_append_right _ h)) (by decide +kernel))
set_option maxRecDepth 20000 in
theorem gX9_endpointOut_X9_deviceAt : GoodIn wsX9_endpointOut (wsV RX9 124 RX9 yX9_deviceAt wsX9_deviceAt) := goodIn_app (goodIn_of _ (by decide +kernel)) ggX9_endpointOut_X9_deviceAt
set_option maxRecDepth 20000 in
theorem ggX9_endpointOut_X9_endpointAt : GoodIn wsX9_endpointOut wsX9_endpointAt := goodIn_ca (goodIn_r _ [14, 8, 9, 15, 16, 6, 17, 40, 41, 42, 43, 44, 45, 46, 47, 48, 49, 50, 51, 52, 53, 54, 55, 56, 57, 58, 59, 18, 19, 20, 21, 22, 23, 24, 25, 26] (by decide +kernel) (by decide +kernel)) (goodIn_sub (fun _ h => List.mem_cons_of_mem _ (List.mem_append_right _ h)) (by decide +kernel))
set_option maxRecDepth 20000 in
theorem gX9_endpointOut_X9_endpointAt : GoodIn wsX9_endpointOut (va_wsS RX9 283 yX9_endpointAt wsX9_endpointAt) := goodIn_app (goodIn_of _ (by decide +kernel)) ggX9_endpointOut_X9_endpointAt
theorem dX9_endpointOut_0 : decode cX9_endpointOut 0 = .ok (.aload_n 0, 1) := by decide +kernel
theorem dX9_endpointOut_1 : decode cX9_endpointOut 1 = .ok (.iload_n 1, 1) := by decide +kernel
theorem dX9_endpointOut_2 : decode cX9_endpointOut 2 = .ok (.invokevirtual 124, 3) := by decide +kernel
theorem dX9_endpointOut_5 : decode cX9_endpointOut 5 = .ok (.iload_n 2, 1) := by decide +kernel
theorem dX9_endpointOut_6 : decode cX9_endpointOut 6 = .ok (.invokestatic 283, 3) := by decide +kernel
set_option maxRecDepth 20000 in
theorem ggX9_openPipe_X9_isWithin : GoodIn wsX9_openPipe wsX9_isWithin := goodIn_r _ [7] (by decide +kernel) (by decide +kernel)
set_option maxRecDepth 20000 in
theorem gX9_openPipe_X9_isWithin : GoodIn wsX9_openPipe (va_wsS RX9 88 yX9_isWithin wsX9_isWithin) := goodIn_app (goodIn_of _ (by decide +kernel)) ggX9_openPipe_X9_isWithin
set_option maxRecDepth 20000 in
theorem ggX9_openPipe_X5_isOpen : GoodIn wsX9_openPipe wsX5_isOpen := goodIn_r _ [11, 12, 26, 27, 28, 29, 30, 31, 32, 33, 34, 35, 36, 37, 38, 39] (by decide +kernel) (by decide +kernel)
set_option maxRecDepth 20000 in
theorem gX9_openPipe_X5_isOpen_n536 : GoodIn wsX9_openPipe (wsX5_isOpen) := ggX9_openPipe_X5_isOpen
theorem dX9_openPipe_0 : decode cX9_openPipe 0 = .ok (.iload_n 1, 1) := by decide +kernel
theorem dX9_openPipe_1 : decode cX9_openPipe 1 = .ok (.iconst 0, 1) := by decide +kernel
theorem dX9_openPipe_2 : decode cX9_openPipe 2 = .ok (.bipush 11, 2) := by decide +kernel
theorem dX9_openPipe_4 : decode cX9_openPipe 4 = .ok (.invokestatic 88, 3) := by decide +kernel
theorem dX9_openPipe_7 : decode cX9_openPipe 7 = .ok (.ifCond .eq 15, 3) := by decide +kernel
theorem dX9_openPipe_10 : decode cX9_openPipe 10 = .ok (.aload_n 0, 1) := by decide +kernel
theorem dX9_openPipe_11 : decode cX9_openPipe 11 = .ok (.getfield 24, 3) := by decide +kernel
theorem dX9_openPipe_14 : decode cX9_openPipe 14 = .ok (.iload_n 1, 1) := by decide +kernel
theorem dX9_openPipe_15 : decode cX9_openPipe 15 = .ok (.aaload, 1) := by decide +kernel
theorem dX9_openPipe_16 : decode cX9_openPipe 16 = .ok (.invokevirtual 536, 3) := by decide +kernel
theorem dX9_openPipe_19 : decode cX9_openPipe 19 = .ok (.ifCond .ne 14, 3) := by decide +kernel
theorem dX9_openPipe_22 : decode cX9_openPipe 22 = .ok (.new 203, 3) := by decide +kernel
theorem dX9_openPipe_25 : decode cX9_openPipe 25 = .ok (.dup, 1) := by decide +kernel
theorem dX9_openPipe_26 : decode cX9_openPipe 26 = .ok (.ldc_w 539, 3) := by decide +kernel
theorem dX9_openPipe_29 : decode cX9_openPipe 29 = .ok (.invokespecial 207, 3) := by decide +kernel
theorem dX9_openPipe_32 : decode cX9_openPipe 32 = .ok (.athrow, 1) := by decide +kernel
theorem dX9_newest_0 : decode cX9_newest 0 = .ok (.iload_n 1, 1) := by decide +kernel
theorem dX9_newest_1 : decode cX9_newest 1 = .ok (.ifCond .lt 11, 3) := by decide +kernel
theorem dX9_newest_4 : decode cX9_newest 4 = .ok (.iload_n 1, 1) := by decide +kernel
theorem dX9_newest_5 : decode cX9_newest 5 = .ok (.aload_n 0, 1) := by decide +kernel
theorem dX9_newest_6 : decode cX9_newest 6 = .ok (.getfield 266, 3) := by decide +kernel
theorem dX9_newest_9 : decode cX9_newest 9 = .ok (.if_icmp .lt 14, 3) := by decide +kernel
theorem dX9_newest_12 : decode cX9_newest 12 = .ok (.new 203, 3) := by decide +kernel
theorem dX9_newest_15 : decode cX9_newest 15 = .ok (.dup, 1) := by decide +kernel
theorem dX9_newest_16 : decode cX9_newest 16 = .ok (.ldc_w 541, 3) := by decide +kernel
theorem dX9_newest_19 : decode cX9_newest 19 = .ok (.invokespecial 207, 3) := by decide +kernel
theorem dX9_newest_22 : decode cX9_newest 22 = .ok (.athrow, 1) := by decide +kernel
theorem dX9_isSpeed_0 : decode cX9_isSpeed 0 = .ok (.iload_n 0, 1) := by decide +kernel
theorem dX9_isSpeed_1 : decode cX9_isSpeed 1 = .ok (.bipush 108, 2) := by decide +kernel
theorem dX9_isSpeed_3 : decode cX9_isSpeed 3 = .ok (.if_icmp .eq 15, 3) := by decide +kernel
theorem dX9_isSpeed_6 : decode cX9_isSpeed 6 = .ok (.iload_n 0, 1) := by decide +kernel
theorem dX9_isSpeed_7 : decode cX9_isSpeed 7 = .ok (.bipush 102, 2) := by decide +kernel
theorem dX9_isSpeed_9 : decode cX9_isSpeed 9 = .ok (.if_icmp .eq 9, 3) := by decide +kernel
theorem dX9_isSpeed_12 : decode cX9_isSpeed 12 = .ok (.iload_n 0, 1) := by decide +kernel
theorem dX9_isSpeed_13 : decode cX9_isSpeed 13 = .ok (.bipush 104, 2) := by decide +kernel
theorem dX9_isSpeed_15 : decode cX9_isSpeed 15 = .ok (.if_icmp .ne 7, 3) := by decide +kernel
theorem dX9_isSpeed_18 : decode cX9_isSpeed 18 = .ok (.iconst 1, 1) := by decide +kernel
theorem dX9_isSpeed_19 : decode cX9_isSpeed 19 = .ok (.goto 4, 3) := by decide +kernel
theorem dX9_isSpeed_22 : decode cX9_isSpeed 22 = .ok (.iconst 0, 1) := by decide +kernel
theorem dX9_isSpeed_23 : decode cX9_isSpeed 23 = .ok (.ireturn, 1) := by decide +kernel
theorem dX9_firstNewDevice_0 : decode cX9_firstNewDevice 0 = .ok (.aconst_null, 1) := by decide +kernel
theorem dX9_firstNewDevice_1 : decode cX9_firstNewDevice 1 = .ok (.astore_n 1, 1) := by decide +kernel
theorem dX9_firstNewDevice_2 : decode cX9_firstNewDevice 2 = .ok (.iconst 0, 1) := by decide +kernel
theorem dX9_firstNewDevice_3 : decode cX9_firstNewDevice 3 = .ok (.istore_n 2, 1) := by decide +kernel
theorem dX9_firstNewDevice_4 : decode cX9_firstNewDevice 4 = .ok (.iload_n 2, 1) := by decide +kernel
theorem dX9_firstNewDevice_5 : decode cX9_firstNewDevice 5 = .ok (.bipush 16, 2) := by decide +kernel
theorem dX9_firstNewDevice_7 : decode cX9_firstNewDevice 7 = .ok (.if_icmp .ge 73, 3) := by decide +kernel
theorem dX9_firstNewDevice_10 : decode cX9_firstNewDevice 10 = .ok (.aload_n 0, 1) := by decide +kernel
theorem dX9_firstNewDevice_11 : decode cX9_firstNewDevice 11 = .ok (.getfield 11, 3) := by decide +kernel
theorem dX9_firstNewDevice_14 : decode cX9_firstNewDevice 14 = .ok (.iload_n 2, 1) := by decide +kernel
theorem dX9_firstNewDevice_15 : decode cX9_firstNewDevice 15 = .ok (.aaload, 1) := by decide +kernel
theorem dX9_firstNewDevice_16 : decode cX9_firstNewDevice 16 = .ok (.astore_n 3, 1) := by decide +kernel
theorem dX9_firstNewDevice_17 : decode cX9_firstNewDevice 17 = .ok (.aload_n 3, 1) := by decide +kernel
theorem dX9_firstNewDevice_18 : decode cX9_firstNewDevice 18 = .ok (.getfield 74, 3) := by decide +kernel
theorem dX9_firstNewDevice_21 : decode cX9_firstNewDevice 21 = .ok (.bipush 110, 2) := by decide +kernel
theorem dX9_firstNewDevice_23 : decode cX9_firstNewDevice 23 = .ok (.if_icmp .ne 26, 3) := by decide +kernel
theorem dX9_firstNewDevice_49 : decode cX9_firstNewDevice 49 = .ok (.iconst 0, 1) := by decide +kernel
theorem dX9_firstNewDevice_50 : decode cX9_firstNewDevice 50 = .ok (.istore 4, 2) := by decide +kernel
theorem dX9_firstNewDevice_52 : decode cX9_firstNewDevice 52 = .ok (.iload 4, 2) := by decide +kernel
theorem dX9_firstNewDevice_54 : decode cX9_firstNewDevice 54 = .ok (.ifCond .eq 20, 3) := by decide +kernel
theorem dX9_firstNewDevice_74 : decode cX9_firstNewDevice 74 = .ok (.iinc 2 1, 3) := by decide +kernel
theorem dX9_firstNewDevice_77 : decode cX9_firstNewDevice 77 = .ok (.goto (-73), 3) := by decide +kernel
theorem dX9_firstNewDevice_80 : decode cX9_firstNewDevice 80 = .ok (.aload_n 1, 1) := by decide +kernel
theorem dX9_firstNewDevice_81 : decode cX9_firstNewDevice 81 = .ok (.areturn, 1) := by decide +kernel
theorem dX9_shutGreedyDevices_0 : decode cX9_shutGreedyDevices 0 = .ok (.iconst 1, 1) := by decide +kernel
theorem dX9_shutGreedyDevices_1 : decode cX9_shutGreedyDevices 1 = .ok (.istore_n 1, 1) := by decide +kernel
theorem dX9_shutGreedyDevices_2 : decode cX9_shutGreedyDevices 2 = .ok (.iload_n 1, 1) := by decide +kernel
theorem dX9_shutGreedyDevices_3 : decode cX9_shutGreedyDevices 3 = .ok (.bipush 16, 2) := by decide +kernel
theorem dX9_shutGreedyDevices_5 : decode cX9_shutGreedyDevices 5 = .ok (.if_icmp .ge 43, 3) := by decide +kernel
theorem dX9_shutGreedyDevices_8 : decode cX9_shutGreedyDevices 8 = .ok (.aload_n 0, 1) := by decide +kernel
theorem dX9_shutGreedyDevices_9 : decode cX9_shutGreedyDevices 9 = .ok (.getfield 11, 3) := by decide +kernel
theorem dX9_shutGreedyDevices_12 : decode cX9_shutGreedyDevices 12 = .ok (.iload_n 1, 1) := by decide +kernel
theorem dX9_shutGreedyDevices_13 : decode cX9_shutGreedyDevices 13 = .ok (.aaload, 1) := by decide +kernel
theorem dX9_shutGreedyDevices_14 : decode cX9_shutGreedyDevices 14 = .ok (.astore_n 2, 1) := by decide +kernel
theorem dX9_shutGreedyDevices_15 : decode cX9_shutGreedyDevices 15 = .ok (.aload_n 2, 1) := by decide +kernel
theorem dX9_shutGreedyDevices_16 : decode cX9_shutGreedyDevices 16 = .ok (.getfield 74, 3) := by decide +kernel
theorem dX9_shutGreedyDevices_19 : decode cX9_shutGreedyDevices 19 = .ok (.bipush 99, 2) := by decide +kernel
theorem dX9_shutGreedyDevices_21 : decode cX9_shutGreedyDevices 21 = .ok (.if_icmp .ne 21, 3) := by decide +kernel
theorem dX9_shutGreedyDevices_42 : decode cX9_shutGreedyDevices 42 = .ok (.iinc 1 1, 3) := by decide +kernel
theorem dX9_shutGreedyDevices_45 : decode cX9_shutGreedyDevices 45 = .ok (.goto (-43), 3) := by decide +kernel
theorem dX9_shutGreedyDevices_48 : decode cX9_shutGreedyDevices 48 = .ok (.return_, 1) := by decide +kernel
theorem dX9_checkBit_0 : decode cX9_checkBit 0 = .ok (.iload_n 0, 1) := by decide +kernel
theorem dX9_checkBit_1 : decode cX9_checkBit 1 = .ok (.iload_n 2, 1) := by decide +kernel
theorem dX9_checkBit_2 : decode cX9_checkBit 2 = .ok (.ishr, 1) := by decide +kernel
theorem dX9_checkBit_3 : decode cX9_checkBit 3 = .ok (.iconst 1, 1) := by decide +kernel
theorem dX9_checkBit_4 : decode cX9_checkBit 4 = .ok (.iand, 1) := by decide +kernel
theorem dX9_checkBit_5 : decode cX9_checkBit 5 = .ok (.istore 4, 2) := by decide +kernel
theorem dX9_checkBit_7 : decode cX9_checkBit 7 = .ok (.iload_n 0, 1) := by decide +kernel
theorem dX9_checkBit_8 : decode cX9_checkBit 8 = .ok (.iconst 1, 1) := by decide +kernel
theorem dX9_checkBit_9 : decode cX9_checkBit 9 = .ok (.ishl, 1) := by decide +kernel
theorem dX9_checkBit_10 : decode cX9_checkBit 10 = .ok (.iconst 2, 1) := by decide +kernel
theorem dX9_checkBit_11 : decode cX9_checkBit 11 = .ok (.iload_n 2, 1) := by decide +kernel
theorem dX9_checkBit_12 : decode cX9_checkBit 12 = .ok (.ishl, 1) := by decide +kernel
theorem dX9_checkBit_13 : decode cX9_checkBit 13 = .ok (.iconst 1, 1) := by decide +kernel
theorem dX9_checkBit_14 : decode cX9_checkBit 14 = .ok (.isub, 1) := by decide +kernel
theorem dX9_checkBit_15 : decode cX9_checkBit 15 = .ok (.iand, 1) := by decide +kernel
theorem dX9_checkBit_16 : decode cX9_checkBit 16 = .ok (.istore 5, 2) := by decide +kernel
theorem dX9_checkBit_18 : decode cX9_checkBit 18 = .ok (.iload 4, 2) := by decide +kernel
theorem dX9_checkBit_20 : decode cX9_checkBit 20 = .ok (.iload_n 1, 1) := by decide +kernel
theorem dX9_checkBit_21 : decode cX9_checkBit 21 = .ok (.if_icmp .ne 8, 3) := by decide +kernel
theorem dX9_checkBit_24 : decode cX9_checkBit 24 = .ok (.iload 5, 2) := by decide +kernel
theorem dX9_checkBit_26 : decode cX9_checkBit 26 = .ok (.goto 7, 3) := by decide +kernel
theorem dX9_checkBit_29 : decode cX9_checkBit 29 = .ok (.iload 5, 2) := by decide +kernel
theorem dX9_checkBit_31 : decode cX9_checkBit 31 = .ok (.iload_n 3, 1) := by decide +kernel
theorem dX9_checkBit_32 : decode cX9_checkBit 32 = .ok (.ixor, 1) := by decide +kernel
theorem dX9_checkBit_33 : decode cX9_checkBit 33 = .ok (.ireturn, 1) := by decide +kernel
