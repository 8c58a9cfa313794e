set_option maxRecDepth 20000 in
theorem ggJx4a65c_iterator_32c93_Jx35411_init_45d68 : GoodIn wsJx4a65c_iterator_32c93 wsJx35411_init_45d68 := goodIn_r _ [6, 7, 8, 9, 10, 11, 12, 13, 14, 15, 16, 17, 18, 19, 20, 21] (by decide +kernel) (by decide +kernel)
set_option maxRecDepth 20000 in
theorem gJx4a65c_iterator_32c93_Jx35411_init_45d68 : GoodIn wsJx4a65c_iterator_32c93 (wsJx35411_init_45d68) := ggJx4a65c_iterator_32c93_Jx35411_init_45d68
theorem dJx4a65c_iterator_32c93_0 : decode cJx4a65c_iterator_32c93 0 = .ok (.new 267, 3) := by decide +kernel
theorem dJx4a65c_iterator_32c93_3 : decode cJx4a65c_iterator_32c93 3 = .ok (.dup, 1) := by decide +kernel
theorem dJx4a65c_iterator_32c93_4 : decode cJx4a65c_iterator_32c93 4 = .ok (.aload_n 0, 1) := by decide +kernel
theorem dJx4a65c_iterator_32c93_5 : decode cJx4a65c_iterator_32c93 5 = .ok (.invokespecial 269, 3) := by decide +kernel
theorem dJx4a65c_iterator_32c93_8 : decode cJx4a65c_iterator_32c93 8 = .ok (.areturn, 1) := by decide +kernel
set_option maxRecDepth 20000 in
theorem ggJ15_checkIndex_7cf53_J3_checkIndex_8e157 : GoodIn wsJ15_checkIndex_7cf53 wsJ3_checkIndex_8e157 := goodIn_r _ [4] (by decide +kernel) (by decide +kernel)
set_option maxRecDepth 20000 in
theorem gJ15_checkIndex_7cf53_J3_checkIndex_8e157 : GoodIn wsJ15_checkIndex_7cf53 (va_wsS RJ15 105 yJ3_checkIndex_8e157 wsJ3_checkIndex_8e157) := goodIn_app (goodIn_of _ (by decide +kernel)) ggJ15_checkIndex_7cf53_J3_checkIndex_8e157
theorem dJ15_checkIndex_7cf53_0 : decode cJ15_checkIndex_7cf53 0 = .ok (.iload_n 0, 1) := by decide +kernel
theorem dJ15_checkIndex_7cf53_1 : decode cJ15_checkIndex_7cf53 1 = .ok (.iload_n 1, 1) := by decide +kernel
theorem dJ15_checkIndex_7cf53_2 : decode cJ15_checkIndex_7cf53 2 = .ok (.aconst_null, 1) := by decide +kernel
theorem dJ15_checkIndex_7cf53_3 : decode cJ15_checkIndex_7cf53 3 = .ok (.invokestatic 105, 3) := by decide +kernel
theorem dJ15_checkIndex_7cf53_6 : decode cJ15_checkIndex_7cf53 6 = .ok (.ireturn, 1) := by decide +kernel
theorem dJ3_checkIndex_8e157_0 : decode cJ3_checkIndex_8e157 0 = .ok (.iload_n 0, 1) := by decide +kernel
theorem dJ3_checkIndex_8e157_1 : decode cJ3_checkIndex_8e157 1 = .ok (.ifCond .lt 8, 3) := by decide +kernel
theorem dJ3_checkIndex_8e157_4 : decode cJ3_checkIndex_8e157 4 = .ok (.iload_n 0, 1) := by decide +kernel
theorem dJ3_checkIndex_8e157_5 : decode cJ3_checkIndex_8e157 5 = .ok (.iload_n 1, 1) := by decide +kernel
theorem dJ3_checkIndex_8e157_6 : decode cJ3_checkIndex_8e157 6 = .ok (.if_icmp .lt 10, 3) := by decide +kernel
theorem dJ3_checkIndex_8e157_16 : decode cJ3_checkIndex_8e157 16 = .ok (.iload_n 0, 1) := by decide +kernel
theorem dJ3_checkIndex_8e157_17 : decode cJ3_checkIndex_8e157 17 = .ok (.ireturn, 1) := by decide +kernel
set_option maxRecDepth 20000 in
theorem ggL_make_X9_make : GoodIn wsL_make wsX9_make := goodIn_ca (goodIn_ca (goodIn_r _ [6, 7, 8, 9, 10, 11, 12, 13, 14, 5, 15, 16, 17, 18, 19, 20, 21, 22, 23, 24, 25, 26, 27, 28, 29, 30, 31, 32, 33, 34, 35, 36, 37, 38, 39, 40, 41, 42, 43, 44, 45, 46, 47, 48, 49, 50, 51] (by decide +kernel) (by decide +kernel)) (goodIn_sub (fun _ h => List.mem_cons_of_mem _ (List.mem_append_left _ (List.mem_append_right _ h))) (by decide +kernel))) (goodIn_sub (fun _ h => List.mem_cons_of_mem _ (List.mem_append_right _ h)) (by decide +kernel))
set_option maxRecDepth 20000 in
theorem gL_make_X9_make : GoodIn wsL_make (wsV RL 7 RX9 yX9_make wsX9_make) := goodIn_app (goodIn_of _ (by decide +kernel)) ggL_make_X9_make
theorem dL_make_0 : decode cL_make 0 = .ok (.aload 6, 2) := by decide +kernel
theorem dL_make_2 : decode cL_make 2 = .ok (.iconst 0, 1) := by decide +kernel
theorem dL_make_3 : decode cL_make 3 = .ok (.aload_n 0, 1) := by decide +kernel
theorem dL_make_4 : decode cL_make 4 = .ok (.iload_n 1, 1) := by decide +kernel
theorem dL_make_5 : decode cL_make 5 = .ok (.iload_n 2, 1) := by decide +kernel
theorem dL_make_6 : decode cL_make 6 = .ok (.iload_n 3, 1) := by decide +kernel
theorem dL_make_7 : decode cL_make 7 = .ok (.iload 4, 2) := by decide +kernel
theorem dL_make_9 : decode cL_make 9 = .ok (.iload 5, 2) := by decide +kernel
theorem dL_make_11 : decode cL_make 11 = .ok (.invokevirtual 7, 3) := by decide +kernel
theorem dL_make_14 : decode cL_make 14 = .ok (.i2l, 1) := by decide +kernel
theorem dL_make_15 : decode cL_make 15 = .ok (.lastore, 1) := by decide +kernel
theorem dL_make_16 : decode cL_make 16 = .ok (.goto 11, 3) := by decide +kernel
theorem dL_make_19 : decode cL_make 19 = .ok (.astore 7, 2) := by decide +kernel
theorem dL_make_21 : decode cL_make 21 = .ok (.iconst 1, 1) := by decide +kernel
theorem dL_make_22 : decode cL_make 22 = .ok (.ireturn, 1) := by decide +kernel
theorem dL_make_27 : decode cL_make 27 = .ok (.iconst 0, 1) := by decide +kernel
theorem dL_make_28 : decode cL_make 28 = .ok (.ireturn, 1) := by decide +kernel
set_option maxRecDepth 20000 in
theorem ggL_endpoint_X9_endpoint : GoodIn wsL_endpoint wsX9_endpoint := goodIn_ca (goodIn_ca (goodIn_ca (goodIn_r _ [6, 7, 8, 9, 10, 11, 12, 13, 5, 14, 15, 16, 17, 18, 19, 20, 21, 22, 23, 24, 25, 26, 27, 28, 29, 30, 31, 32, 33, 34, 35, 36, 37, 38, 39, 40, 41, 42, 43, 44, 45, 46, 47, 48, 49, 50, 51, 52, 53, 54, 55, 56, 57, 58, 59, 60, 61, 62, 63, 64, 65, 66, 67, 68] (by decide +kernel) (by decide +kernel)) (goodIn_sub (fun _ h => List.mem_cons_of_mem _ (List.mem_append_left _ (List.mem_append_left _ (List.mem_append_right _ h)))) (by decide +kernel))) (goodIn_sub (fun _ h => List.mem_cons_of_mem _ (List.mem_append_left _ (List.mem_append_right _ h))) (by decide +kernel))) (goodIn_sub (fun _ h => List.mem_cons_of_mem _ (List.mem_append_right _ h)) (by decide +kernel))
set_option maxRecDepth 20000 in
theorem gL_endpoint_X9_endpoint : GoodIn wsL_endpoint (wsV RL 17 RX9 yX9_endpoint wsX9_endpoint) := goodIn_app (goodIn_of _ (by decide +kernel)) ggL_endpoint_X9_endpoint
theorem dL_endpoint_0 : decode cL_endpoint 0 = .ok (.aload 5, 2) := by decide +kernel
theorem dL_endpoint_2 : decode cL_endpoint 2 = .ok (.iconst 0, 1) := by decide +kernel
theorem dL_endpoint_3 : decode cL_endpoint 3 = .ok (.aload_n 0, 1) := by decide +kernel
theorem dL_endpoint_4 : decode cL_endpoint 4 = .ok (.iload_n 1, 1) := by decide +kernel
theorem dL_endpoint_5 : decode cL_endpoint 5 = .ok (.iload_n 2, 1) := by decide +kernel
theorem dL_endpoint_6 : decode cL_endpoint 6 = .ok (.iload_n 3, 1) := by decide +kernel
theorem dL_endpoint_7 : decode cL_endpoint 7 = .ok (.iload 4, 2) := by decide +kernel
theorem dL_endpoint_9 : decode cL_endpoint 9 = .ok (.invokevirtual 17, 3) := by decide +kernel
theorem dL_endpoint_17 : decode cL_endpoint 17 = .ok (.astore 6, 2) := by decide +kernel
theorem dL_endpoint_19 : decode cL_endpoint 19 = .ok (.iconst 1, 1) := by decide +kernel
theorem dL_endpoint_20 : decode cL_endpoint 20 = .ok (.ireturn, 1) := by decide +kernel
theorem dL_endpoint_21 : decode cL_endpoint 21 = .ok (.astore 6, 2) := by decide +kernel
theorem dL_endpoint_23 : decode cL_endpoint 23 = .ok (.iconst 2, 1) := by decide +kernel
theorem dL_endpoint_24 : decode cL_endpoint 24 = .ok (.ireturn, 1) := by decide +kernel
theorem dL_endpoint_25 : decode cL_endpoint 25 = .ok (.astore 6, 2) := by decide +kernel
theorem dL_endpoint_27 : decode cL_endpoint 27 = .ok (.iconst 3, 1) := by decide +kernel
theorem dL_endpoint_28 : decode cL_endpoint 28 = .ok (.ireturn, 1) := by decide +kernel
set_option maxRecDepth 20000 in
theorem ggL_plug_X9_plug : GoodIn wsL_plug wsX9_plug := goodIn_ca (goodIn_ca (goodIn_r _ [6, 7, 8, 9, 10, 11, 12, 13, 5, 14, 15, 16, 17, 18, 19, 20, 21, 22, 23, 24, 25, 26, 27, 28, 29, 30, 31, 32, 33, 34, 35, 36, 37, 38, 39, 40, 41, 42, 43, 44, 45, 46, 47, 48, 49, 50, 51, 52, 53, 54, 55, 56, 57, 58, 59] (by decide +kernel) (by decide +kernel)) (goodIn_sub (fun _ h => List.mem_cons_of_mem _ (List.mem_append_left _ (List.mem_append_right _ h))) (by decide +kernel))) (goodIn_sub (fun _ h => List.mem_cons_of_mem _ (List.mem_append_right _ h)) (by decide +kernel))
set_option maxRecDepth 20000 in
theorem gL_plug_X9_plug : GoodIn wsL_plug (wsV RL 25 RX9 yX9_plug wsX9_plug) := goodIn_app (goodIn_of _ (by decide +kernel)) ggL_plug_X9_plug
theorem dL_plug_0 : decode cL_plug 0 = .ok (.aload 4, 2) := by decide +kernel
theorem dL_plug_2 : decode cL_plug 2 = .ok (.iconst 0, 1) := by decide +kernel
theorem dL_plug_3 : decode cL_plug 3 = .ok (.aload_n 0, 1) := by decide +kernel
theorem dL_plug_4 : decode cL_plug 4 = .ok (.iload_n 1, 1) := by decide +kernel
theorem dL_plug_5 : decode cL_plug 5 = .ok (.iload_n 2, 1) := by decide +kernel
theorem dL_plug_6 : decode cL_plug 6 = .ok (.iload_n 3, 1) := by decide +kernel
theorem dL_plug_7 : decode cL_plug 7 = .ok (.invokevirtual 25, 3) := by decide +kernel
theorem dL_plug_15 : decode cL_plug 15 = .ok (.astore 5, 2) := by decide +kernel
theorem dL_plug_17 : decode cL_plug 17 = .ok (.iconst 1, 1) := by decide +kernel
theorem dL_plug_18 : decode cL_plug 18 = .ok (.ireturn, 1) := by decide +kernel
theorem dL_plug_19 : decode cL_plug 19 = .ok (.astore 5, 2) := by decide +kernel
theorem dL_plug_21 : decode cL_plug 21 = .ok (.iconst 2, 1) := by decide +kernel
theorem dL_plug_22 : decode cL_plug 22 = .ok (.ireturn, 1) := by decide +kernel
set_option maxRecDepth 20000 in
theorem ggL_unplug_X9_unplug : GoodIn wsL_unplug wsX9_unplug := goodIn_ca (goodIn_ca (goodIn_ca (goodIn_r _ [6, 7, 8, 9, 10, 11, 5, 12, 13, 14, 15, 16, 17, 18, 19, 20, 21, 22, 23, 24, 25, 26, 27, 28, 29, 30, 31, 32, 33, 34, 35, 36, 37, 38, 39, 40, 41, 42, 43, 44, 45, 46, 47, 48, 49, 50, 51, 52, 53, 54, 55, 56, 57, 58, 59, 60, 61, 62, 63, 64, 65, 66, 67, 68, 69, 70, 71, 72, 73, 74, 75, 76, 77, 78, 79, 80, 81, 82, 83, 84, 85, 86, 87, 88, 89, 90, 91, 92, 93, 94, 95, 96, 97, 98, 99, 100, 101, 102, 103, 104, 105, 106, 107, 108, 109, 110, 111, 112, 113, 114, 115, 116, 117, 118, 119, 120, 121, 122, 123, 124, 125, 126, 127, 128, 129, 130, 131, 132, 133, 134, 135, 136, 137, 138, 139, 140, 141, 142, 143, 144, 145, 146, 147, 148, 149, 150, 151, 152, 153, 154, 155, 156, 157, 158, 159, 160, 161, 162, 163, 164, 165, 166, 167, 168, 169, 170, 171, 172, 173, 174, 175, 176] (by decide +kernel) (by decide +kernel)) (goodIn_sub (fun _ h => List.mem_cons_of_mem _ (List.mem_append_left _ (List.mem_append_right _ h))) (by decide +kernel))) (goodIn_sub (fun _ h => List.mem_cons_of_mem _ (List.mem_append_right _ h)) (by decide +kernel))) (goodIn_sub (fun _ h => List.mem_cons_of_mem _ (List.mem_append_left _ (List.mem_append_left _ (List.mem_append_right _ h)))) (by decide +kernel))
set_option maxRecDepth 20000 in
theorem gL_unplug_X9_unplug : GoodIn wsL_unplug (wsV RL 29 RX9 yX9_unplug wsX9_unplug) := goodIn_app (goodIn_of _ (by decide +kernel)) ggL_unplug_X9_unplug
theorem dL_unplug_0 : decode cL_unplug 0 = .ok (.aload_n 2, 1) := by decide +kernel
theorem dL_unplug_1 : decode cL_unplug 1 = .ok (.iconst 0, 1) := by decide +kernel
theorem dL_unplug_2 : decode cL_unplug 2 = .ok (.aload_n 0, 1) := by decide +kernel
theorem dL_unplug_3 : decode cL_unplug 3 = .ok (.iload_n 1, 1) := by decide +kernel
theorem dL_unplug_4 : decode cL_unplug 4 = .ok (.invokevirtual 29, 3) := by decide +kernel
theorem dL_unplug_12 : decode cL_unplug 12 = .ok (.astore_n 3, 1) := by decide +kernel
theorem dL_unplug_13 : decode cL_unplug 13 = .ok (.iconst 1, 1) := by decide +kernel
theorem dL_unplug_14 : decode cL_unplug 14 = .ok (.ireturn, 1) := by decide +kernel
set_option maxRecDepth 20000 in
theorem ggL_stateOf_X9_stateOf : GoodIn wsL_stateOf wsX9_stateOf := goodIn_ca (goodIn_r _ [6, 7, 8, 9, 5, 10, 11, 12, 13, 14, 15, 16, 17, 18, 19, 20, 21, 22, 23, 24, 25, 26, 27, 28, 29, 30, 31, 32, 33, 34, 35, 36, 37, 38, 39, 40, 41, 42, 43, 44, 45, 46, 47] (by decide +kernel) (by decide +kernel)) (goodIn_sub (fun _ h => List.mem_cons_of_mem _ (List.mem_append_right _ h)) (by decide +kernel))
set_option maxRecDepth 20000 in
theorem gL_stateOf_X9_stateOf : GoodIn wsL_stateOf (wsV RL 33 RX9 yX9_stateOf wsX9_stateOf) := goodIn_app (goodIn_of _ (by decide +kernel)) ggL_stateOf_X9_stateOf
theorem dL_stateOf_0 : decode cL_stateOf 0 = .ok (.aload_n 2, 1) := by decide +kernel
theorem dL_stateOf_1 : decode cL_stateOf 1 = .ok (.iconst 0, 1) := by decide +kernel
theorem dL_stateOf_2 : decode cL_stateOf 2 = .ok (.aload_n 0, 1) := by decide +kernel
theorem dL_stateOf_3 : decode cL_stateOf 3 = .ok (.iload_n 1, 1) := by decide +kernel
theorem dL_stateOf_4 : decode cL_stateOf 4 = .ok (.invokevirtual 33, 3) := by decide +kernel
theorem dL_stateOf_7 : decode cL_stateOf 7 = .ok (.i2l, 1) := by decide +kernel
theorem dL_stateOf_8 : decode cL_stateOf 8 = .ok (.lastore, 1) := by decide +kernel
theorem dL_stateOf_9 : decode cL_stateOf 9 = .ok (.goto 6, 3) := by decide +kernel
theorem dL_stateOf_12 : decode cL_stateOf 12 = .ok (.astore_n 3, 1) := by decide +kernel
theorem dL_stateOf_13 : decode cL_stateOf 13 = .ok (.iconst 1, 1) := by decide +kernel
theorem dL_stateOf_14 : decode cL_stateOf 14 = .ok (.ireturn, 1) := by decide +kernel
theorem dL_stateOf_15 : decode cL_stateOf 15 = .ok (.iconst 0, 1) := by decide +kernel
theorem dL_stateOf_16 : decode cL_stateOf 16 = .ok (.ireturn, 1) := by decide +kernel
set_option maxRecDepth 20000 in
theorem ggL_hubOf_X9_hubOf : GoodIn wsL_hubOf wsX9_hubOf := goodIn_ca (goodIn_r _ [6, 7, 8, 9, 5, 10, 11, 12, 13, 14, 15, 16, 17, 18, 19, 20, 21, 22, 23, 24, 25, 26, 27, 28, 29, 30, 31, 32, 33, 34, 35, 36, 37, 38, 39, 40, 41, 42, 43, 44, 45, 46, 47] (by decide +kernel) (by decide +kernel)) (goodIn_sub (fun _ h => List.mem_cons_of_mem _ (List.mem_append_right _ h)) (by decide +kernel))
set_option maxRecDepth 20000 in
theorem gL_hubOf_X9_hubOf : GoodIn wsL_hubOf (wsV RL 37 RX9 yX9_hubOf wsX9_hubOf) := goodIn_app (goodIn_of _ (by decide +kernel)) ggL_hubOf_X9_hubOf
theorem dL_hubOf_0 : decode cL_hubOf 0 = .ok (.aload_n 2, 1) := by decide +kernel
theorem dL_hubOf_1 : decode cL_hubOf 1 = .ok (.iconst 0, 1) := by decide +kernel
theorem dL_hubOf_2 : decode cL_hubOf 2 = .ok (.aload_n 0, 1) := by decide +kernel
theorem dL_hubOf_3 : decode cL_hubOf 3 = .ok (.iload_n 1, 1) := by decide +kernel
theorem dL_hubOf_4 : decode cL_hubOf 4 = .ok (.invokevirtual 37, 3) := by decide +kernel
theorem dL_hubOf_7 : decode cL_hubOf 7 = .ok (.i2l, 1) := by decide +kernel
theorem dL_hubOf_8 : decode cL_hubOf 8 = .ok (.lastore, 1) := by decide +kernel
theorem dL_hubOf_9 : decode cL_hubOf 9 = .ok (.goto 6, 3) := by decide +kernel
theorem dL_hubOf_12 : decode cL_hubOf 12 = .ok (.astore_n 3, 1) := by decide +kernel
theorem dL_hubOf_13 : decode cL_hubOf 13 = .ok (.iconst 1, 1) := by decide +kernel
theorem dL_hubOf_14 : decode cL_hubOf 14 = .ok (.ireturn, 1) := by decide +kernel
theorem dL_hubOf_15 : decode cL_hubOf 15 = .ok (.iconst 0, 1) := by decide +kernel
theorem dL_hubOf_16 : decode cL_hubOf 16 = .ok (.ireturn, 1) := by decide +kernel
set_option maxRecDepth 20000 in
theorem ggL_depthOf_X9_depthOf : GoodIn wsL_depthOf wsX9_depthOf := goodIn_ca (goodIn_r _ [6, 7, 8, 9, 5, 10, 11, 12, 13, 14, 15, 16, 17, 18, 19, 20, 21, 22, 23, 24, 25, 26, 27, 28, 29, 30, 31, 32, 33, 34, 35, 36, 37, 38, 39, 40, 41, 42, 43, 44, 45, 46, 47] (by decide +kernel) (by decide +kernel)) (goodIn_sub (fun _ h => List.mem_cons_of_mem _ (List.mem_append_right _ h)) (by decide +kernel))
set_option maxRecDepth 20000 in
theorem gL_depthOf_X9_depthOf : GoodIn wsL_depthOf (wsV RL 40 RX9 yX9_depthOf wsX9_depthOf) := goodIn_app (goodIn_of _ (by decide +kernel)) ggL_depthOf_X9_depthOf
theorem dL_depthOf_0 : decode cL_depthOf 0 = .ok (.aload_n 2, 1) := by decide +kernel
theorem dL_depthOf_1 : decode cL_depthOf 1 = .ok (.iconst 0, 1) := by decide +kernel
theorem dL_depthOf_2 : decode cL_depthOf 2 = .ok (.aload_n 0, 1) := by decide +kernel
theorem dL_depthOf_3 : decode cL_depthOf 3 = .ok (.iload_n 1, 1) := by decide +kernel
theorem dL_depthOf_4 : decode cL_depthOf 4 = .ok (.invokevirtual 40, 3) := by decide +kernel
theorem dL_depthOf_7 : decode cL_depthOf 7 = .ok (.i2l, 1) := by decide +kernel
theorem dL_depthOf_8 : decode cL_depthOf 8 = .ok (.lastore, 1) := by decide +kernel
theorem dL_depthOf_9 : decode cL_depthOf 9 = .ok (.goto 6, 3) := by decide +kernel
theorem dL_depthOf_12 : decode cL_depthOf 12 = .ok (.astore_n 3, 1) := by decide +kernel
theorem dL_depthOf_13 : decode cL_depthOf 13 = .ok (.iconst 1, 1) := by decide +kernel
theorem dL_depthOf_14 : decode cL_depthOf 14 = .ok (.ireturn, 1) := by decide +kernel
theorem dL_depthOf_15 : decode cL_depthOf 15 = .ok (.iconst 0, 1) := by decide +kernel
theorem dL_depthOf_16 : decode cL_depthOf 16 = .ok (.ireturn, 1) := by decide +kernel
set_option maxRecDepth 20000 in
theorem ggL_speedOf_X9_speedOf : GoodIn wsL_speedOf wsX9_speedOf := goodIn_ca (goodIn_r _ [6, 7, 8, 9, 5, 10, 11, 12, 13, 14, 15, 16, 17, 18, 19, 20, 21, 22, 23, 24, 25, 26, 27, 28, 29, 30, 31, 32, 33, 34, 35, 36, 37, 38, 39, 40, 41, 42, 43, 44, 45, 46, 47] (by decide +kernel) (by decide +kernel)) (goodIn_sub (fun _ h => List.mem_cons_of_mem _ (List.mem_append_right _ h)) (by decide +kernel))
set_option maxRecDepth 20000 in
theorem gL_speedOf_X9_speedOf : GoodIn wsL_speedOf (wsV RL 43 RX9 yX9_speedOf wsX9_speedOf) := goodIn_app (goodIn_of _ (by decide +kernel)) ggL_speedOf_X9_speedOf
theorem dL_speedOf_0 : decode cL_speedOf 0 = .ok (.aload_n 2, 1) := by decide +kernel
theorem dL_speedOf_1 : decode cL_speedOf 1 = .ok (.iconst 0, 1) := by decide +kernel
theorem dL_speedOf_2 : decode cL_speedOf 2 = .ok (.aload_n 0, 1) := by decide +kernel
theorem dL_speedOf_3 : decode cL_speedOf 3 = .ok (.iload_n 1, 1) := by decide +kernel
theorem dL_speedOf_4 : decode cL_speedOf 4 = .ok (.invokevirtual 43, 3) := by decide +kernel
theorem dL_speedOf_7 : decode cL_speedOf 7 = .ok (.i2l, 1) := by decide +kernel
theorem dL_speedOf_8 : decode cL_speedOf 8 = .ok (.lastore, 1) := by decide +kernel
theorem dL_speedOf_9 : decode cL_speedOf 9 = .ok (.goto 6, 3) := by decide +kernel
theorem dL_speedOf_12 : decode cL_speedOf 12 = .ok (.astore_n 3, 1) := by decide +kernel
theorem dL_speedOf_13 : decode cL_speedOf 13 = .ok (.iconst 1, 1) := by decide +kernel
theorem dL_speedOf_14 : decode cL_speedOf 14 = .ok (.ireturn, 1) := by decide +kernel
theorem dL_speedOf_15 : decode cL_speedOf 15 = .ok (.iconst 0, 1) := by decide +kernel
theorem dL_speedOf_16 : decode cL_speedOf 16 = .ok (.ireturn, 1) := by decide +kernel
set_option maxRecDepth 20000 in
theorem ggL_translator_X9_translator : GoodIn wsL_translator wsX9_translator := goodIn_ca (goodIn_ca (goodIn_r _ [6, 7, 8, 9, 10, 11, 5, 12, 13, 14, 15, 16, 17, 18, 19, 20, 21, 22, 23, 24, 25, 26, 27, 28, 29, 30, 31, 32, 33, 34, 35, 36, 37, 38, 39, 40, 41, 42, 43, 44, 45, 46, 47, 48, 49] (by decide +kernel) (by decide +kernel)) (goodIn_sub (fun _ h => List.mem_cons_of_mem _ (List.mem_append_left _ (List.mem_append_right _ h))) (by decide +kernel))) (goodIn_sub (fun _ h => List.mem_cons_of_mem _ (List.mem_append_right _ h)) (by decide +kernel))
set_option maxRecDepth 20000 in
theorem gL_translator_X9_translator : GoodIn wsL_translator (wsV RL 46 RX9 yX9_translator wsX9_translator) := goodIn_app (goodIn_of _ (by decide +kernel)) ggL_translator_X9_translator
theorem dL_translator_0 : decode cL_translator 0 = .ok (.aload_n 2, 1) := by decide +kernel
theorem dL_translator_1 : decode cL_translator 1 = .ok (.iconst 0, 1) := by decide +kernel
theorem dL_translator_2 : decode cL_translator 2 = .ok (.aload_n 0, 1) := by decide +kernel
theorem dL_translator_3 : decode cL_translator 3 = .ok (.iload_n 1, 1) := by decide +kernel
theorem dL_translator_4 : decode cL_translator 4 = .ok (.invokevirtual 46, 3) := by decide +kernel
theorem dL_translator_12 : decode cL_translator 12 = .ok (.astore_n 3, 1) := by decide +kernel
theorem dL_translator_13 : decode cL_translator 13 = .ok (.iconst 1, 1) := by decide +kernel
theorem dL_translator_14 : decode cL_translator 14 = .ok (.ireturn, 1) := by decide +kernel
theorem dL_translator_15 : decode cL_translator 15 = .ok (.astore_n 3, 1) := by decide +kernel
theorem dL_translator_16 : decode cL_translator 16 = .ok (.iconst 2, 1) := by decide +kernel
theorem dL_translator_17 : decode cL_translator 17 = .ok (.ireturn, 1) := by decide +kernel
set_option maxRecDepth 20000 in
theorem ggL_addressOf_X9_addressOf : GoodIn wsL_addressOf wsX9_addressOf := goodIn_ca (goodIn_r _ [6, 7, 8, 9, 5, 10, 11, 12, 13, 14, 15, 16, 17, 18, 19, 20, 21, 22, 23, 24, 25, 26, 27, 28, 29, 30, 31, 32, 33, 34, 35, 36, 37, 38, 39, 40, 41, 42, 43, 44, 45, 46, 47] (by decide +kernel) (by decide +kernel)) (goodIn_sub (fun _ h => List.mem_cons_of_mem _ (List.mem_append_right _ h)) (by decide +kernel))
set_option maxRecDepth 20000 in
theorem gL_addressOf_X9_addressOf : GoodIn wsL_addressOf (wsV RL 49 RX9 yX9_addressOf wsX9_addressOf) := goodIn_app (goodIn_of _ (by decide +kernel)) ggL_addressOf_X9_addressOf
theorem dL_addressOf_0 : decode cL_addressOf 0 = .ok (.aload_n 2, 1) := by decide +kernel
theorem dL_addressOf_1 : decode cL_addressOf 1 = .ok (.iconst 0, 1) := by decide +kernel
theorem dL_addressOf_2 : decode cL_addressOf 2 = .ok (.aload_n 0, 1) := by decide +kernel
theorem dL_addressOf_3 : decode cL_addressOf 3 = .ok (.iload_n 1, 1) := by decide +kernel
theorem dL_addressOf_4 : decode cL_addressOf 4 = .ok (.invokevirtual 49, 3) := by decide +kernel
theorem dL_addressOf_7 : decode cL_addressOf 7 = .ok (.i2l, 1) := by decide +kernel
theorem dL_addressOf_8 : decode cL_addressOf 8 = .ok (.lastore, 1) := by decide +kernel
theorem dL_addressOf_9 : decode cL_addressOf 9 = .ok (.goto 6, 3) := by decide +kernel
theorem dL_addressOf_12 : decode cL_addressOf 12 = .ok (.astore_n 3, 1) := by decide +kernel
theorem dL_addressOf_13 : decode cL_addressOf 13 = .ok (.iconst 1, 1) := by decide +kernel
theorem dL_addressOf_14 : decode cL_addressOf 14 = .ok (.ireturn, 1) := by decide +kernel
theorem dL_addressOf_15 : decode cL_addressOf 15 = .ok (.iconst 0, 1) := by decide +kernel
theorem dL_addressOf_16 : decode cL_addressOf 16 = .ok (.ireturn, 1) := by decide +kernel
set_option maxRecDepth 20000 in
theorem ggL_look_X9_look : GoodIn wsL_look wsX9_look := goodIn_ca (goodIn_ca (goodIn_r _ [6, 7, 8, 9, 10, 11, 5, 12, 13, 14, 15, 16, 17, 18, 19, 20, 21, 22, 23, 24, 25, 26, 27, 28, 29, 30, 31, 32, 33, 34, 35, 36, 37, 38, 39, 40, 41, 42, 43, 44, 45, 46, 47, 48, 49, 50, 51, 52, 53, 54, 55, 56, 57, 58, 59, 60, 61, 62, 63, 64, 65, 66, 67, 68, 69, 70, 71, 72, 73, 74, 75, 76, 77, 78, 79, 80, 81, 82, 83, 84, 85, 86, 87, 88, 89, 90, 91, 92, 93, 94, 95, 96, 97, 98, 99, 100, 101, 102, 103, 104, 105, 106, 107, 108, 109, 110, 111, 112, 113, 114, 115, 116, 117, 118, 119, 120, 121, 122, 123, 124, 125, 126, 127, 128, 129, 130, 131, 132, 133, 134, 135, 136, 137, 138, 139, 140, 141, 142, 143, 144, 145, 146, 147, 148, 149, 150, 151, 152, 153, 154, 155, 156, 157, 158, 159, 160, 161, 162, 163, 164, 165, 166, 167, 168, 169, 170, 171, 172, 173, 174, 175, 176, 177, 178, 179, 180, 181, 182, 183, 184, 185, 186, 187, 188, 189, 190, 191, 192, 193, 194, 195, 196, 197, 198, 199, 200, 201, 202, 203, 204, 205, 206, 207, 208, 209, 210, 211] (by decide +kernel) (by decide +kernel)) (goodIn_sub (fun _ h => List.mem_cons_of_mem _ (List.mem_append_right _ h)) (by decide +kernel))) (goodIn_sub (fun _ h => List.mem_cons_of_mem _ (List.mem_append_left _ (List.mem_append_right _ h))) (by decide +kernel))
set_option maxRecDepth 20000 in
theorem gL_look_X9_look : GoodIn wsL_look (wsV RL 52 RX9 yX9_look wsX9_look) := goodIn_app (goodIn_of _ (by decide +kernel)) ggL_look_X9_look
theorem dL_look_0 : decode cL_look 0 = .ok (.aload_n 1, 1) := by decide +kernel
theorem dL_look_1 : decode cL_look 1 = .ok (.iconst 0, 1) := by decide +kernel
theorem dL_look_2 : decode cL_look 2 = .ok (.aload_n 0, 1) := by decide +kernel
theorem dL_look_3 : decode cL_look 3 = .ok (.invokevirtual 52, 3) := by decide +kernel
theorem dL_look_11 : decode cL_look 11 = .ok (.astore_n 2, 1) := by decide +kernel
theorem dL_look_12 : decode cL_look 12 = .ok (.iconst 1, 1) := by decide +kernel
theorem dL_look_13 : decode cL_look 13 = .ok (.ireturn, 1) := by decide +kernel
set_option maxRecDepth 20000 in
theorem ggL_driver_X9_driver : GoodIn wsL_driver wsX9_driver := goodIn_ca (goodIn_ca (goodIn_ca (goodIn_r _ [6, 7, 8, 9, 10, 11, 12, 13, 14, 15, 5, 16, 17, 18, 19, 20, 21, 22, 23, 24, 25, 26, 27, 28, 29] (by decide +kernel) (by decide +kernel)) (goodIn_sub (fun _ h => List.mem_cons_of_mem _ (List.mem_append_left _ (List.mem_append_right _ h))) (by decide +kernel))) (goodIn_sub (fun _ h => List.mem_cons_of_mem _ (List.mem_append_right _ h)) (by decide +kernel))) (goodIn_sub (fun _ h => List.mem_cons_of_mem _ (List.mem_append_left _ (List.mem_append_left _ (List.mem_append_right _ h)))) (by decide +kernel))
set_option maxRecDepth 20000 in
theorem gL_driver_X9_driver : GoodIn wsL_driver (wsV RL 58 RX9 yX9_driver wsX9_driver) := goodIn_app (goodIn_of _ (by decide +kernel)) ggL_driver_X9_driver
theorem dL_driver_0 : decode cL_driver 0 = .ok (.aload_n 3, 1) := by decide +kernel
theorem dL_driver_1 : decode cL_driver 1 = .ok (.iconst 0, 1) := by decide +kernel
theorem dL_driver_2 : decode cL_driver 2 = .ok (.aload_n 0, 1) := by decide +kernel
theorem dL_driver_3 : decode cL_driver 3 = .ok (.iload_n 1, 1) := by decide +kernel
theorem dL_driver_4 : decode cL_driver 4 = .ok (.iload_n 2, 1) := by decide +kernel
theorem dL_driver_5 : decode cL_driver 5 = .ok (.invokevirtual 58, 3) := by decide +kernel
theorem dL_driver_8 : decode cL_driver 8 = .ok (.i2l, 1) := by decide +kernel
theorem dL_driver_9 : decode cL_driver 9 = .ok (.lastore, 1) := by decide +kernel
theorem dL_driver_10 : decode cL_driver 10 = .ok (.goto 11, 3) := by decide +kernel
theorem dL_driver_13 : decode cL_driver 13 = .ok (.astore 4, 2) := by decide +kernel
theorem dL_driver_15 : decode cL_driver 15 = .ok (.iconst 1, 1) := by decide +kernel
theorem dL_driver_16 : decode cL_driver 16 = .ok (.ireturn, 1) := by decide +kernel
theorem dL_driver_21 : decode cL_driver 21 = .ok (.iconst 0, 1) := by decide +kernel
theorem dL_driver_22 : decode cL_driver 22 = .ok (.ireturn, 1) := by decide +kernel
set_option maxRecDepth 20000 in
theorem ggL_driverOf_X9_driverOf : GoodIn wsL_driverOf wsX9_driverOf := goodIn_ca (goodIn_r _ [6, 7, 8, 9, 5, 10, 11, 12, 13, 14, 15, 16, 17, 18, 19, 20, 21, 22, 23, 24, 25, 26, 27, 28, 29, 30, 31, 32, 33, 34, 35, 36, 37, 38, 39, 40, 41, 42, 43, 44, 45, 46, 47] (by decide +kernel) (by decide +kernel)) (goodIn_sub (fun _ h => List.mem_cons_of_mem _ (List.mem_append_right _ h)) (by decide +kernel))
set_option maxRecDepth 20000 in
theorem gL_driverOf_X9_driverOf : GoodIn wsL_driverOf (wsV RL 62 RX9 yX9_driverOf wsX9_driverOf) := goodIn_app (goodIn_of _ (by decide +kernel)) ggL_driverOf_X9_driverOf
theorem dL_driverOf_0 : decode cL_driverOf 0 = .ok (.aload_n 2, 1) := by decide +kernel
theorem dL_driverOf_1 : decode cL_driverOf 1 = .ok (.iconst 0, 1) := by decide +kernel
theorem dL_driverOf_2 : decode cL_driverOf 2 = .ok (.aload_n 0, 1) := by decide +kernel
theorem dL_driverOf_3 : decode cL_driverOf 3 = .ok (.iload_n 1, 1) := by decide +kernel
theorem dL_driverOf_4 : decode cL_driverOf 4 = .ok (.invokevirtual 62, 3) := by decide +kernel
theorem dL_driverOf_7 : decode cL_driverOf 7 = .ok (.i2l, 1) := by decide +kernel
theorem dL_driverOf_8 : decode cL_driverOf 8 = .ok (.lastore, 1) := by decide +kernel
theorem dL_driverOf_9 : decode cL_driverOf 9 = .ok (.goto 6, 3) := by decide +kernel
theorem dL_driverOf_12 : decode cL_driverOf 12 = .ok (.astore_n 3, 1) := by decide +kernel
theorem dL_driverOf_13 : decode cL_driverOf 13 = .ok (.iconst 1, 1) := by decide +kernel
theorem dL_driverOf_14 : decode cL_driverOf 14 = .ok (.ireturn, 1) := by decide +kernel
theorem dL_driverOf_15 : decode cL_driverOf 15 = .ok (.iconst 0, 1) := by decide +kernel
theorem dL_driverOf_16 : decode cL_driverOf 16 = .ok (.ireturn, 1) := by decide +kernel
set_option maxRecDepth 20000 in
theorem ggL_draw_X9_draw : GoodIn wsL_draw wsX9_draw := goodIn_ca (goodIn_ca (goodIn_r _ [6, 7, 8, 9, 10, 11, 5, 12, 13, 14, 15, 16, 17, 18, 19, 20, 21, 22, 23, 24, 25, 26, 27, 28, 29, 30, 31, 32, 33, 34, 35, 36, 37, 38, 39, 40, 41, 42, 43, 44, 45, 46, 47, 48, 49, 50, 51, 52, 53, 54, 55, 56, 57, 58, 59] (by decide +kernel) (by decide +kernel)) (goodIn_sub (fun _ h => List.mem_cons_of_mem _ (List.mem_append_left _ (List.mem_append_right _ h))) (by decide +kernel))) (goodIn_sub (fun _ h => List.mem_cons_of_mem _ (List.mem_append_right _ h)) (by decide +kernel))
set_option maxRecDepth 20000 in
theorem gL_draw_X9_draw : GoodIn wsL_draw (wsV RL 65 RX9 yX9_draw wsX9_draw) := goodIn_app (goodIn_of _ (by decide +kernel)) ggL_draw_X9_draw
theorem dL_draw_0 : decode cL_draw 0 = .ok (.aload_n 3, 1) := by decide +kernel
theorem dL_draw_1 : decode cL_draw 1 = .ok (.iconst 0, 1) := by decide +kernel
theorem dL_draw_2 : decode cL_draw 2 = .ok (.aload_n 0, 1) := by decide +kernel
theorem dL_draw_3 : decode cL_draw 3 = .ok (.iload_n 1, 1) := by decide +kernel
theorem dL_draw_4 : decode cL_draw 4 = .ok (.iload_n 2, 1) := by decide +kernel
theorem dL_draw_5 : decode cL_draw 5 = .ok (.invokevirtual 65, 3) := by decide +kernel
theorem dL_draw_13 : decode cL_draw 13 = .ok (.astore 4, 2) := by decide +kernel
theorem dL_draw_15 : decode cL_draw 15 = .ok (.iconst 1, 1) := by decide +kernel
theorem dL_draw_16 : decode cL_draw 16 = .ok (.ireturn, 1) := by decide +kernel
set_option maxRecDepth 20000 in
theorem ggL_sleep_X9_sleep : GoodIn wsL_sleep wsX9_sleep := goodIn_ca (goodIn_ca (goodIn_r _ [6, 7, 8, 9, 10, 11, 12, 5, 13, 14, 15, 16, 17, 18, 19, 20, 21, 22, 23, 24, 25, 26, 27, 28, 29, 30, 31, 32, 33, 34, 35, 36, 37, 38, 39, 40, 41, 42, 43, 44, 45, 46, 47, 48, 49, 50, 51, 52, 53, 54, 55, 56, 57, 58, 59, 60, 61, 62, 63, 64, 65, 66, 67, 68, 69, 70, 71, 72, 73, 74, 75] (by decide +kernel) (by decide +kernel)) (goodIn_sub (fun _ h => List.mem_cons_of_mem _ (List.mem_append_left _ (List.mem_append_right _ h))) (by decide +kernel))) (goodIn_sub (fun _ h => List.mem_cons_of_mem _ (List.mem_append_right _ h)) (by decide +kernel))
set_option maxRecDepth 20000 in
theorem gL_sleep_X9_sleep : GoodIn wsL_sleep (wsV RL 68 RX9 yX9_sleep wsX9_sleep) := goodIn_app (goodIn_of _ (by decide +kernel)) ggL_sleep_X9_sleep
theorem dL_sleep_0 : decode cL_sleep 0 = .ok (.aload_n 2, 1) := by decide +kernel
theorem dL_sleep_1 : decode cL_sleep 1 = .ok (.iconst 0, 1) := by decide +kernel
theorem dL_sleep_2 : decode cL_sleep 2 = .ok (.aload_n 0, 1) := by decide +kernel
theorem dL_sleep_3 : decode cL_sleep 3 = .ok (.iload_n 1, 1) := by decide +kernel
theorem dL_sleep_4 : decode cL_sleep 4 = .ok (.invokevirtual 68, 3) := by decide +kernel
theorem dL_sleep_12 : decode cL_sleep 12 = .ok (.astore_n 3, 1) := by decide +kernel
theorem dL_sleep_13 : decode cL_sleep 13 = .ok (.iconst 1, 1) := by decide +kernel
theorem dL_sleep_14 : decode cL_sleep 14 = .ok (.ireturn, 1) := by decide +kernel
set_option maxRecDepth 20000 in
theorem ggL_wake_X9_wake : GoodIn wsL_wake wsX9_wake := goodIn_ca (goodIn_ca (goodIn_r _ [6, 7, 8, 9, 10, 11, 12, 5, 13, 14, 15, 16, 17, 18, 19, 20, 21, 22, 23, 24, 25, 26, 27, 28, 29, 30, 31, 32, 33, 34, 35, 36, 37, 38, 39, 40, 41, 42, 43, 44, 45, 46, 47, 48, 49, 50] (by decide +kernel) (by decide +kernel)) (goodIn_sub (fun _ h => List.mem_cons_of_mem _ (List.mem_append_left _ (List.mem_append_right _ h))) (by decide +kernel))) (goodIn_sub (fun _ h => List.mem_cons_of_mem _ (List.mem_append_right _ h)) (by decide +kernel))
set_option maxRecDepth 20000 in
theorem gL_wake_X9_wake : GoodIn wsL_wake (wsV RL 71 RX9 yX9_wake wsX9_wake) := goodIn_app (goodIn_of _ (by decide +kernel)) ggL_wake_X9_wake
theorem dL_wake_0 : decode cL_wake 0 = .ok (.aload_n 2, 1) := by decide +kernel
theorem dL_wake_1 : decode cL_wake 1 = .ok (.iconst 0, 1) := by decide +kernel
theorem dL_wake_2 : decode cL_wake 2 = .ok (.aload_n 0, 1) := by decide +kernel
theorem dL_wake_3 : decode cL_wake 3 = .ok (.iload_n 1, 1) := by decide +kernel
theorem dL_wake_4 : decode cL_wake 4 = .ok (.invokevirtual 71, 3) := by decide +kernel
theorem dL_wake_12 : decode cL_wake 12 = .ok (.astore_n 3, 1) := by decide +kernel
theorem dL_wake_13 : decode cL_wake 13 = .ok (.iconst 1, 1) := by decide +kernel
theorem dL_wake_14 : decode cL_wake 14 = .ok (.ireturn, 1) := by decide +kernel
theorem dL_wake_15 : decode cL_wake 15 = .ok (.astore_n 3, 1) := by decide +kernel
theorem dL_wake_16 : decode cL_wake 16 = .ok (.iconst 2, 1) := by decide +kernel
theorem dL_wake_17 : decode cL_wake 17 = .ok (.ireturn, 1) := by decide +kernel
set_option maxRecDepth 20000 in
theorem ggL_five_X9_five : GoodIn wsL_five wsX9_five := goodIn_ca (goodIn_r _ [6, 7, 8, 9, 10, 5, 11, 12, 13, 14] (by decide +kernel) (by decide +kernel)) (goodIn_sub (fun _ h => List.mem_cons_of_mem _ (List.mem_append_right _ h)) (by decide +kernel))
set_option maxRecDepth 20000 in
theorem gL_five_X9_five : GoodIn wsL_five (wsV RL 74 RX9 yX9_five wsX9_five) := goodIn_app (goodIn_of _ (by decide +kernel)) ggL_five_X9_five
theorem dL_five_0 : decode cL_five 0 = .ok (.aload_n 2, 1) := by decide +kernel
theorem dL_five_1 : decode cL_five 1 = .ok (.iconst 0, 1) := by decide +kernel
theorem dL_five_2 : decode cL_five 2 = .ok (.aload_n 0, 1) := by decide +kernel
theorem dL_five_3 : decode cL_five 3 = .ok (.iload_n 1, 1) := by decide +kernel
theorem dL_five_4 : decode cL_five 4 = .ok (.invokevirtual 74, 3) := by decide +kernel
theorem dL_five_7 : decode cL_five 7 = .ok (.i2l, 1) := by decide +kernel
theorem dL_five_8 : decode cL_five 8 = .ok (.lastore, 1) := by decide +kernel
theorem dL_five_9 : decode cL_five 9 = .ok (.goto 6, 3) := by decide +kernel
theorem dL_five_12 : decode cL_five 12 = .ok (.astore_n 3, 1) := by decide +kernel
theorem dL_five_13 : decode cL_five 13 = .ok (.iconst 1, 1) := by decide +kernel
theorem dL_five_14 : decode cL_five 14 = .ok (.ireturn, 1) := by decide +kernel
theorem dL_five_15 : decode cL_five 15 = .ok (.iconst 0, 1) := by decide +kernel
theorem dL_five_16 : decode cL_five 16 = .ok (.ireturn, 1) := by decide +kernel
set_option maxRecDepth 20000 in
theorem ggL_type_X9_type : GoodIn wsL_type wsX9_type := goodIn_ca (goodIn_ca (goodIn_ca (goodIn_r _ [6, 7, 8, 9, 10, 11, 12, 13, 5, 14, 15, 16, 17, 18, 19, 20, 21, 22, 23, 24, 25, 26, 27, 28, 29, 30, 31, 32, 33, 34, 35, 36, 37, 38, 39] (by decide +kernel) (by decide +kernel)) (goodIn_sub (fun _ h => List.mem_cons_of_mem _ (List.mem_append_left _ (List.mem_append_right _ h))) (by decide +kernel))) (goodIn_sub (fun _ h => List.mem_cons_of_mem _ (List.mem_append_right _ h)) (by decide +kernel))) (goodIn_sub (fun _ h => List.mem_cons_of_mem _ (List.mem_append_left _ (List.mem_append_left _ (List.mem_append_right _ h)))) (by decide +kernel))
set_option maxRecDepth 20000 in
theorem gL_type_X9_type : GoodIn wsL_type (wsV RL 77 RX9 yX9_type wsX9_type) := goodIn_app (goodIn_of _ (by decide +kernel)) ggL_type_X9_type
theorem dL_type_0 : decode cL_type 0 = .ok (.aload_n 2, 1) := by decide +kernel
theorem dL_type_1 : decode cL_type 1 = .ok (.iconst 0, 1) := by decide +kernel
theorem dL_type_2 : decode cL_type 2 = .ok (.aload_n 0, 1) := by decide +kernel
theorem dL_type_3 : decode cL_type 3 = .ok (.iload_n 1, 1) := by decide +kernel
theorem dL_type_4 : decode cL_type 4 = .ok (.invokevirtual 77, 3) := by decide +kernel
theorem dL_type_7 : decode cL_type 7 = .ok (.i2l, 1) := by decide +kernel
theorem dL_type_8 : decode cL_type 8 = .ok (.lastore, 1) := by decide +kernel
theorem dL_type_9 : decode cL_type 9 = .ok (.goto 9, 3) := by decide +kernel
theorem dL_type_12 : decode cL_type 12 = .ok (.astore_n 3, 1) := by decide +kernel
theorem dL_type_13 : decode cL_type 13 = .ok (.iconst 1, 1) := by decide +kernel
theorem dL_type_14 : decode cL_type 14 = .ok (.ireturn, 1) := by decide +kernel
theorem dL_type_18 : decode cL_type 18 = .ok (.iconst 0, 1) := by decide +kernel
theorem dL_type_19 : decode cL_type 19 = .ok (.ireturn, 1) := by decide +kernel
set_option maxRecDepth 20000 in
theorem ggL_open_X9_open : GoodIn wsL_open wsX9_open := goodIn_ca (goodIn_ca (goodIn_ca (goodIn_ca (goodIn_ca (goodIn_r _ [6, 7, 8, 9, 10, 11, 12, 13, 14, 15, 16, 5, 17, 18, 19, 20, 21, 22, 23, 24, 25, 26, 27, 28, 29, 30, 31, 32, 33, 34, 35, 36, 37, 38, 39, 40, 41, 42, 43, 44, 45, 46, 47, 48, 49, 50, 51, 52, 53, 54, 55, 56, 57, 58, 59, 60, 61, 62, 63, 64, 65, 66, 67, 68, 69, 70, 71, 72, 73, 74, 75, 76, 77, 78, 79, 80, 81, 82, 83, 84, 85, 86, 87, 88, 89, 90, 91, 92, 93, 94, 95, 96, 97, 98, 99, 100, 101, 102, 103, 104, 105, 106, 107, 108, 109, 110, 111, 112, 113, 114, 115, 116, 117, 118, 119, 120, 121, 122, 123, 124, 125, 126, 127, 128, 129, 130, 131, 132, 133, 134, 135, 136, 137, 138, 139, 140, 141, 142, 143, 144, 145, 146, 147, 148, 149, 150, 151, 152, 153] (by decide +kernel) (by decide +kernel)) (goodIn_sub (fun _ h => List.mem_cons_of_mem _ (List.mem_append_left _ (List.mem_append_left _ (List.mem_append_left _ (List.mem_append_right _ h))))) (by decide +kernel))) (goodIn_sub (fun _ h => List.mem_cons_of_mem _ (List.mem_append_left _ (List.mem_append_left _ (List.mem_append_right _ h)))) (by decide +kernel))) (goodIn_sub (fun _ h => List.mem_cons_of_mem _ (List.mem_append_left _ (List.mem_append_right _ h))) (by decide +kernel))) (goodIn_sub (fun _ h => List.mem_cons_of_mem _ (List.mem_append_right _ h)) (by decide +kernel))) (goodIn_sub (fun _ h => List.mem_cons_of_mem _ (List.mem_append_left _ (List.mem_append_left _ (List.mem_append_left _ (List.mem_append_left _ (List.mem_append_right _ h)))))) (by decide +kernel))
set_option maxRecDepth 20000 in
theorem gL_open_X9_open : GoodIn wsL_open (wsV RL 80 RX9 yX9_open wsX9_open) := goodIn_app (goodIn_of _ (by decide +kernel)) ggL_open_X9_open
theorem dL_open_0 : decode cL_open 0 = .ok (.aload 5, 2) := by decide +kernel
theorem dL_open_2 : decode cL_open 2 = .ok (.iconst 0, 1) := by decide +kernel
theorem dL_open_3 : decode cL_open 3 = .ok (.aload_n 0, 1) := by decide +kernel
theorem dL_open_4 : decode cL_open 4 = .ok (.iload_n 1, 1) := by decide +kernel
theorem dL_open_5 : decode cL_open 5 = .ok (.iload_n 2, 1) := by decide +kernel
theorem dL_open_6 : decode cL_open 6 = .ok (.iload_n 3, 1) := by decide +kernel
theorem dL_open_7 : decode cL_open 7 = .ok (.iload 4, 2) := by decide +kernel
theorem dL_open_9 : decode cL_open 9 = .ok (.invokevirtual 80, 3) := by decide +kernel
theorem dL_open_17 : decode cL_open 17 = .ok (.astore 6, 2) := by decide +kernel
theorem dL_open_19 : decode cL_open 19 = .ok (.iconst 1, 1) := by decide +kernel
theorem dL_open_20 : decode cL_open 20 = .ok (.ireturn, 1) := by decide +kernel
set_option maxRecDepth 20000 in
theorem ggL_close_X9_close : GoodIn wsL_close wsX9_close := goodIn_ca (goodIn_ca (goodIn_r _ [6, 7, 8, 9, 5, 10, 11, 12, 13, 14, 15, 16, 17, 18, 19, 20, 21, 22, 23, 24, 25, 26, 27, 28, 29, 30, 31, 32, 33, 34, 35, 36, 37, 38, 39, 40, 41, 42, 43, 44, 45, 46, 47, 48, 49, 50, 51, 52, 53, 54, 55, 56, 57, 58, 59, 60, 61, 62, 63, 64, 65, 66, 67, 68, 69, 70, 71, 72, 73, 74, 75, 76, 77, 78, 79, 80, 81, 82, 83, 84, 85, 86, 87, 88, 89, 90, 91, 92, 93, 94, 95, 96, 97, 98, 99, 100, 101, 102, 103, 104, 105, 106, 107, 108, 109, 110, 111, 112, 113, 114, 115, 116, 117, 118, 119, 120, 121, 122, 123, 124, 125, 126, 127, 128, 129, 130, 131, 132, 133, 134, 135, 136, 137, 138, 139, 140, 141, 142, 143, 144, 145, 146, 147, 148, 149, 150, 151, 152, 153, 154] (by decide +kernel) (by decide +kernel)) (goodIn_sub (fun _ h => List.mem_cons_of_mem _ (List.mem_append_right _ h)) (by decide +kernel))) (goodIn_sub (fun _ h => List.mem_cons_of_mem _ (List.mem_append_left _ (List.mem_append_right _ h))) (by decide +kernel))
set_option maxRecDepth 20000 in
theorem gL_close_X9_close : GoodIn wsL_close (wsV RL 84 RX9 yX9_close wsX9_close) := goodIn_app (goodIn_of _ (by decide +kernel)) ggL_close_X9_close
theorem dL_close_0 : decode cL_close 0 = .ok (.aload_n 2, 1) := by decide +kernel
theorem dL_close_1 : decode cL_close 1 = .ok (.iconst 0, 1) := by decide +kernel
theorem dL_close_2 : decode cL_close 2 = .ok (.aload_n 0, 1) := by decide +kernel
theorem dL_close_3 : decode cL_close 3 = .ok (.iload_n 1, 1) := by decide +kernel
theorem dL_close_4 : decode cL_close 4 = .ok (.invokevirtual 84, 3) := by decide +kernel
theorem dL_close_12 : decode cL_close 12 = .ok (.astore_n 3, 1) := by decide +kernel
theorem dL_close_13 : decode cL_close 13 = .ok (.iconst 1, 1) := by decide +kernel
theorem dL_close_14 : decode cL_close 14 = .ok (.ireturn, 1) := by decide +kernel
set_option maxRecDepth 20000 in
theorem ggL_phaseOf_X9_phaseOf : GoodIn wsL_phaseOf wsX9_phaseOf := goodIn_ca (goodIn_r _ [6, 7, 8, 9, 5, 10, 11, 12, 13, 14, 15, 16, 17, 18, 19, 20, 21, 22, 23, 24, 25, 26, 27, 28, 29, 30, 31, 32, 33, 34, 35, 36, 37, 38, 39, 40, 41, 42, 43, 44, 45, 46, 47, 48] (by decide +kernel) (by decide +kernel)) (goodIn_sub (fun _ h => List.mem_cons_of_mem _ (List.mem_append_right _ h)) (by decide +kernel))
set_option maxRecDepth 20000 in
theorem gL_phaseOf_X9_phaseOf : GoodIn wsL_phaseOf (wsV RL 87 RX9 yX9_phaseOf wsX9_phaseOf) := goodIn_app (goodIn_of _ (by decide +kernel)) ggL_phaseOf_X9_phaseOf
theorem dL_phaseOf_0 : decode cL_phaseOf 0 = .ok (.aload_n 2, 1) := by decide +kernel
theorem dL_phaseOf_1 : decode cL_phaseOf 1 = .ok (.iconst 0, 1) := by decide +kernel
theorem dL_phaseOf_2 : decode cL_phaseOf 2 = .ok (.aload_n 0, 1) := by decide +kernel
theorem dL_phaseOf_3 : decode cL_phaseOf 3 = .ok (.iload_n 1, 1) := by decide +kernel
theorem dL_phaseOf_4 : decode cL_phaseOf 4 = .ok (.invokevirtual 87, 3) := by decide +kernel
theorem dL_phaseOf_12 : decode cL_phaseOf 12 = .ok (.astore_n 3, 1) := by decide +kernel
theorem dL_phaseOf_13 : decode cL_phaseOf 13 = .ok (.iconst 1, 1) := by decide +kernel
theorem dL_phaseOf_14 : decode cL_phaseOf 14 = .ok (.ireturn, 1) := by decide +kernel
set_option maxRecDepth 20000 in
theorem ggL_reserved_X9_reserved : GoodIn wsL_reserved wsX9_reserved := goodIn_ca (goodIn_ca (goodIn_ca (goodIn_r _ [6, 7, 8, 9, 10, 11, 5, 12, 13, 14, 15, 16, 17, 18, 19, 20, 21, 22, 23, 24, 25, 26, 27, 28, 29, 30, 31, 32, 33, 34, 35, 36, 37, 38, 39, 40, 41, 42, 43, 44, 45, 46, 47, 48, 49, 50, 51, 52, 53, 54, 55, 56, 57, 58] (by decide +kernel) (by decide +kernel)) (goodIn_sub (fun _ h => List.mem_cons_of_mem _ (List.mem_append_left _ (List.mem_append_right _ h))) (by decide +kernel))) (goodIn_sub (fun _ h => List.mem_cons_of_mem _ (List.mem_append_left _ (List.mem_append_left _ (List.mem_append_right _ h)))) (by decide +kernel))) (goodIn_sub (fun _ h => List.mem_cons_of_mem _ (List.mem_append_right _ h)) (by decide +kernel))
set_option maxRecDepth 20000 in
theorem gL_reserved_X9_reserved : GoodIn wsL_reserved (wsV RL 90 RX9 yX9_reserved wsX9_reserved) := goodIn_app (goodIn_of _ (by decide +kernel)) ggL_reserved_X9_reserved
theorem dL_reserved_0 : decode cL_reserved 0 = .ok (.aload_n 3, 1) := by decide +kernel
theorem dL_reserved_1 : decode cL_reserved 1 = .ok (.iconst 0, 1) := by decide +kernel
theorem dL_reserved_2 : decode cL_reserved 2 = .ok (.aload_n 0, 1) := by decide +kernel
theorem dL_reserved_3 : decode cL_reserved 3 = .ok (.iload_n 1, 1) := by decide +kernel
theorem dL_reserved_4 : decode cL_reserved 4 = .ok (.iload_n 2, 1) := by decide +kernel
theorem dL_reserved_5 : decode cL_reserved 5 = .ok (.invokevirtual 90, 3) := by decide +kernel
theorem dL_reserved_8 : decode cL_reserved 8 = .ok (.i2l, 1) := by decide +kernel
theorem dL_reserved_9 : decode cL_reserved 9 = .ok (.lastore, 1) := by decide +kernel
theorem dL_reserved_10 : decode cL_reserved 10 = .ok (.goto 11, 3) := by decide +kernel
theorem dL_reserved_13 : decode cL_reserved 13 = .ok (.astore 4, 2) := by decide +kernel
theorem dL_reserved_15 : decode cL_reserved 15 = .ok (.iconst 1, 1) := by decide +kernel
theorem dL_reserved_16 : decode cL_reserved 16 = .ok (.ireturn, 1) := by decide +kernel
theorem dL_reserved_17 : decode cL_reserved 17 = .ok (.astore 4, 2) := by decide +kernel
theorem dL_reserved_19 : decode cL_reserved 19 = .ok (.iconst 2, 1) := by decide +kernel
theorem dL_reserved_20 : decode cL_reserved 20 = .ok (.ireturn, 1) := by decide +kernel
theorem dL_reserved_21 : decode cL_reserved 21 = .ok (.iconst 0, 1) := by decide +kernel
theorem dL_reserved_22 : decode cL_reserved 22 = .ok (.ireturn, 1) := by decide +kernel
set_option maxRecDepth 20000 in
theorem ggL_send_X9_send : GoodIn wsL_send wsX9_send := goodIn_ca (goodIn_ca (goodIn_ca (goodIn_ca (goodIn_r _ [6, 7, 8, 9, 10, 11, 12, 13, 14, 5, 15, 16, 17, 18, 19, 20, 21, 22, 23, 24, 25, 26, 27, 28, 29, 30, 31, 32, 33, 34, 35, 36, 37, 38, 39, 40, 41, 42, 43, 44, 45, 46, 47, 48, 49, 50, 51, 52, 53, 54, 55, 56, 57, 58, 59, 60, 61, 62, 63, 64, 65, 66, 67, 68, 69, 70, 71, 72, 73, 74, 75, 76, 77, 78, 79, 80, 81, 82, 83, 84, 85, 86, 87, 88, 89, 90, 91, 92, 93, 94, 95, 96] (by decide +kernel) (by decide +kernel)) (goodIn_sub (fun _ h => List.mem_cons_of_mem _ (List.mem_append_left _ (List.mem_append_left _ (List.mem_append_right _ h)))) (by decide +kernel))) (goodIn_sub (fun _ h => List.mem_cons_of_mem _ (List.mem_append_left _ (List.mem_append_right _ h))) (by decide +kernel))) (goodIn_sub (fun _ h => List.mem_cons_of_mem _ (List.mem_append_left _ (List.mem_append_left _ (List.mem_append_left _ (List.mem_append_right _ h))))) (by decide +kernel))) (goodIn_sub (fun _ h => List.mem_cons_of_mem _ (List.mem_append_right _ h)) (by decide +kernel))
set_option maxRecDepth 20000 in
theorem gL_send_X9_send : GoodIn wsL_send (wsV RL 93 RX9 yX9_send wsX9_send) := goodIn_app (goodIn_of _ (by decide +kernel)) ggL_send_X9_send
theorem dL_send_0 : decode cL_send 0 = .ok (.aload_n 2, 1) := by decide +kernel
theorem dL_send_1 : decode cL_send 1 = .ok (.iconst 0, 1) := by decide +kernel
theorem dL_send_2 : decode cL_send 2 = .ok (.aload_n 0, 1) := by decide +kernel
theorem dL_send_3 : decode cL_send 3 = .ok (.iload_n 1, 1) := by decide +kernel
theorem dL_send_4 : decode cL_send 4 = .ok (.invokevirtual 93, 3) := by decide +kernel
theorem dL_send_12 : decode cL_send 12 = .ok (.astore_n 3, 1) := by decide +kernel
theorem dL_send_13 : decode cL_send 13 = .ok (.iconst 1, 1) := by decide +kernel
theorem dL_send_14 : decode cL_send 14 = .ok (.ireturn, 1) := by decide +kernel
set_option maxRecDepth 20000 in
theorem ggL_ask_X9_ask : GoodIn wsL_ask wsX9_ask := goodIn_ca (goodIn_ca (goodIn_ca (goodIn_ca (goodIn_r _ [6, 7, 8, 9, 10, 11, 12, 13, 14, 15, 5, 16, 17, 18, 19, 20, 21, 22, 23, 24, 25, 26, 27, 28, 29, 30, 31, 32, 33, 34, 35, 36, 37, 38, 39, 40, 41, 42, 43, 44, 45, 46, 47, 48, 49, 50, 51, 52, 53, 54, 55, 56, 57, 58, 59, 60, 61, 62, 63, 64, 65, 66, 67, 68, 69, 70, 71, 72, 73, 74, 75, 76, 77, 78, 79] (by decide +kernel) (by decide +kernel)) (goodIn_sub (fun _ h => List.mem_cons_of_mem _ (List.mem_append_left _ (List.mem_append_left _ (List.mem_append_left _ (List.mem_append_right _ h))))) (by decide +kernel))) (goodIn_sub (fun _ h => List.mem_cons_of_mem _ (List.mem_append_left _ (List.mem_append_left _ (List.mem_append_right _ h)))) (by decide +kernel))) (goodIn_sub (fun _ h => List.mem_cons_of_mem _ (List.mem_append_left _ (List.mem_append_right _ h))) (by decide +kernel))) (goodIn_sub (fun _ h => List.mem_cons_of_mem _ (List.mem_append_right _ h)) (by decide +kernel))
set_option maxRecDepth 20000 in
theorem gL_ask_X9_ask : GoodIn wsL_ask (wsV RL 96 RX9 yX9_ask wsX9_ask) := goodIn_app (goodIn_of _ (by decide +kernel)) ggL_ask_X9_ask
theorem dL_ask_0 : decode cL_ask 0 = .ok (.aload_n 3, 1) := by decide +kernel
theorem dL_ask_1 : decode cL_ask 1 = .ok (.iconst 0, 1) := by decide +kernel
theorem dL_ask_2 : decode cL_ask 2 = .ok (.aload_n 0, 1) := by decide +kernel
theorem dL_ask_3 : decode cL_ask 3 = .ok (.iload_n 1, 1) := by decide +kernel
theorem dL_ask_4 : decode cL_ask 4 = .ok (.iload_n 2, 1) := by decide +kernel
theorem dL_ask_5 : decode cL_ask 5 = .ok (.invokevirtual 96, 3) := by decide +kernel
theorem dL_ask_13 : decode cL_ask 13 = .ok (.astore 4, 2) := by decide +kernel
theorem dL_ask_15 : decode cL_ask 15 = .ok (.iconst 1, 1) := by decide +kernel
theorem dL_ask_16 : decode cL_ask 16 = .ok (.ireturn, 1) := by decide +kernel
set_option maxRecDepth 20000 in
theorem ggL_ring_X9_ring : GoodIn wsL_ring wsX9_ring := goodIn_ca (goodIn_r _ [6, 7, 8, 9, 5, 10, 11, 12, 13, 14, 15, 16, 17, 18, 19, 20, 21, 22, 23, 24, 25, 26, 27, 28, 29, 30, 31, 32, 33, 34, 35, 36, 37, 38, 39, 40, 41, 42, 43, 44, 45, 46, 47, 48, 49, 50, 51, 52, 53, 54, 55, 56, 57, 58, 59] (by decide +kernel) (by decide +kernel)) (goodIn_sub (fun _ h => List.mem_cons_of_mem _ (List.mem_append_right _ h)) (by decide +kernel))
set_option maxRecDepth 20000 in
theorem gL_ring_X9_ring : GoodIn wsL_ring (wsV RL 99 RX9 yX9_ring wsX9_ring) := goodIn_app (goodIn_of _ (by decide +kernel)) ggL_ring_X9_ring
theorem dL_ring_0 : decode cL_ring 0 = .ok (.aload_n 2, 1) := by decide +kernel
theorem dL_ring_1 : decode cL_ring 1 = .ok (.iconst 0, 1) := by decide +kernel
theorem dL_ring_2 : decode cL_ring 2 = .ok (.aload_n 0, 1) := by decide +kernel
theorem dL_ring_3 : decode cL_ring 3 = .ok (.iload_n 1, 1) := by decide +kernel
theorem dL_ring_4 : decode cL_ring 4 = .ok (.invokevirtual 99, 3) := by decide +kernel
theorem dL_ring_12 : decode cL_ring 12 = .ok (.astore_n 3, 1) := by decide +kernel
theorem dL_ring_13 : decode cL_ring 13 = .ok (.iconst 1, 1) := by decide +kernel
theorem dL_ring_14 : decode cL_ring 14 = .ok (.ireturn, 1) := by decide +kernel
set_option maxRecDepth 20000 in
theorem ggL_isHalted_X9_isHalted : GoodIn wsL_isHalted wsX9_isHalted := goodIn_ca (goodIn_r _ [6, 7, 8, 9, 5, 10, 11, 12, 13, 14, 15, 16, 17, 18, 19, 20, 21, 22, 23, 24, 25, 26, 27, 28, 29, 30, 31, 32, 33, 34, 35, 36, 37, 38, 39, 40, 41, 42, 43, 44, 45, 46, 47, 48] (by decide +kernel) (by decide +kernel)) (goodIn_sub (fun _ h => List.mem_cons_of_mem _ (List.mem_append_right _ h)) (by decide +kernel))
set_option maxRecDepth 20000 in
theorem gL_isHalted_X9_isHalted : GoodIn wsL_isHalted (wsV RL 102 RX9 yX9_isHalted wsX9_isHalted) := goodIn_app (goodIn_of _ (by decide +kernel)) ggL_isHalted_X9_isHalted
theorem dL_isHalted_0 : decode cL_isHalted 0 = .ok (.aload_n 2, 1) := by decide +kernel
theorem dL_isHalted_1 : decode cL_isHalted 1 = .ok (.iconst 0, 1) := by decide +kernel
theorem dL_isHalted_2 : decode cL_isHalted 2 = .ok (.aload_n 0, 1) := by decide +kernel
theorem dL_isHalted_3 : decode cL_isHalted 3 = .ok (.iload_n 1, 1) := by decide +kernel
theorem dL_isHalted_4 : decode cL_isHalted 4 = .ok (.invokevirtual 102, 3) := by decide +kernel
theorem dL_isHalted_19 : decode cL_isHalted 19 = .ok (.astore_n 3, 1) := by decide +kernel
theorem dL_isHalted_20 : decode cL_isHalted 20 = .ok (.iconst 1, 1) := by decide +kernel
theorem dL_isHalted_21 : decode cL_isHalted 21 = .ok (.ireturn, 1) := by decide +kernel
set_option maxRecDepth 20000 in
theorem ggL_clear_X9_clear : GoodIn wsL_clear wsX9_clear := goodIn_ca (goodIn_r _ [6, 7, 8, 9, 5, 10, 11, 12, 13, 14, 15, 16, 17, 18, 19, 20, 21, 22, 23, 24, 25, 26, 27, 28, 29, 30, 31, 32, 33, 34, 35, 36, 37, 38, 39, 40, 41, 42, 43, 44, 45, 46, 47, 48, 49, 50, 51, 52, 53, 54, 55, 56, 57, 58, 59, 60, 61, 62, 63, 64] (by decide +kernel) (by decide +kernel)) (goodIn_sub (fun _ h => List.mem_cons_of_mem _ (List.mem_append_right _ h)) (by decide +kernel))
set_option maxRecDepth 20000 in
theorem gL_clear_X9_clear : GoodIn wsL_clear (wsV RL 106 RX9 yX9_clear wsX9_clear) := goodIn_app (goodIn_of _ (by decide +kernel)) ggL_clear_X9_clear
theorem dL_clear_0 : decode cL_clear 0 = .ok (.aload_n 2, 1) := by decide +kernel
theorem dL_clear_1 : decode cL_clear 1 = .ok (.iconst 0, 1) := by decide +kernel
theorem dL_clear_2 : decode cL_clear 2 = .ok (.aload_n 0, 1) := by decide +kernel
theorem dL_clear_3 : decode cL_clear 3 = .ok (.iload_n 1, 1) := by decide +kernel
theorem dL_clear_4 : decode cL_clear 4 = .ok (.invokevirtual 106, 3) := by decide +kernel
theorem dL_clear_12 : decode cL_clear 12 = .ok (.astore_n 3, 1) := by decide +kernel
theorem dL_clear_13 : decode cL_clear 13 = .ok (.iconst 1, 1) := by decide +kernel
theorem dL_clear_14 : decode cL_clear 14 = .ok (.ireturn, 1) := by decide +kernel
set_option maxRecDepth 20000 in
theorem ggL_cancel_X9_cancel : GoodIn wsL_cancel wsX9_cancel := goodIn_ca (goodIn_ca (goodIn_ca (goodIn_r _ [6, 7, 8, 9, 10, 11, 5, 12, 13, 14, 15, 16, 17, 18, 19, 20, 21, 22, 23, 24, 25, 26, 27, 28, 29, 30, 31, 32, 33, 34, 35, 36, 37, 38, 39, 40, 41, 42, 43, 44, 45, 46, 47, 48, 49, 50, 51, 52, 53, 54, 55, 56, 57, 58, 59, 60, 61, 62, 63, 64, 65, 66, 67, 68, 69, 70, 71, 72, 73, 74, 75, 76, 77, 78, 79, 80, 81, 82, 83, 84, 85, 86, 87, 88, 89, 90, 91, 92] (by decide +kernel) (by decide +kernel)) (goodIn_sub (fun _ h => List.mem_cons_of_mem _ (List.mem_append_left _ (List.mem_append_right _ h))) (by decide +kernel))) (goodIn_sub (fun _ h => List.mem_cons_of_mem _ (List.mem_append_right _ h)) (by decide +kernel))) (goodIn_sub (fun _ h => List.mem_cons_of_mem _ (List.mem_append_left _ (List.mem_append_left _ (List.mem_append_right _ h)))) (by decide +kernel))
set_option maxRecDepth 20000 in
theorem gL_cancel_X9_cancel : GoodIn wsL_cancel (wsV RL 109 RX9 yX9_cancel wsX9_cancel) := goodIn_app (goodIn_of _ (by decide +kernel)) ggL_cancel_X9_cancel
theorem dL_cancel_0 : decode cL_cancel 0 = .ok (.aload_n 2, 1) := by decide +kernel
theorem dL_cancel_1 : decode cL_cancel 1 = .ok (.iconst 0, 1) := by decide +kernel
theorem dL_cancel_2 : decode cL_cancel 2 = .ok (.aload_n 0, 1) := by decide +kernel
theorem dL_cancel_3 : decode cL_cancel 3 = .ok (.iload_n 1, 1) := by decide +kernel
theorem dL_cancel_4 : decode cL_cancel 4 = .ok (.invokevirtual 109, 3) := by decide +kernel
theorem dL_cancel_12 : decode cL_cancel 12 = .ok (.astore_n 3, 1) := by decide +kernel
theorem dL_cancel_13 : decode cL_cancel 13 = .ok (.iconst 1, 1) := by decide +kernel
theorem dL_cancel_14 : decode cL_cancel 14 = .ok (.ireturn, 1) := by decide +kernel
set_option maxRecDepth 20000 in
theorem ggL_load_X9_load : GoodIn wsL_load wsX9_load := goodIn_ca (goodIn_ca (goodIn_ca (goodIn_ca (goodIn_r _ [6, 7, 8, 9, 10, 11, 12, 13, 14, 5, 15, 16, 17, 18, 19, 20, 21, 22, 23, 24, 25, 26, 27, 28, 29, 30, 31, 32, 33, 34, 35, 36, 37, 38, 39, 40, 41, 42, 43, 44, 45, 46, 47, 48, 49, 50, 51, 52, 53, 54, 55, 56, 57, 58, 59, 60, 61, 62, 63, 64, 65, 66, 67, 68, 69, 70, 71, 72, 73, 74, 75, 76, 77, 78, 79, 80, 81, 82, 83, 84, 85, 86, 87, 88, 89] (by decide +kernel) (by decide +kernel)) (goodIn_sub (fun _ h => List.mem_cons_of_mem _ (List.mem_append_left _ (List.mem_append_left _ (List.mem_append_right _ h)))) (by decide +kernel))) (goodIn_sub (fun _ h => List.mem_cons_of_mem _ (List.mem_append_left _ (List.mem_append_right _ h))) (by decide +kernel))) (goodIn_sub (fun _ h => List.mem_cons_of_mem _ (List.mem_append_right _ h)) (by decide +kernel))) (goodIn_sub (fun _ h => List.mem_cons_of_mem _ (List.mem_append_left _ (List.mem_append_left _ (List.mem_append_left _ (List.mem_append_right _ h))))) (by decide +kernel))
set_option maxRecDepth 20000 in
theorem gL_load_X9_load : GoodIn wsL_load (wsV RL 112 RX9 yX9_load wsX9_load) := goodIn_app (goodIn_of _ (by decide +kernel)) ggL_load_X9_load
theorem dL_load_0 : decode cL_load 0 = .ok (.aload_n 3, 1) := by decide +kernel
theorem dL_load_1 : decode cL_load 1 = .ok (.iconst 0, 1) := by decide +kernel
theorem dL_load_2 : decode cL_load 2 = .ok (.aload_n 0, 1) := by decide +kernel
theorem dL_load_3 : decode cL_load 3 = .ok (.iload_n 1, 1) := by decide +kernel
theorem dL_load_4 : decode cL_load 4 = .ok (.iload_n 2, 1) := by decide +kernel
theorem dL_load_5 : decode cL_load 5 = .ok (.invokevirtual 112, 3) := by decide +kernel
theorem dL_load_13 : decode cL_load 13 = .ok (.astore 4, 2) := by decide +kernel
theorem dL_load_15 : decode cL_load 15 = .ok (.iconst 1, 1) := by decide +kernel
theorem dL_load_16 : decode cL_load 16 = .ok (.ireturn, 1) := by decide +kernel
set_option maxRecDepth 20000 in
theorem ggL_fault_X9_fault : GoodIn wsL_fault wsX9_fault := goodIn_ca (goodIn_ca (goodIn_r _ [6, 7, 8, 9, 10, 11, 5, 12, 13, 14, 15, 16, 17, 18, 19, 20, 21, 22, 23, 24, 25, 26, 27, 28, 29, 30, 31, 32, 33, 34, 35, 36, 37, 38, 39, 40, 41, 42, 43, 44, 45, 46, 47, 48, 49, 50, 51, 52, 53, 54, 55, 56, 57, 58, 59, 60, 61, 62, 63, 64, 65, 66, 67, 68, 69, 70, 71, 72, 73] (by decide +kernel) (by decide +kernel)) (goodIn_sub (fun _ h => List.mem_cons_of_mem _ (List.mem_append_left _ (List.mem_append_right _ h))) (by decide +kernel))) (goodIn_sub (fun _ h => List.mem_cons_of_mem _ (List.mem_append_right _ h)) (by decide +kernel))
set_option maxRecDepth 20000 in
theorem gL_fault_X9_fault : GoodIn wsL_fault (wsV RL 115 RX9 yX9_fault wsX9_fault) := goodIn_app (goodIn_of _ (by decide +kernel)) ggL_fault_X9_fault
theorem dL_fault_0 : decode cL_fault 0 = .ok (.aload 5, 2) := by decide +kernel
theorem dL_fault_2 : decode cL_fault 2 = .ok (.iconst 0, 1) := by decide +kernel
theorem dL_fault_3 : decode cL_fault 3 = .ok (.aload_n 0, 1) := by decide +kernel
theorem dL_fault_4 : decode cL_fault 4 = .ok (.iload_n 1, 1) := by decide +kernel
theorem dL_fault_5 : decode cL_fault 5 = .ok (.iload_n 2, 1) := by decide +kernel
theorem dL_fault_6 : decode cL_fault 6 = .ok (.iload_n 3, 1) := by decide +kernel
theorem dL_fault_7 : decode cL_fault 7 = .ok (.iload 4, 2) := by decide +kernel
theorem dL_fault_9 : decode cL_fault 9 = .ok (.invokevirtual 115, 3) := by decide +kernel
theorem dL_fault_17 : decode cL_fault 17 = .ok (.astore 6, 2) := by decide +kernel
theorem dL_fault_19 : decode cL_fault 19 = .ok (.iconst 1, 1) := by decide +kernel
theorem dL_fault_20 : decode cL_fault 20 = .ok (.ireturn, 1) := by decide +kernel
set_option maxRecDepth 20000 in
theorem ggL_left_X9_left : GoodIn wsL_left wsX9_left := goodIn_ca (goodIn_ca (goodIn_ca (goodIn_r _ [6, 7, 8, 9, 10, 11, 12, 13, 5, 14, 15, 16, 17, 18, 19, 20, 21, 22, 23, 24, 25, 26, 27, 28, 29, 30, 31, 32, 33, 34, 35, 36, 37, 38, 39, 40, 41, 42, 43, 44, 45, 46, 47, 48, 49, 50, 51, 52, 53, 54, 55, 56] (by decide +kernel) (by decide +kernel)) (goodIn_sub (fun _ h => List.mem_cons_of_mem _ (List.mem_append_left _ (List.mem_append_right _ h))) (by decide +kernel))) (goodIn_sub (fun _ h => List.mem_cons_of_mem _ (List.mem_append_left _ (List.mem_append_left _ (List.mem_append_right _ h)))) (by decide +kernel))) (goodIn_sub (fun _ h => List.mem_cons_of_mem _ (List.mem_append_right _ h)) (by decide +kernel))
set_option maxRecDepth 20000 in
theorem gL_left_X9_left : GoodIn wsL_left (wsV RL 118 RX9 yX9_left wsX9_left) := goodIn_app (goodIn_of _ (by decide +kernel)) ggL_left_X9_left
theorem dL_left_0 : decode cL_left 0 = .ok (.aload_n 2, 1) := by decide +kernel
theorem dL_left_1 : decode cL_left 1 = .ok (.iconst 0, 1) := by decide +kernel
theorem dL_left_2 : decode cL_left 2 = .ok (.aload_n 0, 1) := by decide +kernel
theorem dL_left_3 : decode cL_left 3 = .ok (.iload_n 1, 1) := by decide +kernel
theorem dL_left_4 : decode cL_left 4 = .ok (.invokevirtual 118, 3) := by decide +kernel
theorem dL_left_12 : decode cL_left 12 = .ok (.astore_n 3, 1) := by decide +kernel
theorem dL_left_13 : decode cL_left 13 = .ok (.iconst 1, 1) := by decide +kernel
theorem dL_left_14 : decode cL_left 14 = .ok (.ireturn, 1) := by decide +kernel
theorem dL_left_15 : decode cL_left 15 = .ok (.astore_n 3, 1) := by decide +kernel
theorem dL_left_16 : decode cL_left 16 = .ok (.iconst 2, 1) := by decide +kernel
theorem dL_left_17 : decode cL_left 17 = .ok (.ireturn, 1) := by decide +kernel
set_option maxRecDepth 20000 in
theorem ggL_event_X9_event : GoodIn wsL_event wsX9_event := goodIn_ca (goodIn_ca (goodIn_r _ [6, 7, 8, 9, 10, 11, 12, 13, 14, 15, 16, 17, 18, 19, 20, 21, 22, 23, 24, 25, 26, 27, 28, 29, 30, 31, 32, 33, 34, 35, 36, 37, 38, 39, 40, 41, 42, 43] (by decide +kernel) (by decide +kernel)) (goodIn_sub (fun _ h => List.mem_cons_of_mem _ (List.mem_append_right _ h)) (by decide +kernel))) (goodIn_sub (fun _ h => List.mem_cons_of_mem _ (List.mem_append_left _ (List.mem_append_right _ h))) (by decide +kernel))
set_option maxRecDepth 20000 in
theorem gL_event_X9_event : GoodIn wsL_event (wsV RL 121 RX9 yX9_event wsX9_event) := goodIn_app (goodIn_of _ (by decide +kernel)) ggL_event_X9_event
theorem dL_event_0 : decode cL_event 0 = .ok (.aload_n 1, 1) := by decide +kernel
theorem dL_event_1 : decode cL_event 1 = .ok (.iconst 0, 1) := by decide +kernel
theorem dL_event_2 : decode cL_event 2 = .ok (.aload_n 0, 1) := by decide +kernel
theorem dL_event_3 : decode cL_event 3 = .ok (.invokevirtual 121, 3) := by decide +kernel
theorem dL_event_11 : decode cL_event 11 = .ok (.astore_n 2, 1) := by decide +kernel
theorem dL_event_12 : decode cL_event 12 = .ok (.iconst 1, 1) := by decide +kernel
theorem dL_event_13 : decode cL_event 13 = .ok (.ireturn, 1) := by decide +kernel
set_option maxRecDepth 20000 in
theorem ggL_eventPipe_X9_eventPipe : GoodIn wsL_eventPipe wsX9_eventPipe := goodIn_ca (goodIn_r _ [6, 7, 8, 9, 10, 11, 12, 13, 14, 15, 16, 17, 18, 19, 20, 21, 22, 23, 24, 25, 26, 27, 28, 29, 30, 31, 32] (by decide +kernel) (by decide +kernel)) (goodIn_sub (fun _ h => List.mem_cons_of_mem _ (List.mem_append_right _ h)) (by decide +kernel))
set_option maxRecDepth 20000 in
theorem gL_eventPipe_X9_eventPipe : GoodIn wsL_eventPipe (wsV RL 125 RX9 yX9_eventPipe wsX9_eventPipe) := goodIn_app (goodIn_of _ (by decide +kernel)) ggL_eventPipe_X9_eventPipe
theorem dL_eventPipe_0 : decode cL_eventPipe 0 = .ok (.aload_n 1, 1) := by decide +kernel
theorem dL_eventPipe_1 : decode cL_eventPipe 1 = .ok (.iconst 0, 1) := by decide +kernel
theorem dL_eventPipe_2 : decode cL_eventPipe 2 = .ok (.aload_n 0, 1) := by decide +kernel
theorem dL_eventPipe_3 : decode cL_eventPipe 3 = .ok (.invokevirtual 125, 3) := by decide +kernel
theorem dL_eventPipe_11 : decode cL_eventPipe 11 = .ok (.astore_n 2, 1) := by decide +kernel
theorem dL_eventPipe_12 : decode cL_eventPipe 12 = .ok (.iconst 1, 1) := by decide +kernel
theorem dL_eventPipe_13 : decode cL_eventPipe 13 = .ok (.ireturn, 1) := by decide +kernel
set_option maxRecDepth 20000 in
theorem ggL_eventBytes_X9_eventBytes : GoodIn wsL_eventBytes wsX9_eventBytes := goodIn_ca (goodIn_r _ [6, 7, 8, 9, 10, 11, 12, 13, 14, 15, 16, 17, 18, 19, 20, 21, 22, 23, 24, 25, 26, 27, 28, 29, 30, 31, 32] (by decide +kernel) (by decide +kernel)) (goodIn_sub (fun _ h => List.mem_cons_of_mem _ (List.mem_append_right _ h)) (by decide +kernel))
set_option maxRecDepth 20000 in
theorem gL_eventBytes_X9_eventBytes : GoodIn wsL_eventBytes (wsV RL 128 RX9 yX9_eventBytes wsX9_eventBytes) := goodIn_app (goodIn_of _ (by decide +kernel)) ggL_eventBytes_X9_eventBytes
theorem dL_eventBytes_0 : decode cL_eventBytes 0 = .ok (.aload_n 1, 1) := by decide +kernel
theorem dL_eventBytes_1 : decode cL_eventBytes 1 = .ok (.iconst 0, 1) := by decide +kernel
theorem dL_eventBytes_2 : decode cL_eventBytes 2 = .ok (.aload_n 0, 1) := by decide +kernel
theorem dL_eventBytes_3 : decode cL_eventBytes 3 = .ok (.invokevirtual 128, 3) := by decide +kernel
theorem dL_eventBytes_11 : decode cL_eventBytes 11 = .ok (.astore_n 2, 1) := by decide +kernel
theorem dL_eventBytes_12 : decode cL_eventBytes 12 = .ok (.iconst 1, 1) := by decide +kernel
theorem dL_eventBytes_13 : decode cL_eventBytes 13 = .ok (.ireturn, 1) := by decide +kernel
set_option maxRecDepth 20000 in
theorem ggL_taken_X9_taken : GoodIn wsL_taken wsX9_taken := goodIn_ca (goodIn_ca (goodIn_r _ [6, 7, 8, 9, 5, 10, 11, 12, 13, 14, 15, 16, 17, 18, 19, 20, 21, 22, 23, 24, 25, 26, 27, 28, 29, 30, 31, 32, 33, 34, 35, 36, 37, 38, 39, 40, 41, 42, 43, 44, 45, 46, 47, 48, 49, 50, 51, 52, 53, 54, 55, 56, 57, 58, 59, 60, 61, 62, 63, 64, 65, 66, 67, 68, 69, 70, 71, 72] (by decide +kernel) (by decide +kernel)) (goodIn_sub (fun _ h => List.mem_cons_of_mem _ (List.mem_append_left _ (List.mem_append_right _ h))) (by decide +kernel))) (goodIn_sub (fun _ h => List.mem_cons_of_mem _ (List.mem_append_right _ h)) (by decide +kernel))
set_option maxRecDepth 20000 in
theorem gL_taken_X9_taken : GoodIn wsL_taken (wsV RL 131 RX9 yX9_taken wsX9_taken) := goodIn_app (goodIn_of _ (by decide +kernel)) ggL_taken_X9_taken
theorem dL_taken_0 : decode cL_taken 0 = .ok (.aload_n 3, 1) := by decide +kernel
theorem dL_taken_1 : decode cL_taken 1 = .ok (.iconst 0, 1) := by decide +kernel
theorem dL_taken_2 : decode cL_taken 2 = .ok (.aload_n 0, 1) := by decide +kernel
theorem dL_taken_3 : decode cL_taken 3 = .ok (.iload_n 1, 1) := by decide +kernel
theorem dL_taken_4 : decode cL_taken 4 = .ok (.iload_n 2, 1) := by decide +kernel
theorem dL_taken_5 : decode cL_taken 5 = .ok (.invokevirtual 131, 3) := by decide +kernel
theorem dL_taken_13 : decode cL_taken 13 = .ok (.astore 4, 2) := by decide +kernel
theorem dL_taken_15 : decode cL_taken 15 = .ok (.iconst 1, 1) := by decide +kernel
theorem dL_taken_16 : decode cL_taken 16 = .ok (.ireturn, 1) := by decide +kernel
set_option maxRecDepth 20000 in
theorem ggL_takenAt_X9_takenAt : GoodIn wsL_takenAt wsX9_takenAt := goodIn_ca (goodIn_ca (goodIn_ca (goodIn_ca (goodIn_r _ [6, 7, 8, 9, 5, 10, 11, 12, 13, 14, 15, 16, 17, 18, 19, 20, 21, 22, 23, 24, 25, 26, 27, 28, 29, 30, 31, 32, 33, 34, 35, 36, 37, 38, 39, 40, 41, 42, 43, 44, 45, 46, 47, 48, 49, 50, 51, 52, 53, 54, 55, 56, 57, 58, 59, 60, 61, 62, 63, 64, 65, 66, 67, 68, 69, 70, 71, 72, 73, 74, 75, 76, 77, 78, 79, 80, 81, 82, 83] (by decide +kernel) (by decide +kernel)) (goodIn_sub (fun _ h => List.mem_cons_of_mem _ (List.mem_append_left _ (List.mem_append_left _ (List.mem_append_right _ h)))) (by decide +kernel))) (goodIn_sub (fun _ h => List.mem_cons_of_mem _ (List.mem_append_left _ (List.mem_append_right _ h))) (by decide +kernel))) (goodIn_sub (fun _ h => List.mem_cons_of_mem _ (List.mem_append_right _ h)) (by decide +kernel))) (goodIn_sub (fun _ h => List.mem_cons_of_mem _ (List.mem_append_left _ (List.mem_append_left _ (List.mem_append_left _ (List.mem_append_right _ h))))) (by decide +kernel))
set_option maxRecDepth 20000 in
theorem gL_takenAt_X9_takenAt : GoodIn wsL_takenAt (wsV RL 134 RX9 yX9_takenAt wsX9_takenAt) := goodIn_app (goodIn_of _ (by decide +kernel)) ggL_takenAt_X9_takenAt
theorem dL_takenAt_0 : decode cL_takenAt 0 = .ok (.aload 4, 2) := by decide +kernel
theorem dL_takenAt_2 : decode cL_takenAt 2 = .ok (.iconst 0, 1) := by decide +kernel
theorem dL_takenAt_3 : decode cL_takenAt 3 = .ok (.aload_n 0, 1) := by decide +kernel
theorem dL_takenAt_4 : decode cL_takenAt 4 = .ok (.iload_n 1, 1) := by decide +kernel
theorem dL_takenAt_5 : decode cL_takenAt 5 = .ok (.iload_n 2, 1) := by decide +kernel
theorem dL_takenAt_6 : decode cL_takenAt 6 = .ok (.iload_n 3, 1) := by decide +kernel
theorem dL_takenAt_7 : decode cL_takenAt 7 = .ok (.invokevirtual 134, 3) := by decide +kernel
theorem dL_takenAt_15 : decode cL_takenAt 15 = .ok (.astore 5, 2) := by decide +kernel
theorem dL_takenAt_17 : decode cL_takenAt 17 = .ok (.iconst 1, 1) := by decide +kernel
theorem dL_takenAt_18 : decode cL_takenAt 18 = .ok (.ireturn, 1) := by decide +kernel
set_option maxRecDepth 20000 in
theorem ggL_waiting_X9_waiting : GoodIn wsL_waiting wsX9_waiting := goodIn_ca (goodIn_ca (goodIn_r _ [6, 7, 8, 9, 10, 11, 5, 12, 13, 14, 15, 16, 17, 18, 19, 20, 21, 22, 23, 24, 25, 26, 27, 28, 29, 30, 31, 32, 33, 34, 35, 36, 37, 38, 39, 40, 41, 42, 43, 44, 45, 46, 47, 48, 49, 50, 51, 52, 53, 54, 55, 56, 57, 58, 59, 60, 61, 62, 63, 64, 65, 66, 67, 68] (by decide +kernel) (by decide +kernel)) (goodIn_sub (fun _ h => List.mem_cons_of_mem _ (List.mem_append_left _ (List.mem_append_right _ h))) (by decide +kernel))) (goodIn_sub (fun _ h => List.mem_cons_of_mem _ (List.mem_append_right _ h)) (by decide +kernel))
set_option maxRecDepth 20000 in
theorem gL_waiting_X9_waiting : GoodIn wsL_waiting (wsV RL 137 RX9 yX9_waiting wsX9_waiting) := goodIn_app (goodIn_of _ (by decide +kernel)) ggL_waiting_X9_waiting
theorem dL_waiting_0 : decode cL_waiting 0 = .ok (.aload_n 3, 1) := by decide +kernel
theorem dL_waiting_1 : decode cL_waiting 1 = .ok (.iconst 0, 1) := by decide +kernel
theorem dL_waiting_2 : decode cL_waiting 2 = .ok (.aload_n 0, 1) := by decide +kernel
theorem dL_waiting_3 : decode cL_waiting 3 = .ok (.iload_n 1, 1) := by decide +kernel
theorem dL_waiting_4 : decode cL_waiting 4 = .ok (.iload_n 2, 1) := by decide +kernel
theorem dL_waiting_5 : decode cL_waiting 5 = .ok (.invokevirtual 137, 3) := by decide +kernel
theorem dL_waiting_13 : decode cL_waiting 13 = .ok (.astore 4, 2) := by decide +kernel
theorem dL_waiting_15 : decode cL_waiting 15 = .ok (.iconst 1, 1) := by decide +kernel
theorem dL_waiting_16 : decode cL_waiting 16 = .ok (.ireturn, 1) := by decide +kernel
set_option maxRecDepth 20000 in
theorem ggL_gotAt_X9_gotAt : GoodIn wsL_gotAt wsX9_gotAt := goodIn_ca (goodIn_ca (goodIn_r _ [6, 7, 8, 9, 5, 10, 11, 12, 13, 14, 15, 16, 17, 18, 19, 20, 21, 22, 23, 24, 25, 26, 27, 28, 29, 30, 31, 32, 33, 34, 35] (by decide +kernel) (by decide +kernel)) (goodIn_sub (fun _ h => List.mem_cons_of_mem _ (List.mem_append_right _ h)) (by decide +kernel))) (goodIn_sub (fun _ h => List.mem_cons_of_mem _ (List.mem_append_left _ (List.mem_append_right _ h))) (by decide +kernel))
set_option maxRecDepth 20000 in
theorem gL_gotAt_X9_gotAt : GoodIn wsL_gotAt (wsV RL 140 RX9 yX9_gotAt wsX9_gotAt) := goodIn_app (goodIn_of _ (by decide +kernel)) ggL_gotAt_X9_gotAt
theorem dL_gotAt_0 : decode cL_gotAt 0 = .ok (.aload_n 2, 1) := by decide +kernel
theorem dL_gotAt_1 : decode cL_gotAt 1 = .ok (.iconst 0, 1) := by decide +kernel
theorem dL_gotAt_2 : decode cL_gotAt 2 = .ok (.aload_n 0, 1) := by decide +kernel
theorem dL_gotAt_3 : decode cL_gotAt 3 = .ok (.iload_n 1, 1) := by decide +kernel
theorem dL_gotAt_4 : decode cL_gotAt 4 = .ok (.invokevirtual 140, 3) := by decide +kernel
theorem dL_gotAt_12 : decode cL_gotAt 12 = .ok (.astore_n 3, 1) := by decide +kernel
theorem dL_gotAt_13 : decode cL_gotAt 13 = .ok (.iconst 1, 1) := by decide +kernel
theorem dL_gotAt_14 : decode cL_gotAt 14 = .ok (.ireturn, 1) := by decide +kernel
set_option maxRecDepth 20000 in
theorem ggL_packets_X9_packets : GoodIn wsL_packets wsX9_packets := goodIn_ca (goodIn_r _ [6, 7, 8, 9, 10, 11, 12, 13, 14, 15, 16, 17, 18, 19, 20, 21, 22, 23, 24, 25] (by decide +kernel) (by decide +kernel)) (goodIn_sub (fun _ h => List.mem_cons_of_mem _ (List.mem_append_right _ h)) (by decide +kernel))
set_option maxRecDepth 20000 in
theorem gL_packets_X9_packets : GoodIn wsL_packets (wsV RL 143 RX9 yX9_packets wsX9_packets) := goodIn_app (goodIn_of _ (by decide +kernel)) ggL_packets_X9_packets
theorem dL_packets_0 : decode cL_packets 0 = .ok (.aload_n 2, 1) := by decide +kernel
theorem dL_packets_1 : decode cL_packets 1 = .ok (.iconst 0, 1) := by decide +kernel
theorem dL_packets_2 : decode cL_packets 2 = .ok (.aload_n 0, 1) := by decide +kernel
theorem dL_packets_3 : decode cL_packets 3 = .ok (.iload_n 1, 1) := by decide +kernel
theorem dL_packets_4 : decode cL_packets 4 = .ok (.invokevirtual 143, 3) := by decide +kernel
theorem dL_packets_7 : decode cL_packets 7 = .ok (.i2l, 1) := by decide +kernel
theorem dL_packets_8 : decode cL_packets 8 = .ok (.lastore, 1) := by decide +kernel
theorem dL_packets_9 : decode cL_packets 9 = .ok (.goto 6, 3) := by decide +kernel
theorem dL_packets_12 : decode cL_packets 12 = .ok (.astore_n 3, 1) := by decide +kernel
theorem dL_packets_13 : decode cL_packets 13 = .ok (.iconst 1, 1) := by decide +kernel
theorem dL_packets_14 : decode cL_packets 14 = .ok (.ireturn, 1) := by decide +kernel
theorem dL_packets_15 : decode cL_packets 15 = .ok (.iconst 0, 1) := by decide +kernel
theorem dL_packets_16 : decode cL_packets 16 = .ok (.ireturn, 1) := by decide +kernel
set_option maxRecDepth 20000 in
theorem ggL_blame_X9_blame : GoodIn wsL_blame wsX9_blame := goodIn_ca (goodIn_r _ [6, 7, 8, 9, 5, 10, 11, 12, 13, 14, 15, 16, 17, 18, 19, 20, 21, 22, 23, 24, 25, 26, 27, 28, 29, 30, 31, 32, 33, 34, 35, 36, 37, 38, 39, 40, 41, 42, 43, 44, 45, 46, 47] (by decide +kernel) (by decide +kernel)) (goodIn_sub (fun _ h => List.mem_cons_of_mem _ (List.mem_append_right _ h)) (by decide +kernel))
set_option maxRecDepth 20000 in
theorem gL_blame_X9_blame : GoodIn wsL_blame (wsV RL 147 RX9 yX9_blame wsX9_blame) := goodIn_app (goodIn_of _ (by decide +kernel)) ggL_blame_X9_blame
theorem dL_blame_0 : decode cL_blame 0 = .ok (.aload_n 2, 1) := by decide +kernel
theorem dL_blame_1 : decode cL_blame 1 = .ok (.iconst 0, 1) := by decide +kernel
theorem dL_blame_2 : decode cL_blame 2 = .ok (.aload_n 0, 1) := by decide +kernel
theorem dL_blame_3 : decode cL_blame 3 = .ok (.iload_n 1, 1) := by decide +kernel
theorem dL_blame_4 : decode cL_blame 4 = .ok (.invokevirtual 147, 3) := by decide +kernel
theorem dL_blame_7 : decode cL_blame 7 = .ok (.i2l, 1) := by decide +kernel
theorem dL_blame_8 : decode cL_blame 8 = .ok (.lastore, 1) := by decide +kernel
theorem dL_blame_9 : decode cL_blame 9 = .ok (.goto 6, 3) := by decide +kernel
theorem dL_blame_12 : decode cL_blame 12 = .ok (.astore_n 3, 1) := by decide +kernel
theorem dL_blame_13 : decode cL_blame 13 = .ok (.iconst 1, 1) := by decide +kernel
theorem dL_blame_14 : decode cL_blame 14 = .ok (.ireturn, 1) := by decide +kernel
theorem dL_blame_15 : decode cL_blame 15 = .ok (.iconst 0, 1) := by decide +kernel
theorem dL_blame_16 : decode cL_blame 16 = .ok (.ireturn, 1) := by decide +kernel
set_option maxRecDepth 20000 in
theorem ggL_causeOf_X9_causeOf : GoodIn wsL_causeOf wsX9_causeOf := goodIn_ca (goodIn_ca (goodIn_r _ [6, 7, 8, 9, 10, 11, 5, 12, 13, 14, 15, 16, 17, 18, 19, 20, 21, 22, 23, 24, 25, 26, 27, 28, 29, 30, 31, 32, 33, 34, 35, 36, 37, 38, 39, 40, 41, 42, 43, 44, 45, 46, 47, 48, 49, 50] (by decide +kernel) (by decide +kernel)) (goodIn_sub (fun _ h => List.mem_cons_of_mem _ (List.mem_append_left _ (List.mem_append_right _ h))) (by decide +kernel))) (goodIn_sub (fun _ h => List.mem_cons_of_mem _ (List.mem_append_right _ h)) (by decide +kernel))
set_option maxRecDepth 20000 in
theorem gL_causeOf_X9_causeOf : GoodIn wsL_causeOf (wsV RL 150 RX9 yX9_causeOf wsX9_causeOf) := goodIn_app (goodIn_of _ (by decide +kernel)) ggL_causeOf_X9_causeOf
theorem dL_causeOf_0 : decode cL_causeOf 0 = .ok (.aload_n 2, 1) := by decide +kernel
theorem dL_causeOf_1 : decode cL_causeOf 1 = .ok (.iconst 0, 1) := by decide +kernel
theorem dL_causeOf_2 : decode cL_causeOf 2 = .ok (.aload_n 0, 1) := by decide +kernel
theorem dL_causeOf_3 : decode cL_causeOf 3 = .ok (.iload_n 1, 1) := by decide +kernel
theorem dL_causeOf_4 : decode cL_causeOf 4 = .ok (.invokevirtual 150, 3) := by decide +kernel
theorem dL_causeOf_12 : decode cL_causeOf 12 = .ok (.astore_n 3, 1) := by decide +kernel
theorem dL_causeOf_13 : decode cL_causeOf 13 = .ok (.iconst 1, 1) := by decide +kernel
theorem dL_causeOf_14 : decode cL_causeOf 14 = .ok (.ireturn, 1) := by decide +kernel
set_option maxRecDepth 20000 in
theorem ggL_busyShare_X9_busyShare : GoodIn wsL_busyShare wsX9_busyShare := goodIn_ca (goodIn_r _ [6, 7, 8, 9, 10, 11, 12, 13, 14, 15, 16, 17, 18, 19, 20, 21, 22, 23, 24, 25, 26, 27, 28] (by decide +kernel) (by decide +kernel)) (goodIn_sub (fun _ h => List.mem_cons_of_mem _ (List.mem_append_right _ h)) (by decide +kernel))
set_option maxRecDepth 20000 in
theorem gL_busyShare_X9_busyShare : GoodIn wsL_busyShare (wsV RL 153 RX9 yX9_busyShare wsX9_busyShare) := goodIn_app (goodIn_of _ (by decide +kernel)) ggL_busyShare_X9_busyShare
theorem dL_busyShare_0 : decode cL_busyShare 0 = .ok (.aload_n 1, 1) := by decide +kernel
theorem dL_busyShare_1 : decode cL_busyShare 1 = .ok (.iconst 0, 1) := by decide +kernel
theorem dL_busyShare_2 : decode cL_busyShare 2 = .ok (.aload_n 0, 1) := by decide +kernel
theorem dL_busyShare_3 : decode cL_busyShare 3 = .ok (.invokevirtual 153, 3) := by decide +kernel
theorem dL_busyShare_11 : decode cL_busyShare 11 = .ok (.astore_n 2, 1) := by decide +kernel
theorem dL_busyShare_12 : decode cL_busyShare 12 = .ok (.iconst 1, 1) := by decide +kernel
theorem dL_busyShare_13 : decode cL_busyShare 13 = .ok (.ireturn, 1) := by decide +kernel
set_option maxRecDepth 20000 in
theorem ggL_meanBytes_X9_meanBytes : GoodIn wsL_meanBytes wsX9_meanBytes := goodIn_ca (goodIn_r _ [6, 7, 8, 9, 10, 11, 12, 13, 14, 15, 16, 17, 18, 19, 20, 21, 22, 23, 24, 25, 26, 27, 28, 29, 30, 31, 32] (by decide +kernel) (by decide +kernel)) (goodIn_sub (fun _ h => List.mem_cons_of_mem _ (List.mem_append_right _ h)) (by decide +kernel))
set_option maxRecDepth 20000 in
theorem gL_meanBytes_X9_meanBytes : GoodIn wsL_meanBytes (wsV RL 159 RX9 yX9_meanBytes wsX9_meanBytes) := goodIn_app (goodIn_of _ (by decide +kernel)) ggL_meanBytes_X9_meanBytes
theorem dL_meanBytes_0 : decode cL_meanBytes 0 = .ok (.aload_n 1, 1) := by decide +kernel
theorem dL_meanBytes_1 : decode cL_meanBytes 1 = .ok (.iconst 0, 1) := by decide +kernel
theorem dL_meanBytes_2 : decode cL_meanBytes 2 = .ok (.aload_n 0, 1) := by decide +kernel
theorem dL_meanBytes_3 : decode cL_meanBytes 3 = .ok (.invokevirtual 159, 3) := by decide +kernel
theorem dL_meanBytes_10 : decode cL_meanBytes 10 = .ok (.astore_n 2, 1) := by decide +kernel
theorem dL_meanBytes_11 : decode cL_meanBytes 11 = .ok (.iconst 1, 1) := by decide +kernel
theorem dL_meanBytes_12 : decode cL_meanBytes 12 = .ok (.ireturn, 1) := by decide +kernel
