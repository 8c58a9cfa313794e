theorem dX9_stuffed_76 : decode cX9_stuffed 76 = .ok (.iinc 3 1, 3) := by decide +kernel
theorem dX9_stuffed_79 : decode cX9_stuffed 79 = .ok (.goto (-73), 3) := by decide +kernel
theorem dX9_stuffed_82 : decode cX9_stuffed 82 = .ok (.iload_n 1, 1) := by decide +kernel
theorem dX9_stuffed_83 : decode cX9_stuffed 83 = .ok (.ireturn, 1) := by decide +kernel
set_option maxRecDepth 20000 in
theorem ggX9_open_X9_deviceAt : GoodIn wsX9_open wsX9_deviceAt := goodIn_ca (goodIn_r _ [12, 13, 14, 15, 16, 117, 118, 119, 120, 121, 122, 123, 124, 125, 126, 127, 128, 129] (by decide +kernel) (by decide +kernel)) (goodIn_sub (fun _ h => List.mem_cons_of_mem _ (List.mem_append_left _ (List.mem_append_right _ h))) (by decide +kernel))
set_option maxRecDepth 20000 in
theorem gX9_open_X9_deviceAt : GoodIn wsX9_open (wsV RX9 124 RX9 yX9_deviceAt wsX9_deviceAt) := goodIn_app (goodIn_of _ (by decide +kernel)) ggX9_open_X9_deviceAt
set_option maxRecDepth 20000 in
theorem ggX9_open_X9_endpointAt : GoodIn wsX9_open wsX9_endpointAt := goodIn_ca (goodIn_r _ [19, 13, 14, 20, 21, 11, 22, 88, 89, 90, 91, 92, 93, 94, 95, 96, 97, 98, 99, 100, 101, 102, 103, 104, 105, 106, 107, 108, 109, 110, 111, 112, 113, 114, 115, 116] (by decide +kernel) (by decide +kernel)) (goodIn_sub (fun _ h => List.mem_cons_of_mem _ (List.mem_append_left _ (List.mem_append_right _ h))) (by decide +kernel))
set_option maxRecDepth 20000 in
theorem gX9_open_X9_endpointAt : GoodIn wsX9_open (va_wsS RX9 283 yX9_endpointAt wsX9_endpointAt) := goodIn_app (goodIn_of _ (by decide +kernel)) ggX9_open_X9_endpointAt
set_option maxRecDepth 20000 in
theorem ggX9_open_X9_isPeriodic : GoodIn wsX9_open wsX9_isPeriodic := goodIn_r _ [25] (by decide +kernel) (by decide +kernel)
set_option maxRecDepth 20000 in
theorem gX9_open_X9_isPeriodic : GoodIn wsX9_open (va_wsS RX9 287 yX9_isPeriodic wsX9_isPeriodic) := goodIn_app (goodIn_of _ (by decide +kernel)) ggX9_open_X9_isPeriodic
set_option maxRecDepth 20000 in
theorem ggX9_open_X9_isInterval : GoodIn wsX9_open wsX9_isInterval := goodIn_r _ [28] (by decide +kernel) (by decide +kernel)
set_option maxRecDepth 20000 in
theorem gX9_open_X9_isInterval : GoodIn wsX9_open (va_wsS RX9 290 yX9_isInterval wsX9_isInterval) := goodIn_app (goodIn_of _ (by decide +kernel)) ggX9_open_X9_isInterval
set_option maxRecDepth 20000 in
theorem ggX9_open_X9_hostCost : GoodIn wsX9_open wsX9_hostCost := goodIn_r _ [31] (by decide +kernel) (by decide +kernel)
set_option maxRecDepth 20000 in
theorem gX9_open_X9_hostCost : GoodIn wsX9_open (va_wsS RX9 301 yX9_hostCost wsX9_hostCost) := goodIn_app (goodIn_of _ (by decide +kernel)) ggX9_open_X9_hostCost
set_option maxRecDepth 20000 in
theorem ggX9_open_X9_hubCost : GoodIn wsX9_open wsX9_hubCost := goodIn_r _ [34] (by decide +kernel) (by decide +kernel)
set_option maxRecDepth 20000 in
theorem gX9_open_X9_hubCost : GoodIn wsX9_open (va_wsS RX9 304 yX9_hubCost wsX9_hubCost) := goodIn_app (goodIn_of _ (by decide +kernel)) ggX9_open_X9_hubCost
set_option maxRecDepth 20000 in
theorem ggX9_open_X8_bestPhase : GoodIn wsX9_open wsX8_bestPhase := goodIn_ca (goodIn_r _ [38, 39, 40, 41, 36, 42, 43, 44, 45, 46, 47, 48, 49, 50, 51, 52, 144, 145, 146, 147, 148] (by decide +kernel) (by decide +kernel)) (goodIn_sub (fun _ h => List.mem_cons_of_mem _ (List.mem_append_right _ h)) (by decide +kernel))
set_option maxRecDepth 20000 in
theorem gX9_open_X8_bestPhase_n308 : GoodIn wsX9_open (wsX8_bestPhase) := ggX9_open_X8_bestPhase
set_option maxRecDepth 20000 in
theorem ggX9_open_X9_firstClosedPipe : GoodIn wsX9_open wsX9_firstClosedPipe := goodIn_r _ [56, 57, 58, 59, 60, 61, 62, 117, 118, 119, 120, 121, 122, 123, 124, 125, 126, 127, 128, 129, 130, 131, 132, 133, 134, 135, 136, 137, 138, 139, 140, 141, 142, 143] (by decide +kernel) (by decide +kernel)
set_option maxRecDepth 20000 in
theorem gX9_open_X9_firstClosedPipe : GoodIn wsX9_open (wsV RX9 313 RX9 yX9_firstClosedPipe wsX9_firstClosedPipe) := goodIn_app (goodIn_of _ (by decide +kernel)) ggX9_open_X9_firstClosedPipe
set_option maxRecDepth 20000 in
theorem ggX9_open_X5_attach : GoodIn wsX9_open wsX5_attach := goodIn_r _ [65, 62, 66, 67, 68, 69, 70, 71, 59, 72, 73, 74, 75, 130, 131, 132, 133, 134, 135, 136, 137, 138, 139, 140, 141, 142, 143, 108, 109, 110, 111, 112, 113, 114, 115, 116] (by decide +kernel) (by decide +kernel)
set_option maxRecDepth 20000 in
theorem gX9_open_X5_attach_n319 : GoodIn wsX9_open (wsX5_attach) := ggX9_open_X5_attach
set_option maxRecDepth 20000 in
theorem ggX9_open_X9_reserveFor : GoodIn wsX9_open wsX9_reserveFor := goodIn_ca (goodIn_r _ [79, 7, 29, 30, 11, 31, 32, 33, 34, 80, 59, 81, 82, 83, 84, 85, 36, 86, 87, 43, 52, 108, 109, 110, 111, 112, 113, 114, 115, 116, 88, 89, 90, 91, 92, 93, 94, 95, 96, 97, 98, 99, 100, 101, 102, 103, 104, 105, 106, 107, 117, 118, 119, 120, 121, 122, 123, 124, 125, 126, 127, 128, 129, 130, 131, 132, 133, 134, 135, 136, 137, 138, 139, 140, 141, 142, 143, 144, 145, 146, 147, 148] (by decide +kernel) (by decide +kernel)) (goodIn_sub (fun _ h => List.mem_cons_of_mem _ (List.mem_append_right _ h)) (by decide +kernel))
set_option maxRecDepth 20000 in
theorem gX9_open_X9_reserveFor : GoodIn wsX9_open (wsV RX9 329 RX9 yX9_reserveFor wsX9_reserveFor) := goodIn_app (goodIn_of _ (by decide +kernel)) ggX9_open_X9_reserveFor
theorem dX9_open_0 : decode cX9_open 0 = .ok (.aload_n 0, 1) := by decide +kernel
theorem dX9_open_1 : decode cX9_open 1 = .ok (.iload_n 1, 1) := by decide +kernel
theorem dX9_open_2 : decode cX9_open 2 = .ok (.invokevirtual 124, 3) := by decide +kernel
theorem dX9_open_5 : decode cX9_open 5 = .ok (.astore 5, 2) := by decide +kernel
theorem dX9_open_7 : decode cX9_open 7 = .ok (.aload 5, 2) := by decide +kernel
theorem dX9_open_9 : decode cX9_open 9 = .ok (.iload_n 2, 1) := by decide +kernel
theorem dX9_open_10 : decode cX9_open 10 = .ok (.invokestatic 283, 3) := by decide +kernel
theorem dX9_open_13 : decode cX9_open 13 = .ok (.astore 6, 2) := by decide +kernel
theorem dX9_open_15 : decode cX9_open 15 = .ok (.iload_n 3, 1) := by decide +kernel
theorem dX9_open_16 : decode cX9_open 16 = .ok (.bipush 98, 2) := by decide +kernel
theorem dX9_open_18 : decode cX9_open 18 = .ok (.if_icmp .eq 29, 3) := by decide +kernel
theorem dX9_open_21 : decode cX9_open 21 = .ok (.iload_n 3, 1) := by decide +kernel
theorem dX9_open_22 : decode cX9_open 22 = .ok (.invokestatic 287, 3) := by decide +kernel
theorem dX9_open_25 : decode cX9_open 25 = .ok (.ifCond .eq 11, 3) := by decide +kernel
theorem dX9_open_28 : decode cX9_open 28 = .ok (.iload 4, 2) := by decide +kernel
theorem dX9_open_30 : decode cX9_open 30 = .ok (.invokestatic 290, 3) := by decide +kernel
theorem dX9_open_33 : decode cX9_open 33 = .ok (.ifCond .ne 14, 3) := by decide +kernel
theorem dX9_open_36 : decode cX9_open 36 = .ok (.new 92, 3) := by decide +kernel
theorem dX9_open_39 : decode cX9_open 39 = .ok (.dup, 1) := by decide +kernel
theorem dX9_open_40 : decode cX9_open 40 = .ok (.ldc_w 294, 3) := by decide +kernel
theorem dX9_open_43 : decode cX9_open 43 = .ok (.invokespecial 96, 3) := by decide +kernel
theorem dX9_open_46 : decode cX9_open 46 = .ok (.athrow, 1) := by decide +kernel
theorem dX9_open_47 : decode cX9_open 47 = .ok (.aload 5, 2) := by decide +kernel
theorem dX9_open_49 : decode cX9_open 49 = .ok (.getfield 74, 3) := by decide +kernel
theorem dX9_open_52 : decode cX9_open 52 = .ok (.bipush 99, 2) := by decide +kernel
theorem dX9_open_54 : decode cX9_open 54 = .ok (.if_icmp .ne 11, 3) := by decide +kernel
theorem dX9_open_57 : decode cX9_open 57 = .ok (.aload 6, 2) := by decide +kernel
theorem dX9_open_59 : decode cX9_open 59 = .ok (.getfield 296, 3) := by decide +kernel
theorem dX9_open_62 : decode cX9_open 62 = .ok (.ifCond .eq 14, 3) := by decide +kernel
theorem dX9_open_65 : decode cX9_open 65 = .ok (.new 139, 3) := by decide +kernel
theorem dX9_open_68 : decode cX9_open 68 = .ok (.dup, 1) := by decide +kernel
theorem dX9_open_69 : decode cX9_open 69 = .ok (.ldc_w 299, 3) := by decide +kernel
theorem dX9_open_72 : decode cX9_open 72 = .ok (.invokespecial 143, 3) := by decide +kernel
theorem dX9_open_75 : decode cX9_open 75 = .ok (.athrow, 1) := by decide +kernel
theorem dX9_open_76 : decode cX9_open 76 = .ok (.iconst (-1), 1) := by decide +kernel
theorem dX9_open_77 : decode cX9_open 77 = .ok (.istore 7, 2) := by decide +kernel
theorem dX9_open_79 : decode cX9_open 79 = .ok (.iload_n 3, 1) := by decide +kernel
theorem dX9_open_80 : decode cX9_open 80 = .ok (.bipush 98, 2) := by decide +kernel
theorem dX9_open_82 : decode cX9_open 82 = .ok (.if_icmp .eq 56, 3) := by decide +kernel
theorem dX9_open_85 : decode cX9_open 85 = .ok (.aload_n 0, 1) := by decide +kernel
theorem dX9_open_86 : decode cX9_open 86 = .ok (.getfield 45, 3) := by decide +kernel
theorem dX9_open_89 : decode cX9_open 89 = .ok (.iload 4, 2) := by decide +kernel
theorem dX9_open_91 : decode cX9_open 91 = .ok (.aload 6, 2) := by decide +kernel
theorem dX9_open_93 : decode cX9_open 93 = .ok (.getfield 147, 3) := by decide +kernel
theorem dX9_open_96 : decode cX9_open 96 = .ok (.invokestatic 301, 3) := by decide +kernel
theorem dX9_open_99 : decode cX9_open 99 = .ok (.aload 5, 2) := by decide +kernel
theorem dX9_open_101 : decode cX9_open 101 = .ok (.getfield 182, 3) := by decide +kernel
theorem dX9_open_104 : decode cX9_open 104 = .ok (.aload 5, 2) := by decide +kernel
theorem dX9_open_106 : decode cX9_open 106 = .ok (.getfield 109, 3) := by decide +kernel
theorem dX9_open_109 : decode cX9_open 109 = .ok (.aload 6, 2) := by decide +kernel
theorem dX9_open_111 : decode cX9_open 111 = .ok (.getfield 147, 3) := by decide +kernel
theorem dX9_open_114 : decode cX9_open 114 = .ok (.invokestatic 304, 3) := by decide +kernel
theorem dX9_open_117 : decode cX9_open 117 = .ok (.invokevirtual 308, 3) := by decide +kernel
theorem dX9_open_120 : decode cX9_open 120 = .ok (.istore 7, 2) := by decide +kernel
theorem dX9_open_122 : decode cX9_open 122 = .ok (.iload 7, 2) := by decide +kernel
theorem dX9_open_124 : decode cX9_open 124 = .ok (.ifCond .ge 14, 3) := by decide +kernel
theorem dX9_open_127 : decode cX9_open 127 = .ok (.new 139, 3) := by decide +kernel
theorem dX9_open_130 : decode cX9_open 130 = .ok (.dup, 1) := by decide +kernel
theorem dX9_open_131 : decode cX9_open 131 = .ok (.ldc_w 311, 3) := by decide +kernel
theorem dX9_open_134 : decode cX9_open 134 = .ok (.invokespecial 143, 3) := by decide +kernel
theorem dX9_open_137 : decode cX9_open 137 = .ok (.athrow, 1) := by decide +kernel
theorem dX9_open_138 : decode cX9_open 138 = .ok (.aload_n 0, 1) := by decide +kernel
theorem dX9_open_139 : decode cX9_open 139 = .ok (.invokevirtual 313, 3) := by decide +kernel
theorem dX9_open_142 : decode cX9_open 142 = .ok (.astore 8, 2) := by decide +kernel
theorem dX9_open_144 : decode cX9_open 144 = .ok (.aload 8, 2) := by decide +kernel
theorem dX9_open_146 : decode cX9_open 146 = .ok (.ifnonnull 14, 3) := by decide +kernel
theorem dX9_open_149 : decode cX9_open 149 = .ok (.new 101, 3) := by decide +kernel
theorem dX9_open_152 : decode cX9_open 152 = .ok (.dup, 1) := by decide +kernel
theorem dX9_open_153 : decode cX9_open 153 = .ok (.ldc_w 317, 3) := by decide +kernel
theorem dX9_open_156 : decode cX9_open 156 = .ok (.invokespecial 105, 3) := by decide +kernel
theorem dX9_open_159 : decode cX9_open 159 = .ok (.athrow, 1) := by decide +kernel
theorem dX9_open_160 : decode cX9_open 160 = .ok (.aload 8, 2) := by decide +kernel
theorem dX9_open_162 : decode cX9_open 162 = .ok (.aload 5, 2) := by decide +kernel
theorem dX9_open_164 : decode cX9_open 164 = .ok (.aload 6, 2) := by decide +kernel
theorem dX9_open_166 : decode cX9_open 166 = .ok (.iload_n 3, 1) := by decide +kernel
theorem dX9_open_167 : decode cX9_open 167 = .ok (.invokevirtual 319, 3) := by decide +kernel
theorem dX9_open_170 : decode cX9_open 170 = .ok (.aload 8, 2) := by decide +kernel
theorem dX9_open_172 : decode cX9_open 172 = .ok (.iload_n 3, 1) := by decide +kernel
theorem dX9_open_173 : decode cX9_open 173 = .ok (.bipush 98, 2) := by decide +kernel
theorem dX9_open_175 : decode cX9_open 175 = .ok (.if_icmp .ne 7, 3) := by decide +kernel
theorem dX9_open_178 : decode cX9_open 178 = .ok (.iconst 1, 1) := by decide +kernel
theorem dX9_open_179 : decode cX9_open 179 = .ok (.goto 5, 3) := by decide +kernel
theorem dX9_open_182 : decode cX9_open 182 = .ok (.iload 4, 2) := by decide +kernel
theorem dX9_open_184 : decode cX9_open 184 = .ok (.putfield 323, 3) := by decide +kernel
theorem dX9_open_187 : decode cX9_open 187 = .ok (.aload 8, 2) := by decide +kernel
theorem dX9_open_189 : decode cX9_open 189 = .ok (.iload 7, 2) := by decide +kernel
theorem dX9_open_191 : decode cX9_open 191 = .ok (.putfield 326, 3) := by decide +kernel
theorem dX9_open_194 : decode cX9_open 194 = .ok (.aload_n 0, 1) := by decide +kernel
theorem dX9_open_195 : decode cX9_open 195 = .ok (.aload 8, 2) := by decide +kernel
theorem dX9_open_197 : decode cX9_open 197 = .ok (.aload 5, 2) := by decide +kernel
theorem dX9_open_199 : decode cX9_open 199 = .ok (.aload 6, 2) := by decide +kernel
theorem dX9_open_201 : decode cX9_open 201 = .ok (.iconst 1, 1) := by decide +kernel
theorem dX9_open_202 : decode cX9_open 202 = .ok (.invokevirtual 329, 3) := by decide +kernel
theorem dX9_open_205 : decode cX9_open 205 = .ok (.aload 8, 2) := by decide +kernel
theorem dX9_open_207 : decode cX9_open 207 = .ok (.getfield 333, 3) := by decide +kernel
theorem dX9_open_210 : decode cX9_open 210 = .ok (.ireturn, 1) := by decide +kernel
set_option maxRecDepth 20000 in
theorem ggX9_close_X9_openPipe : GoodIn wsX9_close wsX9_openPipe := goodIn_ca (goodIn_r _ [5, 6, 7, 8, 9, 10, 4, 11, 12, 13, 14, 15, 16, 73, 74, 75, 76, 77, 78, 79, 80, 81, 82, 83, 84, 85, 86, 87, 88, 89, 90, 91, 92, 93, 94, 95, 96, 97, 98, 99] (by decide +kernel) (by decide +kernel)) (goodIn_sub (fun _ h => List.mem_cons_of_mem _ (List.mem_append_left _ (List.mem_append_right _ h))) (by decide +kernel))
set_option maxRecDepth 20000 in
theorem gX9_close_X9_openPipe : GoodIn wsX9_close (wsV RX9 334 RX9 yX9_openPipe wsX9_openPipe) := goodIn_app (goodIn_of _ (by decide +kernel)) ggX9_close_X9_openPipe
set_option maxRecDepth 20000 in
theorem ggX9_close_X9_closeBy : GoodIn wsX9_close wsX9_closeBy := goodIn_ca (goodIn_r _ [20, 21, 22, 23, 4, 24, 25, 26, 27, 28, 29, 30, 31, 32, 13, 33, 34, 35, 36, 37, 38, 39, 40, 41, 42, 43, 44, 45, 46, 47, 48, 49, 50, 51, 52, 53, 54, 55, 56, 57, 58, 59, 60, 61, 62, 63, 64, 65, 66, 67, 68, 69, 70, 71, 72, 16, 86, 87, 88, 89, 90, 91, 92, 93, 94, 95, 96, 97, 98, 99, 100, 101, 102, 103, 104, 105, 106, 107, 108, 109, 110, 111, 112, 113, 114, 115, 116, 117, 118, 119, 120, 121, 122, 123, 124, 125, 126, 127, 128, 73, 74, 75, 76, 77, 78, 79, 80, 81, 82, 83, 84, 85, 129, 130, 131, 132, 133, 134, 135, 136, 137, 138, 139, 140, 141, 142, 143, 144, 145, 146, 147, 148, 149] (by decide +kernel) (by decide +kernel)) (goodIn_sub (fun _ h => List.mem_cons_of_mem _ (List.mem_append_right _ h)) (by decide +kernel))
set_option maxRecDepth 20000 in
theorem gX9_close_X9_closeBy : GoodIn wsX9_close (wsV RX9 338 RX9 yX9_closeBy wsX9_closeBy) := goodIn_app (goodIn_of _ (by decide +kernel)) ggX9_close_X9_closeBy
theorem dX9_close_0 : decode cX9_close 0 = .ok (.aload_n 0, 1) := by decide +kernel
theorem dX9_close_1 : decode cX9_close 1 = .ok (.aload_n 0, 1) := by decide +kernel
theorem dX9_close_2 : decode cX9_close 2 = .ok (.iload_n 1, 1) := by decide +kernel
theorem dX9_close_3 : decode cX9_close 3 = .ok (.invokevirtual 334, 3) := by decide +kernel
theorem dX9_close_6 : decode cX9_close 6 = .ok (.bipush 120, 2) := by decide +kernel
theorem dX9_close_8 : decode cX9_close 8 = .ok (.invokevirtual 338, 3) := by decide +kernel
theorem dX9_close_11 : decode cX9_close 11 = .ok (.ireturn, 1) := by decide +kernel
set_option maxRecDepth 20000 in
theorem ggX9_phaseOf_X9_openPipe : GoodIn wsX9_phaseOf wsX9_openPipe := goodIn_ca (goodIn_r _ [5, 6, 7, 8, 9, 10, 4, 11, 12, 13, 14, 15, 16, 31, 32, 33, 34, 35, 36, 37, 38, 39, 40, 41, 42, 43, 17, 18, 19, 20, 21, 22, 23, 24, 25, 26, 27, 28, 29, 30] (by decide +kernel) (by decide +kernel)) (goodIn_sub (fun _ h => List.mem_cons_of_mem _ (List.mem_append_right _ h)) (by decide +kernel))
set_option maxRecDepth 20000 in
theorem gX9_phaseOf_X9_openPipe : GoodIn wsX9_phaseOf (wsV RX9 334 RX9 yX9_openPipe wsX9_openPipe) := goodIn_app (goodIn_of _ (by decide +kernel)) ggX9_phaseOf_X9_openPipe
theorem dX9_phaseOf_0 : decode cX9_phaseOf 0 = .ok (.aload_n 0, 1) := by decide +kernel
theorem dX9_phaseOf_1 : decode cX9_phaseOf 1 = .ok (.iload_n 1, 1) := by decide +kernel
theorem dX9_phaseOf_2 : decode cX9_phaseOf 2 = .ok (.invokevirtual 334, 3) := by decide +kernel
theorem dX9_phaseOf_5 : decode cX9_phaseOf 5 = .ok (.getfield 326, 3) := by decide +kernel
theorem dX9_phaseOf_8 : decode cX9_phaseOf 8 = .ok (.ireturn, 1) := by decide +kernel
set_option maxRecDepth 20000 in
theorem ggX9_reserved_X9_isWithin : GoodIn wsX9_reserved wsX9_isWithin := goodIn_r _ [7] (by decide +kernel) (by decide +kernel)
set_option maxRecDepth 20000 in
theorem gX9_reserved_X9_isWithin : GoodIn wsX9_reserved (va_wsS RX9 88 yX9_isWithin wsX9_isWithin) := goodIn_app (goodIn_of _ (by decide +kernel)) ggX9_reserved_X9_isWithin
set_option maxRecDepth 20000 in
theorem ggX9_reserved_X9_deviceAt : GoodIn wsX9_reserved wsX9_deviceAt := goodIn_ca (goodIn_r _ [11, 12, 13, 14, 15, 16, 17, 18, 19, 20, 21, 22, 23, 24, 25, 26, 27, 28] (by decide +kernel) (by decide +kernel)) (goodIn_sub (fun _ h => List.mem_cons_of_mem _ (List.mem_append_right _ h)) (by decide +kernel))
set_option maxRecDepth 20000 in
theorem gX9_reserved_X9_deviceAt : GoodIn wsX9_reserved (wsV RX9 124 RX9 yX9_deviceAt wsX9_deviceAt) := goodIn_app (goodIn_of _ (by decide +kernel)) ggX9_reserved_X9_deviceAt
theorem dX9_reserved_0 : decode cX9_reserved 0 = .ok (.iload_n 1, 1) := by decide +kernel
theorem dX9_reserved_1 : decode cX9_reserved 1 = .ok (.iconst 0, 1) := by decide +kernel
theorem dX9_reserved_2 : decode cX9_reserved 2 = .ok (.bipush 7, 2) := by decide +kernel
theorem dX9_reserved_4 : decode cX9_reserved 4 = .ok (.invokestatic 88, 3) := by decide +kernel
theorem dX9_reserved_7 : decode cX9_reserved 7 = .ok (.ifCond .ne 14, 3) := by decide +kernel
theorem dX9_reserved_10 : decode cX9_reserved 10 = .ok (.new 92, 3) := by decide +kernel
theorem dX9_reserved_13 : decode cX9_reserved 13 = .ok (.dup, 1) := by decide +kernel
theorem dX9_reserved_14 : decode cX9_reserved 14 = .ok (.ldc_w 342, 3) := by decide +kernel
theorem dX9_reserved_17 : decode cX9_reserved 17 = .ok (.invokespecial 96, 3) := by decide +kernel
theorem dX9_reserved_20 : decode cX9_reserved 20 = .ok (.athrow, 1) := by decide +kernel
theorem dX9_reserved_21 : decode cX9_reserved 21 = .ok (.iload_n 2, 1) := by decide +kernel
theorem dX9_reserved_22 : decode cX9_reserved 22 = .ok (.iconst (-1), 1) := by decide +kernel
theorem dX9_reserved_23 : decode cX9_reserved 23 = .ok (.if_icmp .ne 13, 3) := by decide +kernel
theorem dX9_reserved_26 : decode cX9_reserved 26 = .ok (.aload_n 0, 1) := by decide +kernel
theorem dX9_reserved_27 : decode cX9_reserved 27 = .ok (.getfield 45, 3) := by decide +kernel
theorem dX9_reserved_30 : decode cX9_reserved 30 = .ok (.getfield 344, 3) := by decide +kernel
theorem dX9_reserved_33 : decode cX9_reserved 33 = .ok (.iload_n 1, 1) := by decide +kernel
theorem dX9_reserved_34 : decode cX9_reserved 34 = .ok (.iaload, 1) := by decide +kernel
theorem dX9_reserved_35 : decode cX9_reserved 35 = .ok (.ireturn, 1) := by decide +kernel
theorem dX9_reserved_36 : decode cX9_reserved 36 = .ok (.aload_n 0, 1) := by decide +kernel
theorem dX9_reserved_37 : decode cX9_reserved 37 = .ok (.getfield 45, 3) := by decide +kernel
theorem dX9_reserved_40 : decode cX9_reserved 40 = .ok (.getfield 347, 3) := by decide +kernel
theorem dX9_reserved_43 : decode cX9_reserved 43 = .ok (.aload_n 0, 1) := by decide +kernel
theorem dX9_reserved_44 : decode cX9_reserved 44 = .ok (.iload_n 2, 1) := by decide +kernel
theorem dX9_reserved_45 : decode cX9_reserved 45 = .ok (.invokevirtual 124, 3) := by decide +kernel
theorem dX9_reserved_48 : decode cX9_reserved 48 = .ok (.getfield 121, 3) := by decide +kernel
theorem dX9_reserved_51 : decode cX9_reserved 51 = .ok (.bipush 8, 2) := by decide +kernel
theorem dX9_reserved_53 : decode cX9_reserved 53 = .ok (.imul, 1) := by decide +kernel
theorem dX9_reserved_54 : decode cX9_reserved 54 = .ok (.iload_n 1, 1) := by decide +kernel
theorem dX9_reserved_55 : decode cX9_reserved 55 = .ok (.iadd, 1) := by decide +kernel
theorem dX9_reserved_56 : decode cX9_reserved 56 = .ok (.iaload, 1) := by decide +kernel
theorem dX9_reserved_57 : decode cX9_reserved 57 = .ok (.ireturn, 1) := by decide +kernel
set_option maxRecDepth 20000 in
theorem ggX9_send_X9_openPipe : GoodIn wsX9_send wsX9_openPipe := goodIn_ca (goodIn_r _ [10, 11, 12, 13, 14, 15, 9, 16, 17, 18, 19, 20, 21, 69, 70, 71, 72, 73, 74, 75, 76, 77, 78, 79, 80, 81, 46, 47, 48, 49, 50, 51, 52, 53, 54, 55, 56, 57, 58, 59] (by decide +kernel) (by decide +kernel)) (goodIn_sub (fun _ h => List.mem_cons_of_mem _ (List.mem_append_right _ h)) (by decide +kernel))
set_option maxRecDepth 20000 in
theorem gX9_send_X9_openPipe : GoodIn wsX9_send (wsV RX9 334 RX9 yX9_openPipe wsX9_openPipe) := goodIn_app (goodIn_of _ (by decide +kernel)) ggX9_send_X9_openPipe
set_option maxRecDepth 20000 in
theorem ggX9_send_X5_addTransfer : GoodIn wsX9_send wsX5_addTransfer := goodIn_r _ [24, 25, 26, 27, 28, 18, 29, 30, 31, 46, 47, 48, 49, 50, 51, 52, 53, 54, 55, 56, 57, 58, 59, 86, 87, 88, 89, 90, 91] (by decide +kernel) (by decide +kernel)
set_option maxRecDepth 20000 in
theorem gX9_send_X5_addTransfer_n361 : GoodIn wsX9_send (wsX5_addTransfer) := ggX9_send_X5_addTransfer
set_option maxRecDepth 20000 in
theorem ggX9_send_X0_at : GoodIn wsX9_send wsX0_at := goodIn_ca (goodIn_r _ [35, 36, 37, 82, 83, 84, 85] (by decide +kernel) (by decide +kernel)) (goodIn_sub (fun _ h => List.mem_cons_of_mem _ (List.mem_append_left _ (List.mem_append_right _ h))) (by decide +kernel))
set_option maxRecDepth 20000 in
theorem gX9_send_X0_at_n278 : GoodIn wsX9_send (wsX0_at) := ggX9_send_X0_at
set_option maxRecDepth 20000 in
theorem ggX9_send_X0_drop : GoodIn wsX9_send wsX0_drop := goodIn_r _ [40, 41, 42, 43, 44, 45, 37, 82, 83, 84, 85] (by decide +kernel) (by decide +kernel)
set_option maxRecDepth 20000 in
theorem gX9_send_X0_drop_n274 : GoodIn wsX9_send (wsX0_drop) := ggX9_send_X0_drop
theorem dX9_send_0 : decode cX9_send 0 = .ok (.aload_n 0, 1) := by decide +kernel
theorem dX9_send_1 : decode cX9_send 1 = .ok (.iload_n 1, 1) := by decide +kernel
theorem dX9_send_2 : decode cX9_send 2 = .ok (.invokevirtual 334, 3) := by decide +kernel
theorem dX9_send_5 : decode cX9_send 5 = .ok (.astore_n 2, 1) := by decide +kernel
theorem dX9_send_6 : decode cX9_send 6 = .ok (.aload_n 2, 1) := by decide +kernel
theorem dX9_send_7 : decode cX9_send 7 = .ok (.getfield 350, 3) := by decide +kernel
theorem dX9_send_10 : decode cX9_send 10 = .ok (.astore_n 3, 1) := by decide +kernel
theorem dX9_send_11 : decode cX9_send 11 = .ok (.aload_n 3, 1) := by decide +kernel
theorem dX9_send_12 : decode cX9_send 12 = .ok (.ifnull 20, 3) := by decide +kernel
theorem dX9_send_15 : decode cX9_send 15 = .ok (.aload_n 3, 1) := by decide +kernel
theorem dX9_send_16 : decode cX9_send 16 = .ok (.getfield 144, 3) := by decide +kernel
theorem dX9_send_19 : decode cX9_send 19 = .ok (.ifCond .ne 13, 3) := by decide +kernel
theorem dX9_send_22 : decode cX9_send 22 = .ok (.aload_n 0, 1) := by decide +kernel
theorem dX9_send_23 : decode cX9_send 23 = .ok (.getfield 35, 3) := by decide +kernel
theorem dX9_send_26 : decode cX9_send 26 = .ok (.getfield 266, 3) := by decide +kernel
theorem dX9_send_29 : decode cX9_send 29 = .ok (.ifCond .ne 14, 3) := by decide +kernel
theorem dX9_send_32 : decode cX9_send 32 = .ok (.new 139, 3) := by decide +kernel
theorem dX9_send_35 : decode cX9_send 35 = .ok (.dup, 1) := by decide +kernel
theorem dX9_send_36 : decode cX9_send 36 = .ok (.ldc_w 354, 3) := by decide +kernel
theorem dX9_send_39 : decode cX9_send 39 = .ok (.invokespecial 143, 3) := by decide +kernel
theorem dX9_send_42 : decode cX9_send 42 = .ok (.athrow, 1) := by decide +kernel
theorem dX9_send_43 : decode cX9_send 43 = .ok (.aload_n 2, 1) := by decide +kernel
theorem dX9_send_44 : decode cX9_send 44 = .ok (.getfield 356, 3) := by decide +kernel
theorem dX9_send_47 : decode cX9_send 47 = .ok (.iconst 4, 1) := by decide +kernel
theorem dX9_send_48 : decode cX9_send 48 = .ok (.if_icmp .lt 14, 3) := by decide +kernel
theorem dX9_send_51 : decode cX9_send 51 = .ok (.new 101, 3) := by decide +kernel
theorem dX9_send_54 : decode cX9_send 54 = .ok (.dup, 1) := by decide +kernel
theorem dX9_send_55 : decode cX9_send 55 = .ok (.ldc_w 359, 3) := by decide +kernel
theorem dX9_send_58 : decode cX9_send 58 = .ok (.invokespecial 105, 3) := by decide +kernel
theorem dX9_send_61 : decode cX9_send 61 = .ok (.athrow, 1) := by decide +kernel
theorem dX9_send_62 : decode cX9_send 62 = .ok (.aload_n 2, 1) := by decide +kernel
theorem dX9_send_63 : decode cX9_send 63 = .ok (.aload_n 0, 1) := by decide +kernel
theorem dX9_send_64 : decode cX9_send 64 = .ok (.getfield 35, 3) := by decide +kernel
theorem dX9_send_67 : decode cX9_send 67 = .ok (.getfield 266, 3) := by decide +kernel
theorem dX9_send_70 : decode cX9_send 70 = .ok (.invokevirtual 361, 3) := by decide +kernel
theorem dX9_send_73 : decode cX9_send 73 = .ok (.astore 4, 2) := by decide +kernel
theorem dX9_send_75 : decode cX9_send 75 = .ok (.iconst 0, 1) := by decide +kernel
theorem dX9_send_76 : decode cX9_send 76 = .ok (.istore 5, 2) := by decide +kernel
theorem dX9_send_78 : decode cX9_send 78 = .ok (.iload 5, 2) := by decide +kernel
theorem dX9_send_80 : decode cX9_send 80 = .ok (.aload_n 0, 1) := by decide +kernel
theorem dX9_send_81 : decode cX9_send 81 = .ok (.getfield 35, 3) := by decide +kernel
theorem dX9_send_84 : decode cX9_send 84 = .ok (.getfield 266, 3) := by decide +kernel
theorem dX9_send_87 : decode cX9_send 87 = .ok (.if_icmp .ge 29, 3) := by decide +kernel
theorem dX9_send_90 : decode cX9_send 90 = .ok (.aload 4, 2) := by decide +kernel
theorem dX9_send_92 : decode cX9_send 92 = .ok (.getfield 365, 3) := by decide +kernel
theorem dX9_send_95 : decode cX9_send 95 = .ok (.iload 5, 2) := by decide +kernel
theorem dX9_send_97 : decode cX9_send 97 = .ok (.bipush 15, 2) := by decide +kernel
theorem dX9_send_99 : decode cX9_send 99 = .ok (.iand, 1) := by decide +kernel
theorem dX9_send_100 : decode cX9_send 100 = .ok (.aload_n 0, 1) := by decide +kernel
theorem dX9_send_101 : decode cX9_send 101 = .ok (.getfield 35, 3) := by decide +kernel
theorem dX9_send_104 : decode cX9_send 104 = .ok (.iload 5, 2) := by decide +kernel
theorem dX9_send_106 : decode cX9_send 106 = .ok (.invokevirtual 278, 3) := by decide +kernel
theorem dX9_send_109 : decode cX9_send 109 = .ok (.iastore, 1) := by decide +kernel
theorem dX9_send_110 : decode cX9_send 110 = .ok (.iinc 5 1, 3) := by decide +kernel
theorem dX9_send_113 : decode cX9_send 113 = .ok (.goto (-35), 3) := by decide +kernel
theorem dX9_send_116 : decode cX9_send 116 = .ok (.aload_n 0, 1) := by decide +kernel
theorem dX9_send_117 : decode cX9_send 117 = .ok (.getfield 35, 3) := by decide +kernel
theorem dX9_send_120 : decode cX9_send 120 = .ok (.aload_n 0, 1) := by decide +kernel
theorem dX9_send_121 : decode cX9_send 121 = .ok (.getfield 35, 3) := by decide +kernel
theorem dX9_send_124 : decode cX9_send 124 = .ok (.getfield 266, 3) := by decide +kernel
theorem dX9_send_127 : decode cX9_send 127 = .ok (.invokevirtual 274, 3) := by decide +kernel
theorem dX9_send_130 : decode cX9_send 130 = .ok (.aload_n 2, 1) := by decide +kernel
theorem dX9_send_131 : decode cX9_send 131 = .ok (.getfield 356, 3) := by decide +kernel
theorem dX9_send_134 : decode cX9_send 134 = .ok (.ireturn, 1) := by decide +kernel
set_option maxRecDepth 20000 in
theorem ggX9_ask_X9_openPipe : GoodIn wsX9_ask wsX9_openPipe := goodIn_ca (goodIn_r _ [11, 12, 13, 14, 15, 16, 10, 17, 18, 19, 20, 21, 22, 56, 57, 58, 59, 60, 61, 62, 63, 64, 65, 66, 67, 68, 33, 34, 35, 36, 37, 38, 39, 40, 41, 42, 43, 44, 45, 46] (by decide +kernel) (by decide +kernel)) (goodIn_sub (fun _ h => List.mem_cons_of_mem _ (List.mem_append_right _ h)) (by decide +kernel))
set_option maxRecDepth 20000 in
theorem gX9_ask_X9_openPipe : GoodIn wsX9_ask (wsV RX9 334 RX9 yX9_openPipe wsX9_openPipe) := goodIn_app (goodIn_of _ (by decide +kernel)) ggX9_ask_X9_openPipe
set_option maxRecDepth 20000 in
theorem ggX9_ask_X9_isWithin : GoodIn wsX9_ask wsX9_isWithin := goodIn_r _ [17] (by decide +kernel) (by decide +kernel)
set_option maxRecDepth 20000 in
theorem gX9_ask_X9_isWithin : GoodIn wsX9_ask (va_wsS RX9 88 yX9_isWithin wsX9_isWithin) := goodIn_app (goodIn_of _ (by decide +kernel)) ggX9_ask_X9_isWithin
set_option maxRecDepth 20000 in
theorem ggX9_ask_X5_addTransfer : GoodIn wsX9_ask wsX5_addTransfer := goodIn_r _ [25, 26, 27, 28, 29, 19, 30, 31, 32, 33, 34, 35, 36, 37, 38, 39, 40, 41, 42, 43, 44, 45, 46, 69, 70, 71, 72, 73, 74] (by decide +kernel) (by decide +kernel)
set_option maxRecDepth 20000 in
theorem gX9_ask_X5_addTransfer_n361 : GoodIn wsX9_ask (wsX5_addTransfer) := ggX9_ask_X5_addTransfer
theorem dX9_ask_0 : decode cX9_ask 0 = .ok (.aload_n 0, 1) := by decide +kernel
theorem dX9_ask_1 : decode cX9_ask 1 = .ok (.iload_n 1, 1) := by decide +kernel
theorem dX9_ask_2 : decode cX9_ask 2 = .ok (.invokevirtual 334, 3) := by decide +kernel
theorem dX9_ask_5 : decode cX9_ask 5 = .ok (.astore_n 3, 1) := by decide +kernel
theorem dX9_ask_6 : decode cX9_ask 6 = .ok (.iload_n 2, 1) := by decide +kernel
theorem dX9_ask_7 : decode cX9_ask 7 = .ok (.iconst 1, 1) := by decide +kernel
theorem dX9_ask_8 : decode cX9_ask 8 = .ok (.bipush 16, 2) := by decide +kernel
theorem dX9_ask_10 : decode cX9_ask 10 = .ok (.invokestatic 88, 3) := by decide +kernel
theorem dX9_ask_13 : decode cX9_ask 13 = .ok (.ifCond .ne 14, 3) := by decide +kernel
theorem dX9_ask_16 : decode cX9_ask 16 = .ok (.new 92, 3) := by decide +kernel
theorem dX9_ask_19 : decode cX9_ask 19 = .ok (.dup, 1) := by decide +kernel
theorem dX9_ask_20 : decode cX9_ask 20 = .ok (.ldc_w 370, 3) := by decide +kernel
theorem dX9_ask_23 : decode cX9_ask 23 = .ok (.invokespecial 96, 3) := by decide +kernel
theorem dX9_ask_26 : decode cX9_ask 26 = .ok (.athrow, 1) := by decide +kernel
theorem dX9_ask_27 : decode cX9_ask 27 = .ok (.aload_n 3, 1) := by decide +kernel
theorem dX9_ask_28 : decode cX9_ask 28 = .ok (.getfield 350, 3) := by decide +kernel
theorem dX9_ask_31 : decode cX9_ask 31 = .ok (.astore 4, 2) := by decide +kernel
theorem dX9_ask_33 : decode cX9_ask 33 = .ok (.aload 4, 2) := by decide +kernel
theorem dX9_ask_35 : decode cX9_ask 35 = .ok (.ifnull 11, 3) := by decide +kernel
theorem dX9_ask_38 : decode cX9_ask 38 = .ok (.aload 4, 2) := by decide +kernel
theorem dX9_ask_40 : decode cX9_ask 40 = .ok (.getfield 144, 3) := by decide +kernel
theorem dX9_ask_43 : decode cX9_ask 43 = .ok (.ifCond .ne 14, 3) := by decide +kernel
theorem dX9_ask_46 : decode cX9_ask 46 = .ok (.new 139, 3) := by decide +kernel
theorem dX9_ask_49 : decode cX9_ask 49 = .ok (.dup, 1) := by decide +kernel
theorem dX9_ask_50 : decode cX9_ask 50 = .ok (.ldc_w 372, 3) := by decide +kernel
theorem dX9_ask_53 : decode cX9_ask 53 = .ok (.invokespecial 143, 3) := by decide +kernel
theorem dX9_ask_56 : decode cX9_ask 56 = .ok (.athrow, 1) := by decide +kernel
theorem dX9_ask_57 : decode cX9_ask 57 = .ok (.aload_n 3, 1) := by decide +kernel
theorem dX9_ask_58 : decode cX9_ask 58 = .ok (.getfield 356, 3) := by decide +kernel
theorem dX9_ask_61 : decode cX9_ask 61 = .ok (.iconst 4, 1) := by decide +kernel
theorem dX9_ask_62 : decode cX9_ask 62 = .ok (.if_icmp .lt 14, 3) := by decide +kernel
theorem dX9_ask_65 : decode cX9_ask 65 = .ok (.new 101, 3) := by decide +kernel
theorem dX9_ask_68 : decode cX9_ask 68 = .ok (.dup, 1) := by decide +kernel
theorem dX9_ask_69 : decode cX9_ask 69 = .ok (.ldc_w 359, 3) := by decide +kernel
theorem dX9_ask_72 : decode cX9_ask 72 = .ok (.invokespecial 105, 3) := by decide +kernel
theorem dX9_ask_75 : decode cX9_ask 75 = .ok (.athrow, 1) := by decide +kernel
theorem dX9_ask_76 : decode cX9_ask 76 = .ok (.aload_n 3, 1) := by decide +kernel
theorem dX9_ask_77 : decode cX9_ask 77 = .ok (.iload_n 2, 1) := by decide +kernel
theorem dX9_ask_78 : decode cX9_ask 78 = .ok (.invokevirtual 361, 3) := by decide +kernel
theorem dX9_ask_81 : decode cX9_ask 81 = .ok (.pop, 1) := by decide +kernel
theorem dX9_ask_82 : decode cX9_ask 82 = .ok (.aload_n 3, 1) := by decide +kernel
theorem dX9_ask_83 : decode cX9_ask 83 = .ok (.getfield 356, 3) := by decide +kernel
theorem dX9_ask_86 : decode cX9_ask 86 = .ok (.ireturn, 1) := by decide +kernel
set_option maxRecDepth 20000 in
theorem ggX9_ring_X9_openPipe : GoodIn wsX9_ring wsX9_openPipe := goodIn_ca (goodIn_r _ [5, 6, 7, 8, 9, 10, 4, 11, 12, 13, 14, 15, 16, 42, 43, 44, 45, 46, 47, 48, 49, 50, 51, 52, 53, 54, 22, 23, 24, 25, 26, 27, 28, 29, 30, 31, 32, 33, 34, 35] (by decide +kernel) (by decide +kernel)) (goodIn_sub (fun _ h => List.mem_cons_of_mem _ (List.mem_append_right _ h)) (by decide +kernel))
set_option maxRecDepth 20000 in
theorem gX9_ring_X9_openPipe : GoodIn wsX9_ring (wsV RX9 334 RX9 yX9_openPipe wsX9_openPipe) := goodIn_app (goodIn_of _ (by decide +kernel)) ggX9_ring_X9_openPipe
set_option maxRecDepth 20000 in
theorem ggX9_ring_X5_transferAt : GoodIn wsX9_ring wsX5_transferAt := goodIn_r _ [19, 20, 21, 22, 23, 24, 25, 26, 27, 28, 29, 30, 31, 32, 33, 34, 35] (by decide +kernel) (by decide +kernel)
set_option maxRecDepth 20000 in
theorem gX9_ring_X5_transferAt_n374 : GoodIn wsX9_ring (wsX5_transferAt) := ggX9_ring_X5_transferAt
theorem dX9_ring_0 : decode cX9_ring 0 = .ok (.aload_n 0, 1) := by decide +kernel
theorem dX9_ring_1 : decode cX9_ring 1 = .ok (.iload_n 1, 1) := by decide +kernel
theorem dX9_ring_2 : decode cX9_ring 2 = .ok (.invokevirtual 334, 3) := by decide +kernel
theorem dX9_ring_5 : decode cX9_ring 5 = .ok (.astore_n 2, 1) := by decide +kernel
theorem dX9_ring_6 : decode cX9_ring 6 = .ok (.iconst 0, 1) := by decide +kernel
theorem dX9_ring_7 : decode cX9_ring 7 = .ok (.istore_n 3, 1) := by decide +kernel
theorem dX9_ring_8 : decode cX9_ring 8 = .ok (.iconst 0, 1) := by decide +kernel
theorem dX9_ring_9 : decode cX9_ring 9 = .ok (.istore 4, 2) := by decide +kernel
theorem dX9_ring_11 : decode cX9_ring 11 = .ok (.iload 4, 2) := by decide +kernel
theorem dX9_ring_13 : decode cX9_ring 13 = .ok (.aload_n 2, 1) := by decide +kernel
theorem dX9_ring_14 : decode cX9_ring 14 = .ok (.getfield 356, 3) := by decide +kernel
theorem dX9_ring_17 : decode cX9_ring 17 = .ok (.if_icmp .ge 34, 3) := by decide +kernel
theorem dX9_ring_20 : decode cX9_ring 20 = .ok (.aload_n 2, 1) := by decide +kernel
theorem dX9_ring_21 : decode cX9_ring 21 = .ok (.iload 4, 2) := by decide +kernel
theorem dX9_ring_23 : decode cX9_ring 23 = .ok (.invokevirtual 374, 3) := by decide +kernel
theorem dX9_ring_26 : decode cX9_ring 26 = .ok (.astore 5, 2) := by decide +kernel
theorem dX9_ring_28 : decode cX9_ring 28 = .ok (.aload 5, 2) := by decide +kernel
theorem dX9_ring_30 : decode cX9_ring 30 = .ok (.getfield 377, 3) := by decide +kernel
theorem dX9_ring_33 : decode cX9_ring 33 = .ok (.ifCond .ne 12, 3) := by decide +kernel
theorem dX9_ring_36 : decode cX9_ring 36 = .ok (.aload 5, 2) := by decide +kernel
theorem dX9_ring_38 : decode cX9_ring 38 = .ok (.iconst 1, 1) := by decide +kernel
theorem dX9_ring_39 : decode cX9_ring 39 = .ok (.putfield 377, 3) := by decide +kernel
theorem dX9_ring_42 : decode cX9_ring 42 = .ok (.iinc 3 1, 3) := by decide +kernel
theorem dX9_ring_45 : decode cX9_ring 45 = .ok (.iinc 4 1, 3) := by decide +kernel
theorem dX9_ring_48 : decode cX9_ring 48 = .ok (.goto (-37), 3) := by decide +kernel
theorem dX9_ring_51 : decode cX9_ring 51 = .ok (.iload_n 3, 1) := by decide +kernel
theorem dX9_ring_52 : decode cX9_ring 52 = .ok (.ireturn, 1) := by decide +kernel
set_option maxRecDepth 20000 in
theorem ggX9_isHalted_X9_openPipe : GoodIn wsX9_isHalted wsX9_openPipe := goodIn_ca (goodIn_r _ [5, 6, 7, 8, 9, 10, 4, 11, 12, 13, 14, 15, 16, 31, 32, 33, 34, 35, 36, 37, 38, 39, 40, 41, 42, 43, 17, 18, 19, 20, 21, 22, 23, 24, 25, 26, 27, 28, 29, 30] (by decide +kernel) (by decide +kernel)) (goodIn_sub (fun _ h => List.mem_cons_of_mem _ (List.mem_append_right _ h)) (by decide +kernel))
set_option maxRecDepth 20000 in
theorem gX9_isHalted_X9_openPipe : GoodIn wsX9_isHalted (wsV RX9 334 RX9 yX9_openPipe wsX9_openPipe) := goodIn_app (goodIn_of _ (by decide +kernel)) ggX9_isHalted_X9_openPipe
theorem dX9_isHalted_0 : decode cX9_isHalted 0 = .ok (.aload_n 0, 1) := by decide +kernel
theorem dX9_isHalted_1 : decode cX9_isHalted 1 = .ok (.iload_n 1, 1) := by decide +kernel
theorem dX9_isHalted_2 : decode cX9_isHalted 2 = .ok (.invokevirtual 334, 3) := by decide +kernel
theorem dX9_isHalted_5 : decode cX9_isHalted 5 = .ok (.getfield 380, 3) := by decide +kernel
theorem dX9_isHalted_8 : decode cX9_isHalted 8 = .ok (.ireturn, 1) := by decide +kernel
set_option maxRecDepth 20000 in
theorem ggX9_clear_X9_openPipe : GoodIn wsX9_clear wsX9_openPipe := goodIn_ca (goodIn_r _ [5, 6, 7, 8, 9, 10, 4, 11, 12, 13, 14, 15, 16, 38, 39, 40, 41, 42, 43, 44, 45, 46, 47, 48, 49, 50, 24, 25, 26, 27, 28, 29, 30, 31, 32, 33, 34, 35, 36, 37] (by decide +kernel) (by decide +kernel)) (goodIn_sub (fun _ h => List.mem_cons_of_mem _ (List.mem_append_right _ h)) (by decide +kernel))
set_option maxRecDepth 20000 in
theorem gX9_clear_X9_openPipe : GoodIn wsX9_clear (wsV RX9 334 RX9 yX9_openPipe wsX9_openPipe) := goodIn_app (goodIn_of _ (by decide +kernel)) ggX9_clear_X9_openPipe
set_option maxRecDepth 20000 in
theorem ggX9_clear_X5_startAnew : GoodIn wsX9_clear wsX5_startAnew := goodIn_r _ [19, 20, 21, 22, 23, 24, 25, 26, 27, 28, 29, 30, 31, 32, 33, 34, 35, 36, 37, 51, 52, 53, 54, 55, 56, 57, 58, 59] (by decide +kernel) (by decide +kernel)
set_option maxRecDepth 20000 in
theorem gX9_clear_X5_startAnew_n383 : GoodIn wsX9_clear (wsX5_startAnew) := ggX9_clear_X5_startAnew
theorem dX9_clear_0 : decode cX9_clear 0 = .ok (.aload_n 0, 1) := by decide +kernel
theorem dX9_clear_1 : decode cX9_clear 1 = .ok (.iload_n 1, 1) := by decide +kernel
theorem dX9_clear_2 : decode cX9_clear 2 = .ok (.invokevirtual 334, 3) := by decide +kernel
theorem dX9_clear_5 : decode cX9_clear 5 = .ok (.astore_n 2, 1) := by decide +kernel
theorem dX9_clear_6 : decode cX9_clear 6 = .ok (.aload_n 2, 1) := by decide +kernel
theorem dX9_clear_7 : decode cX9_clear 7 = .ok (.invokevirtual 383, 3) := by decide +kernel
theorem dX9_clear_10 : decode cX9_clear 10 = .ok (.aload_n 2, 1) := by decide +kernel
theorem dX9_clear_11 : decode cX9_clear 11 = .ok (.getfield 356, 3) := by decide +kernel
theorem dX9_clear_14 : decode cX9_clear 14 = .ok (.ireturn, 1) := by decide +kernel
set_option maxRecDepth 20000 in
theorem ggX9_cancel_X9_openPipe : GoodIn wsX9_cancel wsX9_openPipe := goodIn_ca (goodIn_r _ [7, 8, 9, 10, 11, 12, 6, 13, 14, 15, 16, 17, 18, 65, 66, 67, 68, 69, 70, 71, 72, 73, 74, 75, 76, 77, 45, 46, 47, 48, 49, 50, 51, 52, 53, 54, 55, 56, 57, 58] (by decide +kernel) (by decide +kernel)) (goodIn_sub (fun _ h => List.mem_cons_of_mem _ (List.mem_append_left _ (List.mem_append_right _ h))) (by decide +kernel))
set_option maxRecDepth 20000 in
theorem gX9_cancel_X9_openPipe : GoodIn wsX9_cancel (wsV RX9 334 RX9 yX9_openPipe wsX9_openPipe) := goodIn_app (goodIn_of _ (by decide +kernel)) ggX9_cancel_X9_openPipe
set_option maxRecDepth 20000 in
theorem ggX9_cancel_X5_transferAt : GoodIn wsX9_cancel wsX5_transferAt := goodIn_r _ [21, 22, 23, 45, 46, 47, 48, 49, 50, 51, 52, 53, 54, 55, 56, 57, 58] (by decide +kernel) (by decide +kernel)
set_option maxRecDepth 20000 in
theorem gX9_cancel_X5_transferAt_n374 : GoodIn wsX9_cancel (wsX5_transferAt) := ggX9_cancel_X5_transferAt
set_option maxRecDepth 20000 in
theorem ggX9_cancel_X9_endFirst : GoodIn wsX9_cancel wsX9_endFirst := goodIn_ca (goodIn_r _ [27, 28, 19, 15, 20, 21, 22, 23, 29, 30, 31, 32, 33, 34, 35, 36, 37, 38, 39, 40, 41, 42, 43, 44, 65, 66, 67, 68, 69, 70, 71, 72, 73, 74, 75, 76, 77, 45, 46, 47, 48, 49, 50, 51, 52, 53, 54, 55, 56, 57, 58, 59, 60, 61, 62, 63, 64, 78, 79, 80, 81, 82, 83, 84, 85, 86, 87] (by decide +kernel) (by decide +kernel)) (goodIn_sub (fun _ h => List.mem_cons_of_mem _ (List.mem_append_right _ h)) (by decide +kernel))
set_option maxRecDepth 20000 in
theorem gX9_cancel_X9_endFirst : GoodIn wsX9_cancel (wsV RX9 391 RX9 yX9_endFirst wsX9_endFirst) := goodIn_app (goodIn_of _ (by decide +kernel)) ggX9_cancel_X9_endFirst
theorem dX9_cancel_0 : decode cX9_cancel 0 = .ok (.aload_n 0, 1) := by decide +kernel
theorem dX9_cancel_1 : decode cX9_cancel 1 = .ok (.iload_n 1, 1) := by decide +kernel
theorem dX9_cancel_2 : decode cX9_cancel 2 = .ok (.invokevirtual 334, 3) := by decide +kernel
theorem dX9_cancel_5 : decode cX9_cancel 5 = .ok (.astore_n 2, 1) := by decide +kernel
theorem dX9_cancel_6 : decode cX9_cancel 6 = .ok (.aload_n 2, 1) := by decide +kernel
theorem dX9_cancel_7 : decode cX9_cancel 7 = .ok (.getfield 356, 3) := by decide +kernel
theorem dX9_cancel_10 : decode cX9_cancel 10 = .ok (.ifCond .ne 14, 3) := by decide +kernel
theorem dX9_cancel_13 : decode cX9_cancel 13 = .ok (.new 139, 3) := by decide +kernel
theorem dX9_cancel_16 : decode cX9_cancel 16 = .ok (.dup, 1) := by decide +kernel
theorem dX9_cancel_17 : decode cX9_cancel 17 = .ok (.ldc_w 386, 3) := by decide +kernel
theorem dX9_cancel_20 : decode cX9_cancel 20 = .ok (.invokespecial 143, 3) := by decide +kernel
theorem dX9_cancel_23 : decode cX9_cancel 23 = .ok (.athrow, 1) := by decide +kernel
theorem dX9_cancel_24 : decode cX9_cancel 24 = .ok (.aload_n 2, 1) := by decide +kernel
theorem dX9_cancel_25 : decode cX9_cancel 25 = .ok (.iconst 0, 1) := by decide +kernel
theorem dX9_cancel_26 : decode cX9_cancel 26 = .ok (.invokevirtual 374, 3) := by decide +kernel
theorem dX9_cancel_29 : decode cX9_cancel 29 = .ok (.getfield 388, 3) := by decide +kernel
theorem dX9_cancel_32 : decode cX9_cancel 32 = .ok (.istore_n 3, 1) := by decide +kernel
theorem dX9_cancel_33 : decode cX9_cancel 33 = .ok (.aload_n 0, 1) := by decide +kernel
theorem dX9_cancel_34 : decode cX9_cancel 34 = .ok (.aload_n 2, 1) := by decide +kernel
theorem dX9_cancel_35 : decode cX9_cancel 35 = .ok (.bipush 120, 2) := by decide +kernel
theorem dX9_cancel_37 : decode cX9_cancel 37 = .ok (.invokevirtual 391, 3) := by decide +kernel
theorem dX9_cancel_40 : decode cX9_cancel 40 = .ok (.iload_n 3, 1) := by decide +kernel
theorem dX9_cancel_41 : decode cX9_cancel 41 = .ok (.ireturn, 1) := by decide +kernel
set_option maxRecDepth 20000 in
theorem ggX9_load_X9_deviceAt : GoodIn wsX9_load wsX9_deviceAt := goodIn_ca (goodIn_r _ [10, 11, 12, 13, 14, 52, 53, 54, 55, 56, 57, 58, 59, 60, 61, 62, 63, 64] (by decide +kernel) (by decide +kernel)) (goodIn_sub (fun _ h => List.mem_cons_of_mem _ (List.mem_append_left _ (List.mem_append_right _ h))) (by decide +kernel))
set_option maxRecDepth 20000 in
theorem gX9_load_X9_deviceAt : GoodIn wsX9_load (wsV RX9 124 RX9 yX9_deviceAt wsX9_deviceAt) := goodIn_app (goodIn_of _ (by decide +kernel)) ggX9_load_X9_deviceAt
set_option maxRecDepth 20000 in
theorem ggX9_load_X9_endpointAt : GoodIn wsX9_load wsX9_endpointAt := goodIn_ca (goodIn_r _ [17, 11, 12, 18, 19, 9, 20, 65, 66, 67, 68, 69, 70, 71, 72, 73, 74, 75, 76, 77, 78, 79, 80, 81, 82, 83, 84, 39, 40, 41, 42, 43, 44, 45, 46, 47] (by decide +kernel) (by decide +kernel)) (goodIn_sub (fun _ h => List.mem_cons_of_mem _ (List.mem_append_left _ (List.mem_append_right _ h))) (by decide +kernel))
set_option maxRecDepth 20000 in
theorem gX9_load_X9_endpointAt : GoodIn wsX9_load (va_wsS RX9 283 yX9_endpointAt wsX9_endpointAt) := goodIn_app (goodIn_of _ (by decide +kernel)) ggX9_load_X9_endpointAt
set_option maxRecDepth 20000 in
theorem ggX9_load_X0_at : GoodIn wsX9_load wsX0_at := goodIn_ca (goodIn_r _ [24, 25, 26, 48, 49, 50, 51] (by decide +kernel) (by decide +kernel)) (goodIn_sub (fun _ h => List.mem_cons_of_mem _ (List.mem_append_right _ h)) (by decide +kernel))
set_option maxRecDepth 20000 in
theorem gX9_load_X0_at_n278 : GoodIn wsX9_load (wsX0_at) := ggX9_load_X0_at
set_option maxRecDepth 20000 in
theorem ggX9_load_X0_add : GoodIn wsX9_load wsX0_add := goodIn_ca (goodIn_r _ [29, 25, 26, 30, 31, 48, 49, 50, 51] (by decide +kernel) (by decide +kernel)) (goodIn_sub (fun _ h => List.mem_cons_of_mem _ (List.mem_append_right _ h)) (by decide +kernel))
set_option maxRecDepth 20000 in
theorem gX9_load_X0_add_n271 : GoodIn wsX9_load (wsX0_add) := ggX9_load_X0_add
set_option maxRecDepth 20000 in
theorem ggX9_load_X0_drop : GoodIn wsX9_load wsX0_drop := goodIn_r _ [34, 30, 35, 36, 37, 38, 26, 48, 49, 50, 51] (by decide +kernel) (by decide +kernel)
set_option maxRecDepth 20000 in
theorem gX9_load_X0_drop_n274 : GoodIn wsX9_load (wsX0_drop) := ggX9_load_X0_drop
theorem dX9_load_0 : decode cX9_load 0 = .ok (.aload_n 0, 1) := by decide +kernel
theorem dX9_load_1 : decode cX9_load 1 = .ok (.iload_n 1, 1) := by decide +kernel
theorem dX9_load_2 : decode cX9_load 2 = .ok (.invokevirtual 124, 3) := by decide +kernel
theorem dX9_load_5 : decode cX9_load 5 = .ok (.iload_n 2, 1) := by decide +kernel
theorem dX9_load_6 : decode cX9_load 6 = .ok (.invokestatic 283, 3) := by decide +kernel
theorem dX9_load_9 : decode cX9_load 9 = .ok (.astore_n 3, 1) := by decide +kernel
theorem dX9_load_10 : decode cX9_load 10 = .ok (.aload_n 3, 1) := by decide +kernel
theorem dX9_load_11 : decode cX9_load 11 = .ok (.getfield 144, 3) := by decide +kernel
theorem dX9_load_14 : decode cX9_load 14 = .ok (.ifCond .ne 14, 3) := by decide +kernel
theorem dX9_load_17 : decode cX9_load 17 = .ok (.new 139, 3) := by decide +kernel
theorem dX9_load_20 : decode cX9_load 20 = .ok (.dup, 1) := by decide +kernel
theorem dX9_load_21 : decode cX9_load 21 = .ok (.ldc_w 372, 3) := by decide +kernel
theorem dX9_load_24 : decode cX9_load 24 = .ok (.invokespecial 143, 3) := by decide +kernel
theorem dX9_load_27 : decode cX9_load 27 = .ok (.athrow, 1) := by decide +kernel
theorem dX9_load_28 : decode cX9_load 28 = .ok (.aload_n 3, 1) := by decide +kernel
theorem dX9_load_29 : decode cX9_load 29 = .ok (.getfield 395, 3) := by decide +kernel
theorem dX9_load_32 : decode cX9_load 32 = .ok (.getfield 266, 3) := by decide +kernel
theorem dX9_load_35 : decode cX9_load 35 = .ok (.aload_n 0, 1) := by decide +kernel
theorem dX9_load_36 : decode cX9_load 36 = .ok (.getfield 35, 3) := by decide +kernel
theorem dX9_load_39 : decode cX9_load 39 = .ok (.getfield 266, 3) := by decide +kernel
theorem dX9_load_42 : decode cX9_load 42 = .ok (.iadd, 1) := by decide +kernel
theorem dX9_load_43 : decode cX9_load 43 = .ok (.bipush 32, 2) := by decide +kernel
theorem dX9_load_45 : decode cX9_load 45 = .ok (.if_icmp .le 14, 3) := by decide +kernel
theorem dX9_load_48 : decode cX9_load 48 = .ok (.new 101, 3) := by decide +kernel
theorem dX9_load_51 : decode cX9_load 51 = .ok (.dup, 1) := by decide +kernel
theorem dX9_load_52 : decode cX9_load 52 = .ok (.ldc_w 397, 3) := by decide +kernel
theorem dX9_load_55 : decode cX9_load 55 = .ok (.invokespecial 105, 3) := by decide +kernel
theorem dX9_load_58 : decode cX9_load 58 = .ok (.athrow, 1) := by decide +kernel
theorem dX9_load_59 : decode cX9_load 59 = .ok (.iconst 0, 1) := by decide +kernel
theorem dX9_load_60 : decode cX9_load 60 = .ok (.istore 4, 2) := by decide +kernel
theorem dX9_load_62 : decode cX9_load 62 = .ok (.iload 4, 2) := by decide +kernel
theorem dX9_load_64 : decode cX9_load 64 = .ok (.aload_n 0, 1) := by decide +kernel
theorem dX9_load_65 : decode cX9_load 65 = .ok (.getfield 35, 3) := by decide +kernel
theorem dX9_load_68 : decode cX9_load 68 = .ok (.getfield 266, 3) := by decide +kernel
theorem dX9_load_71 : decode cX9_load 71 = .ok (.if_icmp .ge 25, 3) := by decide +kernel
theorem dX9_load_74 : decode cX9_load 74 = .ok (.aload_n 3, 1) := by decide +kernel
theorem dX9_load_75 : decode cX9_load 75 = .ok (.getfield 395, 3) := by decide +kernel
theorem dX9_load_78 : decode cX9_load 78 = .ok (.aload_n 0, 1) := by decide +kernel
theorem dX9_load_79 : decode cX9_load 79 = .ok (.getfield 35, 3) := by decide +kernel
theorem dX9_load_82 : decode cX9_load 82 = .ok (.iload 4, 2) := by decide +kernel
theorem dX9_load_84 : decode cX9_load 84 = .ok (.invokevirtual 278, 3) := by decide +kernel
theorem dX9_load_87 : decode cX9_load 87 = .ok (.invokevirtual 271, 3) := by decide +kernel
theorem dX9_load_90 : decode cX9_load 90 = .ok (.iinc 4 1, 3) := by decide +kernel
theorem dX9_load_93 : decode cX9_load 93 = .ok (.goto (-31), 3) := by decide +kernel
theorem dX9_load_96 : decode cX9_load 96 = .ok (.aload_n 0, 1) := by decide +kernel
theorem dX9_load_97 : decode cX9_load 97 = .ok (.getfield 35, 3) := by decide +kernel
theorem dX9_load_100 : decode cX9_load 100 = .ok (.aload_n 0, 1) := by decide +kernel
theorem dX9_load_101 : decode cX9_load 101 = .ok (.getfield 35, 3) := by decide +kernel
theorem dX9_load_104 : decode cX9_load 104 = .ok (.getfield 266, 3) := by decide +kernel
theorem dX9_load_107 : decode cX9_load 107 = .ok (.invokevirtual 274, 3) := by decide +kernel
theorem dX9_load_110 : decode cX9_load 110 = .ok (.aload_n 3, 1) := by decide +kernel
theorem dX9_load_111 : decode cX9_load 111 = .ok (.getfield 395, 3) := by decide +kernel
theorem dX9_load_114 : decode cX9_load 114 = .ok (.getfield 266, 3) := by decide +kernel
theorem dX9_load_117 : decode cX9_load 117 = .ok (.ireturn, 1) := by decide +kernel
set_option maxRecDepth 20000 in
theorem ggX9_fault_X9_deviceBelowHost : GoodIn wsX9_fault wsX9_deviceBelowHost := goodIn_ca (goodIn_r _ [7, 8, 9, 10, 11, 12, 6, 13, 14, 15, 56, 57, 58, 59, 60, 61, 62, 63, 64, 65, 66, 67, 68] (by decide +kernel) (by decide +kernel)) (goodIn_sub (fun _ h => List.mem_cons_of_mem _ (List.mem_append_right _ h)) (by decide +kernel))
set_option maxRecDepth 20000 in
theorem gX9_fault_X9_deviceBelowHost : GoodIn wsX9_fault (wsV RX9 185 RX9 yX9_deviceBelowHost wsX9_deviceBelowHost) := goodIn_app (goodIn_of _ (by decide +kernel)) ggX9_fault_X9_deviceBelowHost
set_option maxRecDepth 20000 in
theorem ggX9_fault_X9_endpointAt : GoodIn wsX9_fault wsX9_endpointAt := goodIn_ca (goodIn_r _ [18, 8, 9, 19, 20, 6, 21, 25, 26, 27, 28, 29, 30, 31, 32, 33, 34, 35, 36, 37, 38, 39, 40, 41, 42, 43, 44, 45, 46, 47, 48, 49, 50, 51, 52, 53] (by decide +kernel) (by decide +kernel)) (goodIn_sub (fun _ h => List.mem_cons_of_mem _ (List.mem_append_right _ h)) (by decide +kernel))
set_option maxRecDepth 20000 in
theorem gX9_fault_X9_endpointAt : GoodIn wsX9_fault (va_wsS RX9 283 yX9_endpointAt wsX9_endpointAt) := goodIn_app (goodIn_of _ (by decide +kernel)) ggX9_fault_X9_endpointAt
set_option maxRecDepth 20000 in
theorem ggX9_fault_X9_isFault : GoodIn wsX9_fault wsX9_isFault := goodIn_r _ [24] (by decide +kernel) (by decide +kernel)
set_option maxRecDepth 20000 in
theorem gX9_fault_X9_isFault : GoodIn wsX9_fault (va_wsS RX9 406 yX9_isFault wsX9_isFault) := goodIn_app (goodIn_of _ (by decide +kernel)) ggX9_fault_X9_isFault
set_option maxRecDepth 20000 in
theorem ggX9_fault_X9_isWithin : GoodIn wsX9_fault wsX9_isWithin := goodIn_r _ [21] (by decide +kernel) (by decide +kernel)
set_option maxRecDepth 20000 in
theorem gX9_fault_X9_isWithin : GoodIn wsX9_fault (va_wsS RX9 88 yX9_isWithin wsX9_isWithin) := goodIn_app (goodIn_of _ (by decide +kernel)) ggX9_fault_X9_isWithin
theorem dX9_fault_0 : decode cX9_fault 0 = .ok (.aload_n 0, 1) := by decide +kernel
theorem dX9_fault_1 : decode cX9_fault 1 = .ok (.iload_n 1, 1) := by decide +kernel
theorem dX9_fault_2 : decode cX9_fault 2 = .ok (.invokevirtual 185, 3) := by decide +kernel
theorem dX9_fault_5 : decode cX9_fault 5 = .ok (.astore 5, 2) := by decide +kernel
theorem dX9_fault_7 : decode cX9_fault 7 = .ok (.iload_n 2, 1) := by decide +kernel
theorem dX9_fault_8 : decode cX9_fault 8 = .ok (.ifCond .ne 11, 3) := by decide +kernel
theorem dX9_fault_11 : decode cX9_fault 11 = .ok (.aload 5, 2) := by decide +kernel
theorem dX9_fault_13 : decode cX9_fault 13 = .ok (.getfield 399, 3) := by decide +kernel
theorem dX9_fault_16 : decode cX9_fault 16 = .ok (.goto 12, 3) := by decide +kernel
theorem dX9_fault_19 : decode cX9_fault 19 = .ok (.aload 5, 2) := by decide +kernel
theorem dX9_fault_21 : decode cX9_fault 21 = .ok (.iload_n 2, 1) := by decide +kernel
theorem dX9_fault_22 : decode cX9_fault 22 = .ok (.invokestatic 283, 3) := by decide +kernel
theorem dX9_fault_25 : decode cX9_fault 25 = .ok (.getfield 403, 3) := by decide +kernel
theorem dX9_fault_28 : decode cX9_fault 28 = .ok (.astore 6, 2) := by decide +kernel
theorem dX9_fault_30 : decode cX9_fault 30 = .ok (.iload_n 3, 1) := by decide +kernel
theorem dX9_fault_31 : decode cX9_fault 31 = .ok (.invokestatic 406, 3) := by decide +kernel
theorem dX9_fault_34 : decode cX9_fault 34 = .ok (.ifCond .eq 14, 3) := by decide +kernel
theorem dX9_fault_37 : decode cX9_fault 37 = .ok (.iload 4, 2) := by decide +kernel
theorem dX9_fault_39 : decode cX9_fault 39 = .ok (.iconst 1, 1) := by decide +kernel
theorem dX9_fault_40 : decode cX9_fault 40 = .ok (.bipush 9, 2) := by decide +kernel
theorem dX9_fault_42 : decode cX9_fault 42 = .ok (.invokestatic 88, 3) := by decide +kernel
theorem dX9_fault_45 : decode cX9_fault 45 = .ok (.ifCond .ne 14, 3) := by decide +kernel
theorem dX9_fault_48 : decode cX9_fault 48 = .ok (.new 92, 3) := by decide +kernel
theorem dX9_fault_51 : decode cX9_fault 51 = .ok (.dup, 1) := by decide +kernel
theorem dX9_fault_52 : decode cX9_fault 52 = .ok (.ldc_w 409, 3) := by decide +kernel
theorem dX9_fault_55 : decode cX9_fault 55 = .ok (.invokespecial 96, 3) := by decide +kernel
theorem dX9_fault_58 : decode cX9_fault 58 = .ok (.athrow, 1) := by decide +kernel
theorem dX9_fault_59 : decode cX9_fault 59 = .ok (.aload 6, 2) := by decide +kernel
theorem dX9_fault_61 : decode cX9_fault 61 = .ok (.getfield 411, 3) := by decide +kernel
theorem dX9_fault_64 : decode cX9_fault 64 = .ok (.istore 7, 2) := by decide +kernel
theorem dX9_fault_66 : decode cX9_fault 66 = .ok (.aload 6, 2) := by decide +kernel
theorem dX9_fault_68 : decode cX9_fault 68 = .ok (.iload_n 3, 1) := by decide +kernel
theorem dX9_fault_69 : decode cX9_fault 69 = .ok (.putfield 416, 3) := by decide +kernel
theorem dX9_fault_72 : decode cX9_fault 72 = .ok (.aload 6, 2) := by decide +kernel
theorem dX9_fault_74 : decode cX9_fault 74 = .ok (.iload 4, 2) := by decide +kernel
theorem dX9_fault_76 : decode cX9_fault 76 = .ok (.putfield 411, 3) := by decide +kernel
theorem dX9_fault_79 : decode cX9_fault 79 = .ok (.iload 7, 2) := by decide +kernel
theorem dX9_fault_81 : decode cX9_fault 81 = .ok (.ireturn, 1) := by decide +kernel
set_option maxRecDepth 20000 in
theorem ggX9_frame_X8_beginFrame : GoodIn wsX9_frame wsX8_beginFrame := goodIn_ca (goodIn_r _ [9, 10, 11, 221, 222, 223, 224, 225] (by decide +kernel) (by decide +kernel)) (goodIn_sub (fun _ h => List.mem_cons_of_mem _ (List.mem_append_right _ h)) (by decide +kernel))
set_option maxRecDepth 20000 in
theorem gX9_frame_X8_beginFrame_n421 : GoodIn wsX9_frame (wsX8_beginFrame) := ggX9_frame_X8_beginFrame
set_option maxRecDepth 20000 in
theorem ggX9_frame_X9_shutGreedyDevices : GoodIn wsX9_frame wsX9_shutGreedyDevices := goodIn_ca (goodIn_r _ [16, 17, 18, 19, 15, 20, 21, 22, 23, 24, 25, 26, 27, 28, 29, 30, 31, 4, 32, 33, 34, 35, 36, 37, 38, 39, 40, 41, 42, 3, 43, 44, 45, 46, 47, 48, 49, 50, 51, 52, 53, 54, 55, 7, 56, 57, 58, 59, 60, 61, 62, 63, 64, 65, 66, 67, 68, 69, 70, 71, 72, 73, 74, 75, 76, 77, 78, 79, 80, 81, 82, 83, 84, 85, 86, 87, 88, 89, 90, 91, 92, 93, 94, 95, 96, 97, 98, 99, 100, 101, 102, 103, 191, 192, 193, 194, 195, 196, 197, 198, 199, 200, 201, 202, 203, 226, 227, 228, 229, 230, 231, 232, 233, 234, 235, 236, 237, 238, 239, 240, 241, 242, 243, 244, 245, 207, 208, 209, 210, 211, 212, 213, 214, 215, 216, 217, 218, 219, 220, 246, 247, 248, 249, 250, 251, 252, 253, 254, 221, 222, 223, 224, 225, 255, 256, 257, 258, 259, 260, 261, 262, 263, 264, 265, 266, 267, 268, 269, 270] (by decide +kernel) (by decide +kernel)) (goodIn_sub (fun _ h => List.mem_cons_of_mem _ (List.mem_append_right _ h)) (by decide +kernel))
set_option maxRecDepth 20000 in
theorem gX9_frame_X9_shutGreedyDevices : GoodIn wsX9_frame (wsV RX9 424 RX9 yX9_shutGreedyDevices wsX9_shutGreedyDevices) := goodIn_app (goodIn_of _ (by decide +kernel)) ggX9_frame_X9_shutGreedyDevices
set_option maxRecDepth 20000 in
theorem ggX9_frame_X5_isDueIn : GoodIn wsX9_frame wsX5_isDueIn := goodIn_r _ [52, 53, 54, 207, 208, 209, 210, 211, 212, 213, 214, 215, 216, 217, 218, 219, 220] (by decide +kernel) (by decide +kernel)
set_option maxRecDepth 20000 in
theorem gX9_frame_X5_isDueIn_n430 : GoodIn wsX9_frame (wsX5_isDueIn) := ggX9_frame_X5_isDueIn
set_option maxRecDepth 20000 in
theorem ggX9_frame_X9_canGo : GoodIn wsX9_frame wsX9_canGo := goodIn_ca (goodIn_r _ [107, 2, 3, 65, 50, 66, 67, 68, 69, 108, 109, 15, 110, 111, 112, 113, 114, 115, 116, 117, 118, 119, 120, 43, 44, 45, 46, 47, 48, 121, 7, 122, 123, 10, 11, 207, 208, 209, 210, 211, 212, 213, 214, 215, 216, 217, 218, 219, 220, 255, 256, 257, 258, 259, 260, 226, 227, 228, 229, 230, 231, 232, 233, 234, 235, 236, 237, 238, 239, 240, 241, 242, 243, 244, 245, 191, 192, 193, 194, 195, 196, 197, 198, 199, 200, 201, 202, 203, 246, 247, 248, 249, 250, 251, 252, 253, 254, 271, 272, 273, 274, 221, 222, 223, 224, 225] (by decide +kernel) (by decide +kernel)) (goodIn_sub (fun _ h => List.mem_cons_of_mem _ (List.mem_append_right _ h)) (by decide +kernel))
set_option maxRecDepth 20000 in
theorem gX9_frame_X9_canGo : GoodIn wsX9_frame (wsV RX9 433 RX9 yX9_canGo wsX9_canGo) := goodIn_app (goodIn_of _ (by decide +kernel)) ggX9_frame_X9_canGo
set_option maxRecDepth 20000 in
theorem ggX9_frame_X9_takeTurn : GoodIn wsX9_frame wsX9_takeTurn := goodIn_ca (goodIn_r _ [127, 3, 1, 65, 50, 66, 67, 68, 69, 108, 109, 15, 110, 111, 112, 113, 114, 115, 116, 117, 118, 119, 120, 43, 44, 45, 46, 47, 48, 128, 7, 129, 130, 10, 131, 11, 132, 133, 134, 135, 136, 137, 138, 139, 140, 141, 142, 143, 144, 145, 146, 147, 148, 149, 150, 151, 152, 153, 154, 155, 156, 157, 158, 159, 160, 161, 162, 163, 164, 165, 166, 167, 168, 169, 170, 171, 172, 173, 174, 175, 176, 177, 178, 24, 25, 26, 27, 28, 29, 30, 31, 17, 4, 32, 33, 34, 35, 36, 37, 38, 39, 40, 41, 42, 49, 51, 52, 53, 54, 55, 56, 57, 58, 59, 60, 61, 62, 63, 64, 70, 71, 72, 73, 74, 75, 76, 77, 78, 79, 80, 81, 82, 83, 84, 85, 86, 87, 88, 89, 90, 91, 92, 93, 94, 95, 96, 97, 98, 99, 100, 101, 102, 103, 179, 180, 181, 182, 183, 184, 185, 186, 207, 208, 209, 210, 211, 212, 213, 214, 215, 216, 217, 218, 219, 220, 191, 192, 193, 194, 195, 196, 197, 198, 199, 200, 201, 202, 203, 226, 227, 228, 229, 230, 231, 232, 233, 234, 235, 236, 237, 238, 239, 240, 241, 242, 243, 244, 245, 204, 205, 206, 246, 247, 248, 249, 250, 251, 252, 253, 254, 255, 256, 257, 258, 259, 260, 271, 272, 273, 274, 221, 222, 223, 224, 225, 275, 276, 261, 262, 263, 264, 265, 266, 267, 268, 269, 270] (by decide +kernel) (by decide +kernel)) (goodIn_sub (fun _ h => List.mem_cons_of_mem _ (List.mem_append_right _ h)) (by decide +kernel))
set_option maxRecDepth 20000 in
theorem gX9_frame_X9_takeTurn : GoodIn wsX9_frame (wsV RX9 437 RX9 yX9_takeTurn wsX9_takeTurn) := goodIn_app (goodIn_of _ (by decide +kernel)) ggX9_frame_X9_takeTurn
set_option maxRecDepth 20000 in
theorem ggX9_frame_X9_nextBulkPipe : GoodIn wsX9_frame wsX9_nextBulkPipe := goodIn_ca (goodIn_r _ [190, 4, 5, 104, 105, 106, 15, 107, 2, 3, 65, 50, 66, 67, 68, 69, 108, 109, 110, 111, 112, 113, 114, 115, 116, 117, 118, 119, 120, 43, 44, 45, 46, 47, 48, 121, 7, 122, 123, 10, 11, 191, 192, 193, 194, 195, 196, 197, 198, 199, 200, 201, 202, 203, 207, 208, 209, 210, 211, 212, 213, 214, 215, 216, 217, 218, 219, 220, 255, 256, 257, 258, 259, 260, 226, 227, 228, 229, 230, 231, 232, 233, 234, 235, 236, 237, 238, 239, 240, 241, 242, 243, 244, 245, 246, 247, 248, 249, 250, 251, 252, 253, 254, 271, 272, 273, 274, 221, 222, 223, 224, 225] (by decide +kernel) (by decide +kernel)) (goodIn_sub (fun _ h => List.mem_cons_of_mem _ (List.mem_append_right _ h)) (by decide +kernel))
set_option maxRecDepth 20000 in
theorem gX9_frame_X9_nextBulkPipe : GoodIn wsX9_frame (wsV RX9 441 RX9 yX9_nextBulkPipe wsX9_nextBulkPipe) := goodIn_app (goodIn_of _ (by decide +kernel)) ggX9_frame_X9_nextBulkPipe
theorem dX9_frame_0 : decode cX9_frame 0 = .ok (.aload_n 0, 1) := by decide +kernel
theorem dX9_frame_1 : decode cX9_frame 1 = .ok (.getfield 59, 3) := by decide +kernel
theorem dX9_frame_4 : decode cX9_frame 4 = .ok (.getfield 418, 3) := by decide +kernel
theorem dX9_frame_7 : decode cX9_frame 7 = .ok (.istore_n 1, 1) := by decide +kernel
theorem dX9_frame_8 : decode cX9_frame 8 = .ok (.aload_n 0, 1) := by decide +kernel
theorem dX9_frame_9 : decode cX9_frame 9 = .ok (.dup, 1) := by decide +kernel
theorem dX9_frame_10 : decode cX9_frame 10 = .ok (.getfield 252, 3) := by decide +kernel
theorem dX9_frame_13 : decode cX9_frame 13 = .ok (.iconst 1, 1) := by decide +kernel
theorem dX9_frame_14 : decode cX9_frame 14 = .ok (.iadd, 1) := by decide +kernel
theorem dX9_frame_15 : decode cX9_frame 15 = .ok (.putfield 252, 3) := by decide +kernel
theorem dX9_frame_18 : decode cX9_frame 18 = .ok (.aload_n 0, 1) := by decide +kernel
theorem dX9_frame_19 : decode cX9_frame 19 = .ok (.getfield 45, 3) := by decide +kernel
theorem dX9_frame_22 : decode cX9_frame 22 = .ok (.invokevirtual 421, 3) := by decide +kernel
theorem dX9_frame_25 : decode cX9_frame 25 = .ok (.aload_n 0, 1) := by decide +kernel
theorem dX9_frame_26 : decode cX9_frame 26 = .ok (.invokevirtual 424, 3) := by decide +kernel
theorem dX9_frame_29 : decode cX9_frame 29 = .ok (.iconst 0, 1) := by decide +kernel
theorem dX9_frame_30 : decode cX9_frame 30 = .ok (.istore_n 2, 1) := by decide +kernel
theorem dX9_frame_31 : decode cX9_frame 31 = .ok (.iload_n 2, 1) := by decide +kernel
theorem dX9_frame_32 : decode cX9_frame 32 = .ok (.bipush 12, 2) := by decide +kernel
theorem dX9_frame_34 : decode cX9_frame 34 = .ok (.if_icmp .ge 45, 3) := by decide +kernel
theorem dX9_frame_37 : decode cX9_frame 37 = .ok (.aload_n 0, 1) := by decide +kernel
theorem dX9_frame_38 : decode cX9_frame 38 = .ok (.getfield 24, 3) := by decide +kernel
theorem dX9_frame_41 : decode cX9_frame 41 = .ok (.iload_n 2, 1) := by decide +kernel
theorem dX9_frame_42 : decode cX9_frame 42 = .ok (.aaload, 1) := by decide +kernel
theorem dX9_frame_43 : decode cX9_frame 43 = .ok (.astore_n 3, 1) := by decide +kernel
theorem dX9_frame_44 : decode cX9_frame 44 = .ok (.aload_n 3, 1) := by decide +kernel
theorem dX9_frame_45 : decode cX9_frame 45 = .ok (.iconst 0, 1) := by decide +kernel
theorem dX9_frame_46 : decode cX9_frame 46 = .ok (.putfield 427, 3) := by decide +kernel
theorem dX9_frame_49 : decode cX9_frame 49 = .ok (.aload_n 3, 1) := by decide +kernel
theorem dX9_frame_50 : decode cX9_frame 50 = .ok (.aload_n 0, 1) := by decide +kernel
theorem dX9_frame_51 : decode cX9_frame 51 = .ok (.getfield 252, 3) := by decide +kernel
theorem dX9_frame_54 : decode cX9_frame 54 = .ok (.invokevirtual 430, 3) := by decide +kernel
theorem dX9_frame_57 : decode cX9_frame 57 = .ok (.ifCond .eq 16, 3) := by decide +kernel
theorem dX9_frame_60 : decode cX9_frame 60 = .ok (.aload_n 0, 1) := by decide +kernel
theorem dX9_frame_61 : decode cX9_frame 61 = .ok (.aload_n 3, 1) := by decide +kernel
theorem dX9_frame_62 : decode cX9_frame 62 = .ok (.invokevirtual 433, 3) := by decide +kernel
theorem dX9_frame_65 : decode cX9_frame 65 = .ok (.ifCond .eq 8, 3) := by decide +kernel
theorem dX9_frame_68 : decode cX9_frame 68 = .ok (.aload_n 0, 1) := by decide +kernel
theorem dX9_frame_69 : decode cX9_frame 69 = .ok (.aload_n 3, 1) := by decide +kernel
theorem dX9_frame_70 : decode cX9_frame 70 = .ok (.invokevirtual 437, 3) := by decide +kernel
theorem dX9_frame_73 : decode cX9_frame 73 = .ok (.iinc 2 1, 3) := by decide +kernel
theorem dX9_frame_76 : decode cX9_frame 76 = .ok (.goto (-45), 3) := by decide +kernel
theorem dX9_frame_79 : decode cX9_frame 79 = .ok (.aload_n 0, 1) := by decide +kernel
theorem dX9_frame_80 : decode cX9_frame 80 = .ok (.invokevirtual 441, 3) := by decide +kernel
theorem dX9_frame_83 : decode cX9_frame 83 = .ok (.astore_n 2, 1) := by decide +kernel
theorem dX9_frame_84 : decode cX9_frame 84 = .ok (.iconst 0, 1) := by decide +kernel
theorem dX9_frame_85 : decode cX9_frame 85 = .ok (.istore_n 3, 1) := by decide +kernel
theorem dX9_frame_86 : decode cX9_frame 86 = .ok (.iload_n 3, 1) := by decide +kernel
theorem dX9_frame_87 : decode cX9_frame 87 = .ok (.sipush 1000, 3) := by decide +kernel
theorem dX9_frame_90 : decode cX9_frame 90 = .ok (.if_icmp .ge 31, 3) := by decide +kernel
theorem dX9_frame_93 : decode cX9_frame 93 = .ok (.aload_n 2, 1) := by decide +kernel
theorem dX9_frame_94 : decode cX9_frame 94 = .ok (.ifnull 27, 3) := by decide +kernel
theorem dX9_frame_97 : decode cX9_frame 97 = .ok (.aload_n 0, 1) := by decide +kernel
theorem dX9_frame_98 : decode cX9_frame 98 = .ok (.aload_n 2, 1) := by decide +kernel
theorem dX9_frame_99 : decode cX9_frame 99 = .ok (.getfield 333, 3) := by decide +kernel
theorem dX9_frame_102 : decode cX9_frame 102 = .ok (.putfield 28, 3) := by decide +kernel
theorem dX9_frame_105 : decode cX9_frame 105 = .ok (.aload_n 0, 1) := by decide +kernel
theorem dX9_frame_106 : decode cX9_frame 106 = .ok (.aload_n 2, 1) := by decide +kernel
theorem dX9_frame_107 : decode cX9_frame 107 = .ok (.invokevirtual 437, 3) := by decide +kernel
theorem dX9_frame_110 : decode cX9_frame 110 = .ok (.aload_n 0, 1) := by decide +kernel
theorem dX9_frame_111 : decode cX9_frame 111 = .ok (.invokevirtual 441, 3) := by decide +kernel
theorem dX9_frame_114 : decode cX9_frame 114 = .ok (.astore_n 2, 1) := by decide +kernel
theorem dX9_frame_115 : decode cX9_frame 115 = .ok (.iinc 3 1, 3) := by decide +kernel
theorem dX9_frame_118 : decode cX9_frame 118 = .ok (.goto (-32), 3) := by decide +kernel
theorem dX9_frame_121 : decode cX9_frame 121 = .ok (.aload_n 0, 1) := by decide +kernel
theorem dX9_frame_122 : decode cX9_frame 122 = .ok (.getfield 59, 3) := by decide +kernel
theorem dX9_frame_125 : decode cX9_frame 125 = .ok (.getfield 418, 3) := by decide +kernel
theorem dX9_frame_128 : decode cX9_frame 128 = .ok (.iload_n 1, 1) := by decide +kernel
theorem dX9_frame_129 : decode cX9_frame 129 = .ok (.isub, 1) := by decide +kernel
theorem dX9_frame_130 : decode cX9_frame 130 = .ok (.ireturn, 1) := by decide +kernel
theorem dX9_frames_0 : decode cX9_frames 0 = .ok (.aload_n 0, 1) := by decide +kernel
theorem dX9_frames_1 : decode cX9_frames 1 = .ok (.getfield 252, 3) := by decide +kernel
theorem dX9_frames_4 : decode cX9_frames 4 = .ok (.ireturn, 1) := by decide +kernel
set_option maxRecDepth 20000 in
theorem ggX9_left_X9_deviceAt : GoodIn wsX9_left wsX9_deviceAt := goodIn_ca (goodIn_r _ [9, 10, 11, 12, 13, 34, 35, 36, 37, 38, 39, 40, 41, 42, 43, 44, 45, 46] (by decide +kernel) (by decide +kernel)) (goodIn_sub (fun _ h => List.mem_cons_of_mem _ (List.mem_append_right _ h)) (by decide +kernel))
set_option maxRecDepth 20000 in
theorem gX9_left_X9_deviceAt : GoodIn wsX9_left (wsV RX9 124 RX9 yX9_deviceAt wsX9_deviceAt) := goodIn_app (goodIn_of _ (by decide +kernel)) ggX9_left_X9_deviceAt
theorem dX9_left_0 : decode cX9_left 0 = .ok (.iload_n 1, 1) := by decide +kernel
theorem dX9_left_1 : decode cX9_left 1 = .ok (.iconst (-1), 1) := by decide +kernel
theorem dX9_left_2 : decode cX9_left 2 = .ok (.if_icmp .ne 7, 3) := by decide +kernel
theorem dX9_left_5 : decode cX9_left 5 = .ok (.iconst (-1), 1) := by decide +kernel
theorem dX9_left_6 : decode cX9_left 6 = .ok (.goto 11, 3) := by decide +kernel
theorem dX9_left_9 : decode cX9_left 9 = .ok (.aload_n 0, 1) := by decide +kernel
theorem dX9_left_10 : decode cX9_left 10 = .ok (.iload_n 1, 1) := by decide +kernel
theorem dX9_left_11 : decode cX9_left 11 = .ok (.invokevirtual 124, 3) := by decide +kernel
theorem dX9_left_14 : decode cX9_left 14 = .ok (.getfield 121, 3) := by decide +kernel
theorem dX9_left_17 : decode cX9_left 17 = .ok (.istore_n 2, 1) := by decide +kernel
theorem dX9_left_18 : decode cX9_left 18 = .ok (.aload_n 0, 1) := by decide +kernel
theorem dX9_left_19 : decode cX9_left 19 = .ok (.getfield 252, 3) := by decide +kernel
theorem dX9_left_22 : decode cX9_left 22 = .ok (.ifCond .ne 14, 3) := by decide +kernel
theorem dX9_left_25 : decode cX9_left 25 = .ok (.new 203, 3) := by decide +kernel
theorem dX9_left_28 : decode cX9_left 28 = .ok (.dup, 1) := by decide +kernel
theorem dX9_left_29 : decode cX9_left 29 = .ok (.ldc_w 444, 3) := by decide +kernel
theorem dX9_left_32 : decode cX9_left 32 = .ok (.invokespecial 207, 3) := by decide +kernel
theorem dX9_left_35 : decode cX9_left 35 = .ok (.athrow, 1) := by decide +kernel
theorem dX9_left_36 : decode cX9_left 36 = .ok (.iload_n 2, 1) := by decide +kernel
theorem dX9_left_37 : decode cX9_left 37 = .ok (.ifCond .ge 13, 3) := by decide +kernel
theorem dX9_left_40 : decode cX9_left 40 = .ok (.aload_n 0, 1) := by decide +kernel
theorem dX9_left_41 : decode cX9_left 41 = .ok (.getfield 45, 3) := by decide +kernel
theorem dX9_left_44 : decode cX9_left 44 = .ok (.getfield 446, 3) := by decide +kernel
theorem dX9_left_47 : decode cX9_left 47 = .ok (.goto 12, 3) := by decide +kernel
theorem dX9_left_50 : decode cX9_left 50 = .ok (.aload_n 0, 1) := by decide +kernel
theorem dX9_left_51 : decode cX9_left 51 = .ok (.getfield 45, 3) := by decide +kernel
theorem dX9_left_54 : decode cX9_left 54 = .ok (.getfield 449, 3) := by decide +kernel
theorem dX9_left_57 : decode cX9_left 57 = .ok (.iload_n 2, 1) := by decide +kernel
theorem dX9_left_58 : decode cX9_left 58 = .ok (.iaload, 1) := by decide +kernel
theorem dX9_left_59 : decode cX9_left 59 = .ok (.ireturn, 1) := by decide +kernel
theorem dX9_events_0 : decode cX9_events 0 = .ok (.aload_n 0, 1) := by decide +kernel
theorem dX9_events_1 : decode cX9_events 1 = .ok (.getfield 52, 3) := by decide +kernel
theorem dX9_events_4 : decode cX9_events 4 = .ok (.getfield 452, 3) := by decide +kernel
theorem dX9_events_7 : decode cX9_events 7 = .ok (.ireturn, 1) := by decide +kernel
set_option maxRecDepth 20000 in
theorem ggX9_event_X3_takeFirst : GoodIn wsX9_event wsX3_takeFirst := goodIn_ca (goodIn_r _ [7, 8, 9, 10, 11, 12, 13, 14, 28, 29, 30, 31, 32, 33, 34, 35, 36, 37] (by decide +kernel) (by decide +kernel)) (goodIn_sub (fun _ h => List.mem_cons_of_mem _ (List.mem_append_right _ h)) (by decide +kernel))
set_option maxRecDepth 20000 in
theorem gX9_event_X3_takeFirst_n455 : GoodIn wsX9_event (wsX3_takeFirst) := ggX9_event_X3_takeFirst
theorem dX9_event_0 : decode cX9_event 0 = .ok (.aload_n 0, 1) := by decide +kernel
theorem dX9_event_1 : decode cX9_event 1 = .ok (.getfield 52, 3) := by decide +kernel
theorem dX9_event_4 : decode cX9_event 4 = .ok (.getfield 452, 3) := by decide +kernel
theorem dX9_event_7 : decode cX9_event 7 = .ok (.ifCond .ne 14, 3) := by decide +kernel
theorem dX9_event_10 : decode cX9_event 10 = .ok (.new 203, 3) := by decide +kernel
theorem dX9_event_13 : decode cX9_event 13 = .ok (.dup, 1) := by decide +kernel
theorem dX9_event_14 : decode cX9_event 14 = .ok (.ldc_w 453, 3) := by decide +kernel
theorem dX9_event_17 : decode cX9_event 17 = .ok (.invokespecial 207, 3) := by decide +kernel
theorem dX9_event_20 : decode cX9_event 20 = .ok (.athrow, 1) := by decide +kernel
theorem dX9_event_21 : decode cX9_event 21 = .ok (.aload_n 0, 1) := by decide +kernel
theorem dX9_event_22 : decode cX9_event 22 = .ok (.getfield 52, 3) := by decide +kernel
theorem dX9_event_25 : decode cX9_event 25 = .ok (.invokevirtual 455, 3) := by decide +kernel
theorem dX9_event_28 : decode cX9_event 28 = .ok (.ireturn, 1) := by decide +kernel
theorem dX9_eventPipe_0 : decode cX9_eventPipe 0 = .ok (.aload_n 0, 1) := by decide +kernel
theorem dX9_eventPipe_1 : decode cX9_eventPipe 1 = .ok (.getfield 52, 3) := by decide +kernel
theorem dX9_eventPipe_4 : decode cX9_eventPipe 4 = .ok (.getfield 459, 3) := by decide +kernel
theorem dX9_eventPipe_7 : decode cX9_eventPipe 7 = .ok (.ifCond .ge 14, 3) := by decide +kernel
theorem dX9_eventPipe_10 : decode cX9_eventPipe 10 = .ok (.new 203, 3) := by decide +kernel
theorem dX9_eventPipe_13 : decode cX9_eventPipe 13 = .ok (.dup, 1) := by decide +kernel
theorem dX9_eventPipe_14 : decode cX9_eventPipe 14 = .ok (.ldc_w 462, 3) := by decide +kernel
theorem dX9_eventPipe_17 : decode cX9_eventPipe 17 = .ok (.invokespecial 207, 3) := by decide +kernel
theorem dX9_eventPipe_20 : decode cX9_eventPipe 20 = .ok (.athrow, 1) := by decide +kernel
theorem dX9_eventPipe_21 : decode cX9_eventPipe 21 = .ok (.aload_n 0, 1) := by decide +kernel
theorem dX9_eventPipe_22 : decode cX9_eventPipe 22 = .ok (.getfield 52, 3) := by decide +kernel
theorem dX9_eventPipe_25 : decode cX9_eventPipe 25 = .ok (.getfield 459, 3) := by decide +kernel
theorem dX9_eventPipe_28 : decode cX9_eventPipe 28 = .ok (.ireturn, 1) := by decide +kernel
theorem dX9_eventBytes_0 : decode cX9_eventBytes 0 = .ok (.aload_n 0, 1) := by decide +kernel
theorem dX9_eventBytes_1 : decode cX9_eventBytes 1 = .ok (.getfield 52, 3) := by decide +kernel
theorem dX9_eventBytes_4 : decode cX9_eventBytes 4 = .ok (.getfield 459, 3) := by decide +kernel
theorem dX9_eventBytes_7 : decode cX9_eventBytes 7 = .ok (.ifCond .ge 14, 3) := by decide +kernel
theorem dX9_eventBytes_10 : decode cX9_eventBytes 10 = .ok (.new 203, 3) := by decide +kernel
theorem dX9_eventBytes_13 : decode cX9_eventBytes 13 = .ok (.dup, 1) := by decide +kernel
theorem dX9_eventBytes_14 : decode cX9_eventBytes 14 = .ok (.ldc_w 462, 3) := by decide +kernel
theorem dX9_eventBytes_17 : decode cX9_eventBytes 17 = .ok (.invokespecial 207, 3) := by decide +kernel
theorem dX9_eventBytes_20 : decode cX9_eventBytes 20 = .ok (.athrow, 1) := by decide +kernel
theorem dX9_eventBytes_21 : decode cX9_eventBytes 21 = .ok (.aload_n 0, 1) := by decide +kernel
theorem dX9_eventBytes_22 : decode cX9_eventBytes 22 = .ok (.getfield 52, 3) := by decide +kernel
theorem dX9_eventBytes_25 : decode cX9_eventBytes 25 = .ok (.getfield 464, 3) := by decide +kernel
theorem dX9_eventBytes_28 : decode cX9_eventBytes 28 = .ok (.ireturn, 1) := by decide +kernel
theorem dX9_missed_0 : decode cX9_missed 0 = .ok (.aload_n 0, 1) := by decide +kernel
theorem dX9_missed_1 : decode cX9_missed 1 = .ok (.getfield 52, 3) := by decide +kernel
theorem dX9_missed_4 : decode cX9_missed 4 = .ok (.getfield 467, 3) := by decide +kernel
theorem dX9_missed_7 : decode cX9_missed 7 = .ok (.ireturn, 1) := by decide +kernel
set_option maxRecDepth 20000 in
theorem ggX9_taken_X9_endpointOut : GoodIn wsX9_taken wsX9_endpointOut := goodIn_ca (goodIn_ca (goodIn_r _ [5, 6, 7, 8, 9, 10, 4, 11, 12, 13, 14, 15, 16, 17, 18, 19, 20, 21, 22, 23, 24, 25, 26, 27, 28, 29, 30, 35, 36, 37, 38, 39, 40, 41, 42, 43, 44, 45, 46, 47, 48, 49, 50, 51, 52, 53, 54, 55, 56, 57, 58, 59, 60, 61, 62, 63, 64, 65, 66, 67] (by decide +kernel) (by decide +kernel)) (goodIn_sub (fun _ h => List.mem_cons_of_mem _ (List.mem_append_left _ (List.mem_append_right _ h))) (by decide +kernel))) (goodIn_sub (fun _ h => List.mem_cons_of_mem _ (List.mem_append_right _ h)) (by decide +kernel))
set_option maxRecDepth 20000 in
theorem gX9_taken_X9_endpointOut : GoodIn wsX9_taken (wsV RX9 470 RX9 yX9_endpointOut wsX9_endpointOut) := goodIn_app (goodIn_of _ (by decide +kernel)) ggX9_taken_X9_endpointOut
theorem dX9_taken_0 : decode cX9_taken 0 = .ok (.aload_n 0, 1) := by decide +kernel
theorem dX9_taken_1 : decode cX9_taken 1 = .ok (.iload_n 1, 1) := by decide +kernel
theorem dX9_taken_2 : decode cX9_taken 2 = .ok (.iload_n 2, 1) := by decide +kernel
theorem dX9_taken_3 : decode cX9_taken 3 = .ok (.invokevirtual 470, 3) := by decide +kernel
theorem dX9_taken_6 : decode cX9_taken 6 = .ok (.getfield 395, 3) := by decide +kernel
theorem dX9_taken_9 : decode cX9_taken 9 = .ok (.getfield 474, 3) := by decide +kernel
theorem dX9_taken_12 : decode cX9_taken 12 = .ok (.ireturn, 1) := by decide +kernel
set_option maxRecDepth 20000 in
theorem ggX9_takenAt_X9_endpointOut : GoodIn wsX9_takenAt wsX9_endpointOut := goodIn_ca (goodIn_ca (goodIn_r _ [5, 6, 7, 8, 9, 10, 4, 11, 12, 13, 14, 15, 16, 17, 18, 19, 20, 21, 33, 34, 35, 36, 37, 38, 39, 40, 41, 42, 43, 44, 45, 46, 47, 48, 49, 50, 51, 52, 53, 54, 55, 56, 57, 58, 59, 60, 61, 62, 63, 64, 65, 66, 67, 68, 69, 70, 71, 72, 73, 74] (by decide +kernel) (by decide +kernel)) (goodIn_sub (fun _ h => List.mem_cons_of_mem _ (List.mem_append_left _ (List.mem_append_left _ (List.mem_append_left _ (List.mem_append_right _ h))))) (by decide +kernel))) (goodIn_sub (fun _ h => List.mem_cons_of_mem _ (List.mem_append_left _ (List.mem_append_left _ (List.mem_append_right _ h)))) (by decide +kernel))
set_option maxRecDepth 20000 in
theorem gX9_takenAt_X9_endpointOut : GoodIn wsX9_takenAt (wsV RX9 470 RX9 yX9_endpointOut wsX9_endpointOut) := goodIn_app (goodIn_of _ (by decide +kernel)) ggX9_takenAt_X9_endpointOut
set_option maxRecDepth 20000 in
theorem ggX9_takenAt_X9_newest : GoodIn wsX9_takenAt wsX9_newest := goodIn_ca (goodIn_ca (goodIn_r _ [24, 25, 26, 27, 28, 29, 30, 31, 32, 75, 76, 77, 78] (by decide +kernel) (by decide +kernel)) (goodIn_sub (fun _ h => List.mem_cons_of_mem _ (List.mem_append_left _ (List.mem_append_right _ h))) (by decide +kernel))) (goodIn_sub (fun _ h => List.mem_cons_of_mem _ (List.mem_append_right _ h)) (by decide +kernel))
set_option maxRecDepth 20000 in
theorem gX9_takenAt_X9_newest : GoodIn wsX9_takenAt (va_wsS RX9 477 yX9_newest wsX9_newest) := goodIn_app (goodIn_of _ (by decide +kernel)) ggX9_takenAt_X9_newest
theorem dX9_takenAt_0 : decode cX9_takenAt 0 = .ok (.aload_n 0, 1) := by decide +kernel
theorem dX9_takenAt_1 : decode cX9_takenAt 1 = .ok (.iload_n 1, 1) := by decide +kernel
theorem dX9_takenAt_2 : decode cX9_takenAt 2 = .ok (.iload_n 2, 1) := by decide +kernel
theorem dX9_takenAt_3 : decode cX9_takenAt 3 = .ok (.invokevirtual 470, 3) := by decide +kernel
theorem dX9_takenAt_6 : decode cX9_takenAt 6 = .ok (.getfield 395, 3) := by decide +kernel
theorem dX9_takenAt_9 : decode cX9_takenAt 9 = .ok (.iload_n 3, 1) := by decide +kernel
theorem dX9_takenAt_10 : decode cX9_takenAt 10 = .ok (.invokestatic 477, 3) := by decide +kernel
theorem dX9_takenAt_13 : decode cX9_takenAt 13 = .ok (.ireturn, 1) := by decide +kernel
set_option maxRecDepth 20000 in
theorem ggX9_waiting_X9_deviceAt : GoodIn wsX9_waiting wsX9_deviceAt := goodIn_ca (goodIn_r _ [7, 8, 9, 10, 11, 31, 32, 33, 34, 35, 36, 37, 38, 39, 40, 41, 42, 43] (by decide +kernel) (by decide +kernel)) (goodIn_sub (fun _ h => List.mem_cons_of_mem _ (List.mem_append_right _ h)) (by decide +kernel))
set_option maxRecDepth 20000 in
theorem gX9_waiting_X9_deviceAt : GoodIn wsX9_waiting (wsV RX9 124 RX9 yX9_deviceAt wsX9_deviceAt) := goodIn_app (goodIn_of _ (by decide +kernel)) ggX9_waiting_X9_deviceAt
set_option maxRecDepth 20000 in
theorem ggX9_waiting_X9_endpointAt : GoodIn wsX9_waiting wsX9_endpointAt := goodIn_ca (goodIn_r _ [14, 8, 9, 15, 16, 6, 17, 44, 45, 46, 47, 48, 49, 50, 51, 52, 53, 54, 55, 56, 57, 58, 59, 60, 61, 62, 63, 18, 19, 20, 21, 22, 23, 24, 25, 26] (by decide +kernel) (by decide +kernel)) (goodIn_sub (fun _ h => List.mem_cons_of_mem _ (List.mem_append_right _ h)) (by decide +kernel))
set_option maxRecDepth 20000 in
theorem gX9_waiting_X9_endpointAt : GoodIn wsX9_waiting (va_wsS RX9 283 yX9_endpointAt wsX9_endpointAt) := goodIn_app (goodIn_of _ (by decide +kernel)) ggX9_waiting_X9_endpointAt
theorem dX9_waiting_0 : decode cX9_waiting 0 = .ok (.aload_n 0, 1) := by decide +kernel
theorem dX9_waiting_1 : decode cX9_waiting 1 = .ok (.iload_n 1, 1) := by decide +kernel
theorem dX9_waiting_2 : decode cX9_waiting 2 = .ok (.invokevirtual 124, 3) := by decide +kernel
theorem dX9_waiting_5 : decode cX9_waiting 5 = .ok (.iload_n 2, 1) := by decide +kernel
theorem dX9_waiting_6 : decode cX9_waiting 6 = .ok (.invokestatic 283, 3) := by decide +kernel
theorem dX9_waiting_9 : decode cX9_waiting 9 = .ok (.astore_n 3, 1) := by decide +kernel
theorem dX9_waiting_10 : decode cX9_waiting 10 = .ok (.aload_n 3, 1) := by decide +kernel
theorem dX9_waiting_11 : decode cX9_waiting 11 = .ok (.getfield 144, 3) := by decide +kernel
theorem dX9_waiting_14 : decode cX9_waiting 14 = .ok (.ifCond .ne 14, 3) := by decide +kernel
theorem dX9_waiting_17 : decode cX9_waiting 17 = .ok (.new 139, 3) := by decide +kernel
theorem dX9_waiting_20 : decode cX9_waiting 20 = .ok (.dup, 1) := by decide +kernel
theorem dX9_waiting_21 : decode cX9_waiting 21 = .ok (.ldc_w 372, 3) := by decide +kernel
theorem dX9_waiting_24 : decode cX9_waiting 24 = .ok (.invokespecial 143, 3) := by decide +kernel
theorem dX9_waiting_27 : decode cX9_waiting 27 = .ok (.athrow, 1) := by decide +kernel
theorem dX9_waiting_28 : decode cX9_waiting 28 = .ok (.aload_n 3, 1) := by decide +kernel
theorem dX9_waiting_29 : decode cX9_waiting 29 = .ok (.getfield 395, 3) := by decide +kernel
theorem dX9_waiting_32 : decode cX9_waiting 32 = .ok (.getfield 266, 3) := by decide +kernel
theorem dX9_waiting_35 : decode cX9_waiting 35 = .ok (.ireturn, 1) := by decide +kernel
theorem dX9_got_0 : decode cX9_got 0 = .ok (.aload_n 0, 1) := by decide +kernel
theorem dX9_got_1 : decode cX9_got 1 = .ok (.getfield 39, 3) := by decide +kernel
theorem dX9_got_4 : decode cX9_got 4 = .ok (.getfield 474, 3) := by decide +kernel
theorem dX9_got_7 : decode cX9_got 7 = .ok (.ireturn, 1) := by decide +kernel
set_option maxRecDepth 20000 in
theorem ggX9_gotAt_X9_newest : GoodIn wsX9_gotAt wsX9_newest := goodIn_ca (goodIn_ca (goodIn_r _ [5, 6, 7, 8, 9, 10, 11, 12, 13, 27, 28, 29, 30] (by decide +kernel) (by decide +kernel)) (goodIn_sub (fun _ h => List.mem_cons_of_mem _ (List.mem_append_left _ (List.mem_append_right _ h))) (by decide +kernel))) (goodIn_sub (fun _ h => List.mem_cons_of_mem _ (List.mem_append_right _ h)) (by decide +kernel))
set_option maxRecDepth 20000 in
theorem gX9_gotAt_X9_newest : GoodIn wsX9_gotAt (va_wsS RX9 477 yX9_newest wsX9_newest) := goodIn_app (goodIn_of _ (by decide +kernel)) ggX9_gotAt_X9_newest
theorem dX9_gotAt_0 : decode cX9_gotAt 0 = .ok (.aload_n 0, 1) := by decide +kernel
theorem dX9_gotAt_1 : decode cX9_gotAt 1 = .ok (.getfield 39, 3) := by decide +kernel
theorem dX9_gotAt_4 : decode cX9_gotAt 4 = .ok (.iload_n 1, 1) := by decide +kernel
theorem dX9_gotAt_5 : decode cX9_gotAt 5 = .ok (.invokestatic 477, 3) := by decide +kernel
theorem dX9_gotAt_8 : decode cX9_gotAt 8 = .ok (.ireturn, 1) := by decide +kernel
theorem dX9_packets_0 : decode cX9_packets 0 = .ok (.iload_n 1, 1) := by decide +kernel
theorem dX9_packets_1 : decode cX9_packets 1 = .ok (.bipush 116, 2) := by decide +kernel
theorem dX9_packets_3 : decode cX9_packets 3 = .ok (.if_icmp .ne 11, 3) := by decide +kernel
theorem dX9_packets_6 : decode cX9_packets 6 = .ok (.aload_n 0, 1) := by decide +kernel
theorem dX9_packets_7 : decode cX9_packets 7 = .ok (.getfield 59, 3) := by decide +kernel
theorem dX9_packets_10 : decode cX9_packets 10 = .ok (.getfield 418, 3) := by decide +kernel
theorem dX9_packets_13 : decode cX9_packets 13 = .ok (.ireturn, 1) := by decide +kernel
theorem dX9_packets_14 : decode cX9_packets 14 = .ok (.iload_n 1, 1) := by decide +kernel
theorem dX9_packets_15 : decode cX9_packets 15 = .ok (.bipush 100, 2) := by decide +kernel
theorem dX9_packets_17 : decode cX9_packets 17 = .ok (.if_icmp .ne 11, 3) := by decide +kernel
theorem dX9_packets_20 : decode cX9_packets 20 = .ok (.aload_n 0, 1) := by decide +kernel
theorem dX9_packets_21 : decode cX9_packets 21 = .ok (.getfield 59, 3) := by decide +kernel
theorem dX9_packets_24 : decode cX9_packets 24 = .ok (.getfield 481, 3) := by decide +kernel
theorem dX9_packets_27 : decode cX9_packets 27 = .ok (.ireturn, 1) := by decide +kernel
theorem dX9_packets_28 : decode cX9_packets 28 = .ok (.iload_n 1, 1) := by decide +kernel
theorem dX9_packets_29 : decode cX9_packets 29 = .ok (.bipush 104, 2) := by decide +kernel
theorem dX9_packets_31 : decode cX9_packets 31 = .ok (.if_icmp .ne 11, 3) := by decide +kernel
theorem dX9_packets_34 : decode cX9_packets 34 = .ok (.aload_n 0, 1) := by decide +kernel
theorem dX9_packets_35 : decode cX9_packets 35 = .ok (.getfield 59, 3) := by decide +kernel
theorem dX9_packets_38 : decode cX9_packets 38 = .ok (.getfield 484, 3) := by decide +kernel
theorem dX9_packets_41 : decode cX9_packets 41 = .ok (.ireturn, 1) := by decide +kernel
theorem dX9_packets_42 : decode cX9_packets 42 = .ok (.new 92, 3) := by decide +kernel
theorem dX9_packets_45 : decode cX9_packets 45 = .ok (.dup, 1) := by decide +kernel
theorem dX9_packets_46 : decode cX9_packets 46 = .ok (.ldc_w 487, 3) := by decide +kernel
theorem dX9_packets_49 : decode cX9_packets 49 = .ok (.invokespecial 96, 3) := by decide +kernel
theorem dX9_packets_52 : decode cX9_packets 52 = .ok (.athrow, 1) := by decide +kernel
set_option maxRecDepth 20000 in
theorem ggX9_blame_X9_deviceAt : GoodIn wsX9_blame wsX9_deviceAt := goodIn_ca (goodIn_r _ [5, 6, 7, 8, 9, 30, 31, 32, 33, 34, 35, 36, 37, 38, 39, 40, 41, 42] (by decide +kernel) (by decide +kernel)) (goodIn_sub (fun _ h => List.mem_cons_of_mem _ (List.mem_append_right _ h)) (by decide +kernel))
set_option maxRecDepth 20000 in
theorem gX9_blame_X9_deviceAt : GoodIn wsX9_blame (wsV RX9 124 RX9 yX9_deviceAt wsX9_deviceAt) := goodIn_app (goodIn_of _ (by decide +kernel)) ggX9_blame_X9_deviceAt
theorem dX9_blame_0 : decode cX9_blame 0 = .ok (.aload_n 0, 1) := by decide +kernel
theorem dX9_blame_1 : decode cX9_blame 1 = .ok (.iload_n 1, 1) := by decide +kernel
theorem dX9_blame_2 : decode cX9_blame 2 = .ok (.invokevirtual 124, 3) := by decide +kernel
theorem dX9_blame_5 : decode cX9_blame 5 = .ok (.getfield 489, 3) := by decide +kernel
theorem dX9_blame_8 : decode cX9_blame 8 = .ok (.ireturn, 1) := by decide +kernel
set_option maxRecDepth 20000 in
theorem ggX9_causeOf_X9_openPipe : GoodIn wsX9_causeOf wsX9_openPipe := goodIn_ca (goodIn_r _ [7, 8, 9, 10, 11, 12, 6, 13, 14, 15, 16, 17, 18, 33, 34, 35, 36, 37, 38, 39, 40, 41, 42, 43, 44, 45, 19, 20, 21, 22, 23, 24, 25, 26, 27, 28, 29, 30, 31, 32] (by decide +kernel) (by decide +kernel)) (goodIn_sub (fun _ h => List.mem_cons_of_mem _ (List.mem_append_right _ h)) (by decide +kernel))
set_option maxRecDepth 20000 in
theorem gX9_causeOf_X9_openPipe : GoodIn wsX9_causeOf (wsV RX9 334 RX9 yX9_openPipe wsX9_openPipe) := goodIn_app (goodIn_of _ (by decide +kernel)) ggX9_causeOf_X9_openPipe
theorem dX9_causeOf_0 : decode cX9_causeOf 0 = .ok (.aload_n 0, 1) := by decide +kernel
theorem dX9_causeOf_1 : decode cX9_causeOf 1 = .ok (.iload_n 1, 1) := by decide +kernel
theorem dX9_causeOf_2 : decode cX9_causeOf 2 = .ok (.invokevirtual 334, 3) := by decide +kernel
theorem dX9_causeOf_5 : decode cX9_causeOf 5 = .ok (.astore_n 2, 1) := by decide +kernel
theorem dX9_causeOf_6 : decode cX9_causeOf 6 = .ok (.aload_n 2, 1) := by decide +kernel
theorem dX9_causeOf_7 : decode cX9_causeOf 7 = .ok (.getfield 492, 3) := by decide +kernel
theorem dX9_causeOf_10 : decode cX9_causeOf 10 = .ok (.bipush 32, 2) := by decide +kernel
theorem dX9_causeOf_12 : decode cX9_causeOf 12 = .ok (.if_icmp .ne 14, 3) := by decide +kernel
theorem dX9_causeOf_15 : decode cX9_causeOf 15 = .ok (.new 139, 3) := by decide +kernel
theorem dX9_causeOf_18 : decode cX9_causeOf 18 = .ok (.dup, 1) := by decide +kernel
theorem dX9_causeOf_19 : decode cX9_causeOf 19 = .ok (.ldc_w 495, 3) := by decide +kernel
theorem dX9_causeOf_22 : decode cX9_causeOf 22 = .ok (.invokespecial 143, 3) := by decide +kernel
theorem dX9_causeOf_25 : decode cX9_causeOf 25 = .ok (.athrow, 1) := by decide +kernel
theorem dX9_causeOf_26 : decode cX9_causeOf 26 = .ok (.aload_n 2, 1) := by decide +kernel
theorem dX9_causeOf_27 : decode cX9_causeOf 27 = .ok (.getfield 492, 3) := by decide +kernel
theorem dX9_causeOf_30 : decode cX9_causeOf 30 = .ok (.ireturn, 1) := by decide +kernel
theorem dX9_busyShare_0 : decode cX9_busyShare 0 = .ok (.aload_n 0, 1) := by decide +kernel
theorem dX9_busyShare_1 : decode cX9_busyShare 1 = .ok (.getfield 252, 3) := by decide +kernel
theorem dX9_busyShare_4 : decode cX9_busyShare 4 = .ok (.ifCond .ne 14, 3) := by decide +kernel
theorem dX9_busyShare_7 : decode cX9_busyShare 7 = .ok (.new 497, 3) := by decide +kernel
theorem dX9_busyShare_10 : decode cX9_busyShare 10 = .ok (.dup, 1) := by decide +kernel
theorem dX9_busyShare_11 : decode cX9_busyShare 11 = .ok (.ldc_w 444, 3) := by decide +kernel
theorem dX9_busyShare_14 : decode cX9_busyShare 14 = .ok (.invokespecial 499, 3) := by decide +kernel
theorem dX9_busyShare_17 : decode cX9_busyShare 17 = .ok (.athrow, 1) := by decide +kernel
theorem dX9_busyShare_18 : decode cX9_busyShare 18 = .ok (.aload_n 0, 1) := by decide +kernel
theorem dX9_busyShare_19 : decode cX9_busyShare 19 = .ok (.getfield 45, 3) := by decide +kernel
theorem dX9_busyShare_22 : decode cX9_busyShare 22 = .ok (.getfield 500, 3) := by decide +kernel
theorem dX9_busyShare_25 : decode cX9_busyShare 25 = .ok (.i2f, 1) := by decide +kernel
theorem dX9_busyShare_26 : decode cX9_busyShare 26 = .ok (.bipush 100, 2) := by decide +kernel
theorem dX9_busyShare_28 : decode cX9_busyShare 28 = .ok (.aload_n 0, 1) := by decide +kernel
theorem dX9_busyShare_29 : decode cX9_busyShare 29 = .ok (.getfield 252, 3) := by decide +kernel
theorem dX9_busyShare_32 : decode cX9_busyShare 32 = .ok (.imul, 1) := by decide +kernel
theorem dX9_busyShare_33 : decode cX9_busyShare 33 = .ok (.i2f, 1) := by decide +kernel
theorem dX9_busyShare_34 : decode cX9_busyShare 34 = .ok (.fdiv, 1) := by decide +kernel
theorem dX9_busyShare_35 : decode cX9_busyShare 35 = .ok (.freturn, 1) := by decide +kernel
theorem dX9_meanBytes_0 : decode cX9_meanBytes 0 = .ok (.aload_n 0, 1) := by decide +kernel
theorem dX9_meanBytes_1 : decode cX9_meanBytes 1 = .ok (.getfield 52, 3) := by decide +kernel
theorem dX9_meanBytes_4 : decode cX9_meanBytes 4 = .ok (.getfield 503, 3) := by decide +kernel
theorem dX9_meanBytes_7 : decode cX9_meanBytes 7 = .ok (.ifCond .ne 14, 3) := by decide +kernel
theorem dX9_meanBytes_10 : decode cX9_meanBytes 10 = .ok (.new 497, 3) := by decide +kernel
theorem dX9_meanBytes_13 : decode cX9_meanBytes 13 = .ok (.dup, 1) := by decide +kernel
theorem dX9_meanBytes_14 : decode cX9_meanBytes 14 = .ok (.ldc_w 506, 3) := by decide +kernel
theorem dX9_meanBytes_17 : decode cX9_meanBytes 17 = .ok (.invokespecial 499, 3) := by decide +kernel
theorem dX9_meanBytes_20 : decode cX9_meanBytes 20 = .ok (.athrow, 1) := by decide +kernel
theorem dX9_meanBytes_21 : decode cX9_meanBytes 21 = .ok (.aload_n 0, 1) := by decide +kernel
theorem dX9_meanBytes_22 : decode cX9_meanBytes 22 = .ok (.getfield 52, 3) := by decide +kernel
theorem dX9_meanBytes_25 : decode cX9_meanBytes 25 = .ok (.getfield 508, 3) := by decide +kernel
theorem dX9_meanBytes_28 : decode cX9_meanBytes 28 = .ok (.i2d, 1) := by decide +kernel
theorem dX9_meanBytes_29 : decode cX9_meanBytes 29 = .ok (.aload_n 0, 1) := by decide +kernel
theorem dX9_meanBytes_30 : decode cX9_meanBytes 30 = .ok (.getfield 52, 3) := by decide +kernel
theorem dX9_meanBytes_33 : decode cX9_meanBytes 33 = .ok (.getfield 503, 3) := by decide +kernel
theorem dX9_meanBytes_36 : decode cX9_meanBytes 36 = .ok (.i2d, 1) := by decide +kernel
theorem dX9_meanBytes_37 : decode cX9_meanBytes 37 = .ok (.ddiv, 1) := by decide +kernel
theorem dX9_meanBytes_38 : decode cX9_meanBytes 38 = .ok (.dreturn, 1) := by decide +kernel
set_option maxRecDepth 20000 in
theorem ggX9_checksum_X0_at : GoodIn wsX9_checksum wsX0_at := goodIn_ca (goodIn_r _ [9, 10, 11, 45, 46, 47, 48] (by decide +kernel) (by decide +kernel)) (goodIn_sub (fun _ h => List.mem_cons_of_mem _ (List.mem_append_right _ h)) (by decide +kernel))
set_option maxRecDepth 20000 in
theorem gX9_checksum_X0_at_n278 : GoodIn wsX9_checksum (wsX0_at) := ggX9_checksum_X0_at
theorem dX9_checksum_0 : decode cX9_checksum 0 = .ok (.ldc2_w 511, 3) := by decide +kernel
theorem dX9_checksum_3 : decode cX9_checksum 3 = .ok (.lstore_n 1, 1) := by decide +kernel
theorem dX9_checksum_4 : decode cX9_checksum 4 = .ok (.iconst 0, 1) := by decide +kernel
theorem dX9_checksum_5 : decode cX9_checksum 5 = .ok (.istore_n 3, 1) := by decide +kernel
theorem dX9_checksum_6 : decode cX9_checksum 6 = .ok (.iload_n 3, 1) := by decide +kernel
theorem dX9_checksum_7 : decode cX9_checksum 7 = .ok (.aload_n 0, 1) := by decide +kernel
theorem dX9_checksum_8 : decode cX9_checksum 8 = .ok (.getfield 81, 3) := by decide +kernel
theorem dX9_checksum_11 : decode cX9_checksum 11 = .ok (.if_icmp .ge 53, 3) := by decide +kernel
theorem dX9_checksum_14 : decode cX9_checksum 14 = .ok (.iload_n 3, 1) := by decide +kernel
theorem dX9_checksum_15 : decode cX9_checksum 15 = .ok (.bipush 16, 2) := by decide +kernel
theorem dX9_checksum_17 : decode cX9_checksum 17 = .ok (.if_icmp .ge 47, 3) := by decide +kernel
theorem dX9_checksum_20 : decode cX9_checksum 20 = .ok (.aload_n 0, 1) := by decide +kernel
theorem dX9_checksum_21 : decode cX9_checksum 21 = .ok (.getfield 11, 3) := by decide +kernel
theorem dX9_checksum_24 : decode cX9_checksum 24 = .ok (.iload_n 3, 1) := by decide +kernel
theorem dX9_checksum_25 : decode cX9_checksum 25 = .ok (.aaload, 1) := by decide +kernel
theorem dX9_checksum_26 : decode cX9_checksum 26 = .ok (.astore 4, 2) := by decide +kernel
theorem dX9_checksum_28 : decode cX9_checksum 28 = .ok (.ldc2_w 513, 3) := by decide +kernel
theorem dX9_checksum_31 : decode cX9_checksum 31 = .ok (.lload_n 1, 1) := by decide +kernel
theorem dX9_checksum_32 : decode cX9_checksum 32 = .ok (.lmul, 1) := by decide +kernel
theorem dX9_checksum_33 : decode cX9_checksum 33 = .ok (.aload 4, 2) := by decide +kernel
theorem dX9_checksum_35 : decode cX9_checksum 35 = .ok (.getfield 74, 3) := by decide +kernel
theorem dX9_checksum_38 : decode cX9_checksum 38 = .ok (.i2l, 1) := by decide +kernel
theorem dX9_checksum_39 : decode cX9_checksum 39 = .ok (.ladd, 1) := by decide +kernel
theorem dX9_checksum_40 : decode cX9_checksum 40 = .ok (.aload 4, 2) := by decide +kernel
theorem dX9_checksum_42 : decode cX9_checksum 42 = .ok (.getfield 196, 3) := by decide +kernel
theorem dX9_checksum_45 : decode cX9_checksum 45 = .ok (.i2l, 1) := by decide +kernel
theorem dX9_checksum_46 : decode cX9_checksum 46 = .ok (.ladd, 1) := by decide +kernel
theorem dX9_checksum_47 : decode cX9_checksum 47 = .ok (.bipush 100, 2) := by decide +kernel
theorem dX9_checksum_49 : decode cX9_checksum 49 = .ok (.aload 4, 2) := by decide +kernel
theorem dX9_checksum_51 : decode cX9_checksum 51 = .ok (.getfield 489, 3) := by decide +kernel
theorem dX9_checksum_54 : decode cX9_checksum 54 = .ok (.imul, 1) := by decide +kernel
theorem dX9_checksum_55 : decode cX9_checksum 55 = .ok (.i2l, 1) := by decide +kernel
theorem dX9_checksum_56 : decode cX9_checksum 56 = .ok (.ladd, 1) := by decide +kernel
theorem dX9_checksum_57 : decode cX9_checksum 57 = .ok (.lstore_n 1, 1) := by decide +kernel
theorem dX9_checksum_58 : decode cX9_checksum 58 = .ok (.iinc 3 1, 3) := by decide +kernel
theorem dX9_checksum_61 : decode cX9_checksum 61 = .ok (.goto (-55), 3) := by decide +kernel
theorem dX9_checksum_64 : decode cX9_checksum 64 = .ok (.iconst 0, 1) := by decide +kernel
theorem dX9_checksum_65 : decode cX9_checksum 65 = .ok (.istore_n 3, 1) := by decide +kernel
theorem dX9_checksum_66 : decode cX9_checksum 66 = .ok (.iload_n 3, 1) := by decide +kernel
theorem dX9_checksum_67 : decode cX9_checksum 67 = .ok (.aload_n 0, 1) := by decide +kernel
theorem dX9_checksum_68 : decode cX9_checksum 68 = .ok (.getfield 39, 3) := by decide +kernel
theorem dX9_checksum_71 : decode cX9_checksum 71 = .ok (.getfield 266, 3) := by decide +kernel
theorem dX9_checksum_74 : decode cX9_checksum 74 = .ok (.if_icmp .ge 25, 3) := by decide +kernel
theorem dX9_checksum_77 : decode cX9_checksum 77 = .ok (.ldc2_w 513, 3) := by decide +kernel
theorem dX9_checksum_80 : decode cX9_checksum 80 = .ok (.lload_n 1, 1) := by decide +kernel
theorem dX9_checksum_81 : decode cX9_checksum 81 = .ok (.lmul, 1) := by decide +kernel
theorem dX9_checksum_82 : decode cX9_checksum 82 = .ok (.aload_n 0, 1) := by decide +kernel
theorem dX9_checksum_83 : decode cX9_checksum 83 = .ok (.getfield 39, 3) := by decide +kernel
theorem dX9_checksum_86 : decode cX9_checksum 86 = .ok (.iload_n 3, 1) := by decide +kernel
theorem dX9_checksum_87 : decode cX9_checksum 87 = .ok (.invokevirtual 278, 3) := by decide +kernel
theorem dX9_checksum_90 : decode cX9_checksum 90 = .ok (.i2l, 1) := by decide +kernel
theorem dX9_checksum_91 : decode cX9_checksum 91 = .ok (.ladd, 1) := by decide +kernel
theorem dX9_checksum_92 : decode cX9_checksum 92 = .ok (.lstore_n 1, 1) := by decide +kernel
theorem dX9_checksum_93 : decode cX9_checksum 93 = .ok (.iinc 3 1, 3) := by decide +kernel
theorem dX9_checksum_96 : decode cX9_checksum 96 = .ok (.goto (-30), 3) := by decide +kernel
theorem dX9_checksum_99 : decode cX9_checksum 99 = .ok (.lload_n 1, 1) := by decide +kernel
theorem dX9_checksum_100 : decode cX9_checksum 100 = .ok (.lreturn, 1) := by decide +kernel
set_option maxRecDepth 20000 in
theorem ggX9_isSound_X9_areReservesRight : GoodIn wsX9_isSound wsX9_areReservesRight := goodIn_ca (goodIn_r _ [5, 6, 7, 8, 9, 4, 10, 11, 12, 13, 14, 15, 16, 17, 18, 19, 20, 21, 22, 23, 37, 38, 39, 40, 41, 42, 43, 44, 45, 46, 47, 48, 49, 50, 51, 52, 53, 54, 55, 56, 57, 58, 59, 60, 61, 62, 63, 64, 65, 66, 67, 68, 69, 70, 71, 72, 73, 74, 75, 76, 77, 78, 79, 80, 81, 82, 83, 84, 85, 86, 87, 88, 89, 90, 91, 92, 93, 94, 95, 96, 97] (by decide +kernel) (by decide +kernel)) (goodIn_sub (fun _ h => List.mem_cons_of_mem _ (List.mem_append_right _ h)) (by decide +kernel))
set_option maxRecDepth 20000 in
theorem gX9_isSound_X9_areReservesRight : GoodIn wsX9_isSound (wsV RX9 515 RX9 yX9_areReservesRight wsX9_areReservesRight) := goodIn_app (goodIn_of _ (by decide +kernel)) ggX9_isSound_X9_areReservesRight
set_option maxRecDepth 20000 in
theorem ggX9_isSound_X9_areAddressesUnlike : GoodIn wsX9_isSound wsX9_areAddressesUnlike := goodIn_r _ [27, 28, 37, 38, 39, 40, 41, 42, 43, 44, 45, 46, 47, 48, 49, 78, 79, 80, 81, 82, 83, 84, 85, 86, 87, 88, 89, 90, 91, 92, 93, 94, 95, 96, 97] (by decide +kernel) (by decide +kernel)
set_option maxRecDepth 20000 in
theorem gX9_isSound_X9_areAddressesUnlike : GoodIn wsX9_isSound (wsV RX9 519 RX9 yX9_areAddressesUnlike wsX9_areAddressesUnlike) := goodIn_app (goodIn_of _ (by decide +kernel)) ggX9_isSound_X9_areAddressesUnlike
set_option maxRecDepth 20000 in
theorem ggX9_isSound_X9_areHubsPlugged : GoodIn wsX9_isSound wsX9_areHubsPlugged := goodIn_r _ [32, 28, 37, 38, 39, 40, 41, 42, 43, 44, 45, 46, 47, 48, 49, 78, 79, 80, 81, 82, 83, 84, 85, 86, 87, 88, 89, 90, 91, 92, 93, 94, 95, 96, 97] (by decide +kernel) (by decide +kernel)
set_option maxRecDepth 20000 in
theorem gX9_isSound_X9_areHubsPlugged : GoodIn wsX9_isSound (wsV RX9 522 RX9 yX9_areHubsPlugged wsX9_areHubsPlugged) := goodIn_app (goodIn_of _ (by decide +kernel)) ggX9_isSound_X9_areHubsPlugged
set_option maxRecDepth 20000 in
theorem ggX9_isSound_X9_isNothingInvented : GoodIn wsX9_isSound wsX9_isNothingInvented := goodIn_r _ [36, 28, 37, 38, 39, 40, 41, 42, 43, 44, 45, 46, 47, 48, 49, 78, 79, 80, 81, 82, 83, 84, 85, 86, 87, 88, 89, 90, 91, 92, 93, 94, 95, 96, 97, 69, 70, 71, 72, 73, 74, 75, 76, 77, 98, 99, 100, 101] (by decide +kernel) (by decide +kernel)
set_option maxRecDepth 20000 in
theorem gX9_isSound_X9_isNothingInvented : GoodIn wsX9_isSound (wsV RX9 525 RX9 yX9_isNothingInvented wsX9_isNothingInvented) := goodIn_app (goodIn_of _ (by decide +kernel)) ggX9_isSound_X9_isNothingInvented
theorem dX9_isSound_0 : decode cX9_isSound 0 = .ok (.aload_n 0, 1) := by decide +kernel
theorem dX9_isSound_1 : decode cX9_isSound 1 = .ok (.invokevirtual 515, 3) := by decide +kernel
theorem dX9_isSound_4 : decode cX9_isSound 4 = .ok (.ifCond .eq 28, 3) := by decide +kernel
theorem dX9_isSound_7 : decode cX9_isSound 7 = .ok (.aload_n 0, 1) := by decide +kernel
theorem dX9_isSound_8 : decode cX9_isSound 8 = .ok (.invokevirtual 519, 3) := by decide +kernel
theorem dX9_isSound_11 : decode cX9_isSound 11 = .ok (.ifCond .eq 21, 3) := by decide +kernel
theorem dX9_isSound_14 : decode cX9_isSound 14 = .ok (.aload_n 0, 1) := by decide +kernel
theorem dX9_isSound_15 : decode cX9_isSound 15 = .ok (.invokevirtual 522, 3) := by decide +kernel
theorem dX9_isSound_18 : decode cX9_isSound 18 = .ok (.ifCond .eq 14, 3) := by decide +kernel
theorem dX9_isSound_21 : decode cX9_isSound 21 = .ok (.aload_n 0, 1) := by decide +kernel
theorem dX9_isSound_22 : decode cX9_isSound 22 = .ok (.invokevirtual 525, 3) := by decide +kernel
theorem dX9_isSound_25 : decode cX9_isSound 25 = .ok (.ifCond .eq 7, 3) := by decide +kernel
theorem dX9_isSound_28 : decode cX9_isSound 28 = .ok (.iconst 1, 1) := by decide +kernel
theorem dX9_isSound_29 : decode cX9_isSound 29 = .ok (.goto 4, 3) := by decide +kernel
theorem dX9_isSound_32 : decode cX9_isSound 32 = .ok (.iconst 0, 1) := by decide +kernel
theorem dX9_isSound_33 : decode cX9_isSound 33 = .ok (.ireturn, 1) := by decide +kernel
theorem dX9_isWithin_0 : decode cX9_isWithin 0 = .ok (.iload_n 0, 1) := by decide +kernel
theorem dX9_isWithin_1 : decode cX9_isWithin 1 = .ok (.iload_n 1, 1) := by decide +kernel
theorem dX9_isWithin_2 : decode cX9_isWithin 2 = .ok (.if_icmp .lt 12, 3) := by decide +kernel
theorem dX9_isWithin_5 : decode cX9_isWithin 5 = .ok (.iload_n 0, 1) := by decide +kernel
theorem dX9_isWithin_6 : decode cX9_isWithin 6 = .ok (.iload_n 2, 1) := by decide +kernel
theorem dX9_isWithin_7 : decode cX9_isWithin 7 = .ok (.if_icmp .gt 7, 3) := by decide +kernel
theorem dX9_isWithin_10 : decode cX9_isWithin 10 = .ok (.iconst 1, 1) := by decide +kernel
theorem dX9_isWithin_11 : decode cX9_isWithin 11 = .ok (.goto 4, 3) := by decide +kernel
theorem dX9_isWithin_14 : decode cX9_isWithin 14 = .ok (.iconst 0, 1) := by decide +kernel
theorem dX9_isWithin_15 : decode cX9_isWithin 15 = .ok (.ireturn, 1) := by decide +kernel
theorem dX9_deviceAt_0 : decode cX9_deviceAt 0 = .ok (.iload_n 1, 1) := by decide +kernel
theorem dX9_deviceAt_1 : decode cX9_deviceAt 1 = .ok (.ifCond .lt 17, 3) := by decide +kernel
theorem dX9_deviceAt_4 : decode cX9_deviceAt 4 = .ok (.iload_n 1, 1) := by decide +kernel
theorem dX9_deviceAt_5 : decode cX9_deviceAt 5 = .ok (.aload_n 0, 1) := by decide +kernel
theorem dX9_deviceAt_6 : decode cX9_deviceAt 6 = .ok (.getfield 81, 3) := by decide +kernel
theorem dX9_deviceAt_9 : decode cX9_deviceAt 9 = .ok (.if_icmp .ge 9, 3) := by decide +kernel
theorem dX9_deviceAt_12 : decode cX9_deviceAt 12 = .ok (.iload_n 1, 1) := by decide +kernel
theorem dX9_deviceAt_13 : decode cX9_deviceAt 13 = .ok (.bipush 16, 2) := by decide +kernel
theorem dX9_deviceAt_15 : decode cX9_deviceAt 15 = .ok (.if_icmp .lt 14, 3) := by decide +kernel
theorem dX9_deviceAt_18 : decode cX9_deviceAt 18 = .ok (.new 154, 3) := by decide +kernel
theorem dX9_deviceAt_21 : decode cX9_deviceAt 21 = .ok (.dup, 1) := by decide +kernel
theorem dX9_deviceAt_22 : decode cX9_deviceAt 22 = .ok (.ldc_w 528, 3) := by decide +kernel
theorem dX9_deviceAt_25 : decode cX9_deviceAt 25 = .ok (.invokespecial 158, 3) := by decide +kernel
theorem dX9_deviceAt_28 : decode cX9_deviceAt 28 = .ok (.athrow, 1) := by decide +kernel
theorem dX9_deviceAt_29 : decode cX9_deviceAt 29 = .ok (.aload_n 0, 1) := by decide +kernel
theorem dX9_deviceAt_30 : decode cX9_deviceAt 30 = .ok (.getfield 11, 3) := by decide +kernel
theorem dX9_deviceAt_33 : decode cX9_deviceAt 33 = .ok (.iload_n 1, 1) := by decide +kernel
theorem dX9_deviceAt_34 : decode cX9_deviceAt 34 = .ok (.aaload, 1) := by decide +kernel
theorem dX9_deviceAt_35 : decode cX9_deviceAt 35 = .ok (.areturn, 1) := by decide +kernel
set_option maxRecDepth 20000 in
theorem ggX9_deviceBelowHost_X9_deviceAt : GoodIn wsX9_deviceBelowHost wsX9_deviceAt := goodIn_ca (goodIn_r _ [7, 1, 2, 8, 9, 10, 11, 12, 13, 14, 15, 16, 17, 18, 19, 20, 21, 22] (by decide +kernel) (by decide +kernel)) (goodIn_sub (fun _ h => List.mem_cons_of_mem _ (List.mem_append_right _ h)) (by decide +kernel))
set_option maxRecDepth 20000 in
theorem gX9_deviceBelowHost_X9_deviceAt : GoodIn wsX9_deviceBelowHost (wsV RX9 124 RX9 yX9_deviceAt wsX9_deviceAt) := goodIn_app (goodIn_of _ (by decide +kernel)) ggX9_deviceBelowHost_X9_deviceAt
theorem dX9_deviceBelowHost_0 : decode cX9_deviceBelowHost 0 = .ok (.iload_n 1, 1) := by decide +kernel
theorem dX9_deviceBelowHost_1 : decode cX9_deviceBelowHost 1 = .ok (.ifCond .ne 14, 3) := by decide +kernel
theorem dX9_deviceBelowHost_4 : decode cX9_deviceBelowHost 4 = .ok (.new 154, 3) := by decide +kernel
theorem dX9_deviceBelowHost_7 : decode cX9_deviceBelowHost 7 = .ok (.dup, 1) := by decide +kernel
theorem dX9_deviceBelowHost_8 : decode cX9_deviceBelowHost 8 = .ok (.ldc_w 530, 3) := by decide +kernel
theorem dX9_deviceBelowHost_11 : decode cX9_deviceBelowHost 11 = .ok (.invokespecial 158, 3) := by decide +kernel
theorem dX9_deviceBelowHost_14 : decode cX9_deviceBelowHost 14 = .ok (.athrow, 1) := by decide +kernel
theorem dX9_deviceBelowHost_15 : decode cX9_deviceBelowHost 15 = .ok (.aload_n 0, 1) := by decide +kernel
theorem dX9_deviceBelowHost_16 : decode cX9_deviceBelowHost 16 = .ok (.iload_n 1, 1) := by decide +kernel
theorem dX9_deviceBelowHost_17 : decode cX9_deviceBelowHost 17 = .ok (.invokevirtual 124, 3) := by decide +kernel
theorem dX9_deviceBelowHost_20 : decode cX9_deviceBelowHost 20 = .ok (.areturn, 1) := by decide +kernel
set_option maxRecDepth 20000 in
theorem ggX9_endpointAt_X9_isWithin : GoodIn wsX9_endpointAt wsX9_isWithin := goodIn_r _ [6] (by decide +kernel) (by decide +kernel)
set_option maxRecDepth 20000 in
theorem gX9_endpointAt_X9_isWithin : GoodIn wsX9_endpointAt (va_wsS RX9 88 yX9_isWithin wsX9_isWithin) := goodIn_app (goodIn_of _ (by decide +kernel)) ggX9_endpointAt_X9_isWithin
theorem dX9_endpointAt_0 : decode cX9_endpointAt 0 = .ok (.iload_n 1, 1) := by decide +kernel
theorem dX9_endpointAt_1 : decode cX9_endpointAt 1 = .ok (.iconst 1, 1) := by decide +kernel
theorem dX9_endpointAt_2 : decode cX9_endpointAt 2 = .ok (.iconst 3, 1) := by decide +kernel
theorem dX9_endpointAt_3 : decode cX9_endpointAt 3 = .ok (.invokestatic 88, 3) := by decide +kernel
theorem dX9_endpointAt_6 : decode cX9_endpointAt 6 = .ok (.ifCond .eq 17, 3) := by decide +kernel
theorem dX9_endpointAt_9 : decode cX9_endpointAt 9 = .ok (.aload_n 0, 1) := by decide +kernel
theorem dX9_endpointAt_10 : decode cX9_endpointAt 10 = .ok (.getfield 130, 3) := by decide +kernel
theorem dX9_endpointAt_13 : decode cX9_endpointAt 13 = .ok (.iload_n 1, 1) := by decide +kernel
theorem dX9_endpointAt_14 : decode cX9_endpointAt 14 = .ok (.iconst 1, 1) := by decide +kernel
theorem dX9_endpointAt_15 : decode cX9_endpointAt 15 = .ok (.isub, 1) := by decide +kernel
theorem dX9_endpointAt_16 : decode cX9_endpointAt 16 = .ok (.aaload, 1) := by decide +kernel
theorem dX9_endpointAt_17 : decode cX9_endpointAt 17 = .ok (.getfield 134, 3) := by decide +kernel
theorem dX9_endpointAt_20 : decode cX9_endpointAt 20 = .ok (.ifCond .ne 14, 3) := by decide +kernel
theorem dX9_endpointAt_23 : decode cX9_endpointAt 23 = .ok (.new 154, 3) := by decide +kernel
theorem dX9_endpointAt_26 : decode cX9_endpointAt 26 = .ok (.dup, 1) := by decide +kernel
theorem dX9_endpointAt_27 : decode cX9_endpointAt 27 = .ok (.ldc_w 532, 3) := by decide +kernel
theorem dX9_endpointAt_30 : decode cX9_endpointAt 30 = .ok (.invokespecial 158, 3) := by decide +kernel
theorem dX9_endpointAt_33 : decode cX9_endpointAt 33 = .ok (.athrow, 1) := by decide +kernel
theorem dX9_endpointAt_34 : decode cX9_endpointAt 34 = .ok (.aload_n 0, 1) := by decide +kernel
theorem dX9_endpointAt_35 : decode cX9_endpointAt 35 = .ok (.getfield 130, 3) := by decide +kernel
theorem dX9_endpointAt_38 : decode cX9_endpointAt 38 = .ok (.iload_n 1, 1) := by decide +kernel
theorem dX9_endpointAt_39 : decode cX9_endpointAt 39 = .ok (.iconst 1, 1) := by decide +kernel
theorem dX9_endpointAt_40 : decode cX9_endpointAt 40 = .ok (.isub, 1) := by decide +kernel
theorem dX9_endpointAt_41 : decode cX9_endpointAt 41 = .ok (.aaload, 1) := by decide +kernel
theorem dX9_endpointAt_42 : decode cX9_endpointAt 42 = .ok (.areturn, 1) := by decide +kernel
set_option maxRecDepth 20000 in
theorem ggX9_endpointOut_X9_deviceAt : GoodIn wsX9_endpointOut wsX9_deviceAt := goodIn_ca (goodIn_r _ [7, 8, 9, 10, 11, 27, 28, 29, 30, 31, 32, 33, 34, 35, 36, 37, 38, 39] (by decide +kernel) (by decide +kernel)) (goodIn_sub (fun _ h => List.mem_cons_of_mem _ (List.mem_append_right _ h)) (by decide +kernel))
set_option maxRecDepth 20000 in
theorem gX9_endpointOut_X9_deviceAt : GoodIn wsX9_endpointOut (wsV RX9 124 RX9 yX9_deviceAt wsX9_deviceAt) := goodIn_app (goodIn_of _ (by decide +kernel)) ggX9_endpointOut_X9_deviceAt
set_option maxRecDepth 20000 in
theorem ggX9_endpointOut_X9_endpointAt : GoodIn wsX9_endpointOut wsX9_endpointAt := goodIn_ca (goodIn_r _ [14, 8, 9, 15, 16, 6, 17, 40, 41, 42, 43, 44, 45, 46, 47, 48, 49, 50, 51, 52, 53, 54, 55, 56, 57, 58, 59, 18, 19, 20, 21, 22, 23, 24, 25, 26] (by decide +kernel) (by decide +kernel)) (goodIn_sub (fun _ h => List.mem_cons_of_mem _ (List.mem_append_right _ h)) (by decide +kernel))
set_option maxRecDepth 20000 in
theorem gX9_endpointOut_X9_endpointAt : GoodIn wsX9_endpointOut (va_wsS RX9 283 yX9_endpointAt wsX9_endpointAt) := goodIn_app (goodIn_of _ (by decide +kernel)) ggX9_endpointOut_X9_endpointAt
theorem dX9_endpointOut_0 : decode cX9_endpointOut 0 = .ok (.aload_n 0, 1) := by decide +kernel
theorem dX9_endpointOut_1 : decode cX9_endpointOut 1 = .ok (.iload_n 1, 1) := by decide +kernel
theorem dX9_endpointOut_2 : decode cX9_endpointOut 2 = .ok (.invokevirtual 124, 3) := by decide +kernel
theorem dX9_endpointOut_5 : decode cX9_endpointOut 5 = .ok (.iload_n 2, 1) := by decide +kernel
theorem dX9_endpointOut_6 : decode cX9_endpointOut 6 = .ok (.invokestatic 283, 3) := by decide +kernel
theorem dX9_endpointOut_9 : decode cX9_endpointOut 9 = .ok (.astore_n 3, 1) := by decide +kernel
theorem dX9_endpointOut_10 : decode cX9_endpointOut 10 = .ok (.aload_n 3, 1) := by decide +kernel
theorem dX9_endpointOut_11 : decode cX9_endpointOut 11 = .ok (.getfield 144, 3) := by decide +kernel
theorem dX9_endpointOut_14 : decode cX9_endpointOut 14 = .ok (.ifCond .eq 14, 3) := by decide +kernel
theorem dX9_endpointOut_17 : decode cX9_endpointOut 17 = .ok (.new 139, 3) := by decide +kernel
theorem dX9_endpointOut_20 : decode cX9_endpointOut 20 = .ok (.dup, 1) := by decide +kernel
theorem dX9_endpointOut_21 : decode cX9_endpointOut 21 = .ok (.ldc_w 534, 3) := by decide +kernel
theorem dX9_endpointOut_24 : decode cX9_endpointOut 24 = .ok (.invokespecial 143, 3) := by decide +kernel
theorem dX9_endpointOut_27 : decode cX9_endpointOut 27 = .ok (.athrow, 1) := by decide +kernel
theorem dX9_endpointOut_28 : decode cX9_endpointOut 28 = .ok (.aload_n 3, 1) := by decide +kernel
theorem dX9_endpointOut_29 : decode cX9_endpointOut 29 = .ok (.areturn, 1) := by decide +kernel
set_option maxRecDepth 20000 in
theorem ggX9_openPipe_X9_isWithin : GoodIn wsX9_openPipe wsX9_isWithin := goodIn_r _ [7] (by decide +kernel) (by decide +kernel)
set_option maxRecDepth 20000 in
theorem gX9_openPipe_X9_isWithin : GoodIn wsX9_openPipe (va_wsS RX9 88 yX9_isWithin wsX9_isWithin) := goodIn_app (goodIn_of _ (by decide +kernel)) ggX9_openPipe_X9_isWithin
set_option maxRecDepth 20000 in
theorem ggX9_openPipe_X5_isOpen : GoodIn wsX9_openPipe wsX5_isOpen := goodIn_r _ [11, 12, 26, 27, 28, 29, 30, 31, 32, 33, 34, 35, 36, 37, 38, 39] (by decide +kernel) (by decide +kernel)
set_option maxRecDepth 20000 in
theorem gX9_openPipe_X5_isOpen_n536 : GoodIn wsX9_openPipe (wsX5_isOpen) := ggX9_openPipe_X5_isOpen
theorem dX9_openPipe_0 : decode cX9_openPipe 0 = .ok (.iload_n 1, 1) := by decide +kernel
theorem dX9_openPipe_1 : decode cX9_openPipe 1 = .ok (.iconst 0, 1) := by decide +kernel
theorem dX9_openPipe_2 : decode cX9_openPipe 2 = .ok (.bipush 11, 2) := by decide +kernel
theorem dX9_openPipe_4 : decode cX9_openPipe 4 = .ok (.invokestatic 88, 3) := by decide +kernel
theorem dX9_openPipe_7 : decode cX9_openPipe 7 = .ok (.ifCond .eq 15, 3) := by decide +kernel
theorem dX9_openPipe_10 : decode cX9_openPipe 10 = .ok (.aload_n 0, 1) := by decide +kernel
theorem dX9_openPipe_11 : decode cX9_openPipe 11 = .ok (.getfield 24, 3) := by decide +kernel
theorem dX9_openPipe_14 : decode cX9_openPipe 14 = .ok (.iload_n 1, 1) := by decide +kernel
theorem dX9_openPipe_15 : decode cX9_openPipe 15 = .ok (.aaload, 1) := by decide +kernel
theorem dX9_openPipe_16 : decode cX9_openPipe 16 = .ok (.invokevirtual 536, 3) := by decide +kernel
theorem dX9_openPipe_19 : decode cX9_openPipe 19 = .ok (.ifCond .ne 14, 3) := by decide +kernel
theorem dX9_openPipe_22 : decode cX9_openPipe 22 = .ok (.new 203, 3) := by decide +kernel
theorem dX9_openPipe_25 : decode cX9_openPipe 25 = .ok (.dup, 1) := by decide +kernel
theorem dX9_openPipe_26 : decode cX9_openPipe 26 = .ok (.ldc_w 539, 3) := by decide +kernel
theorem dX9_openPipe_29 : decode cX9_openPipe 29 = .ok (.invokespecial 207, 3) := by decide +kernel
theorem dX9_openPipe_32 : decode cX9_openPipe 32 = .ok (.athrow, 1) := by decide +kernel
theorem dX9_openPipe_33 : decode cX9_openPipe 33 = .ok (.aload_n 0, 1) := by decide +kernel
theorem dX9_openPipe_34 : decode cX9_openPipe 34 = .ok (.getfield 24, 3) := by decide +kernel
theorem dX9_openPipe_37 : decode cX9_openPipe 37 = .ok (.iload_n 1, 1) := by decide +kernel
theorem dX9_openPipe_38 : decode cX9_openPipe 38 = .ok (.aaload, 1) := by decide +kernel
theorem dX9_openPipe_39 : decode cX9_openPipe 39 = .ok (.areturn, 1) := by decide +kernel
set_option maxRecDepth 20000 in
theorem ggX9_newest_X0_at : GoodIn wsX9_newest wsX0_at := goodIn_ca (goodIn_r _ [6, 7, 8, 9, 10, 11, 12] (by decide +kernel) (by decide +kernel)) (goodIn_sub (fun _ h => List.mem_cons_of_mem _ (List.mem_append_right _ h)) (by decide +kernel))
set_option maxRecDepth 20000 in
theorem gX9_newest_X0_at_n278 : GoodIn wsX9_newest (wsX0_at) := ggX9_newest_X0_at
theorem dX9_newest_0 : decode cX9_newest 0 = .ok (.iload_n 1, 1) := by decide +kernel
theorem dX9_newest_1 : decode cX9_newest 1 = .ok (.ifCond .lt 11, 3) := by decide +kernel
theorem dX9_newest_4 : decode cX9_newest 4 = .ok (.iload_n 1, 1) := by decide +kernel
theorem dX9_newest_5 : decode cX9_newest 5 = .ok (.aload_n 0, 1) := by decide +kernel
theorem dX9_newest_6 : decode cX9_newest 6 = .ok (.getfield 266, 3) := by decide +kernel
theorem dX9_newest_9 : decode cX9_newest 9 = .ok (.if_icmp .lt 14, 3) := by decide +kernel
theorem dX9_newest_12 : decode cX9_newest 12 = .ok (.new 203, 3) := by decide +kernel
theorem dX9_newest_15 : decode cX9_newest 15 = .ok (.dup, 1) := by decide +kernel
theorem dX9_newest_16 : decode cX9_newest 16 = .ok (.ldc_w 541, 3) := by decide +kernel
theorem dX9_newest_19 : decode cX9_newest 19 = .ok (.invokespecial 207, 3) := by decide +kernel
theorem dX9_newest_22 : decode cX9_newest 22 = .ok (.athrow, 1) := by decide +kernel
theorem dX9_newest_23 : decode cX9_newest 23 = .ok (.aload_n 0, 1) := by decide +kernel
theorem dX9_newest_24 : decode cX9_newest 24 = .ok (.aload_n 0, 1) := by decide +kernel
theorem dX9_newest_25 : decode cX9_newest 25 = .ok (.getfield 266, 3) := by decide +kernel
theorem dX9_newest_28 : decode cX9_newest 28 = .ok (.iconst 1, 1) := by decide +kernel
theorem dX9_newest_29 : decode cX9_newest 29 = .ok (.isub, 1) := by decide +kernel
theorem dX9_newest_30 : decode cX9_newest 30 = .ok (.iload_n 1, 1) := by decide +kernel
theorem dX9_newest_31 : decode cX9_newest 31 = .ok (.isub, 1) := by decide +kernel
theorem dX9_newest_32 : decode cX9_newest 32 = .ok (.invokevirtual 278, 3) := by decide +kernel
theorem dX9_newest_35 : decode cX9_newest 35 = .ok (.ireturn, 1) := by decide +kernel
theorem dX9_isFault_0 : decode cX9_isFault 0 = .ok (.iload_n 0, 1) := by decide +kernel
theorem dX9_isFault_1 : decode cX9_isFault 1 = .ok (.bipush 99, 2) := by decide +kernel
theorem dX9_isFault_3 : decode cX9_isFault 3 = .ok (.if_icmp .eq 15, 3) := by decide +kernel
theorem dX9_isFault_6 : decode cX9_isFault 6 = .ok (.iload_n 0, 1) := by decide +kernel
theorem dX9_isFault_7 : decode cX9_isFault 7 = .ok (.bipush 100, 2) := by decide +kernel
theorem dX9_isFault_9 : decode cX9_isFault 9 = .ok (.if_icmp .eq 9, 3) := by decide +kernel
theorem dX9_isFault_12 : decode cX9_isFault 12 = .ok (.iload_n 0, 1) := by decide +kernel
theorem dX9_isFault_13 : decode cX9_isFault 13 = .ok (.bipush 97, 2) := by decide +kernel
theorem dX9_isFault_15 : decode cX9_isFault 15 = .ok (.if_icmp .ne 7, 3) := by decide +kernel
theorem dX9_isFault_18 : decode cX9_isFault 18 = .ok (.iconst 1, 1) := by decide +kernel
theorem dX9_isFault_19 : decode cX9_isFault 19 = .ok (.goto 4, 3) := by decide +kernel
theorem dX9_isFault_22 : decode cX9_isFault 22 = .ok (.iconst 0, 1) := by decide +kernel
theorem dX9_isFault_23 : decode cX9_isFault 23 = .ok (.istore_n 1, 1) := by decide +kernel
theorem dX9_isFault_24 : decode cX9_isFault 24 = .ok (.iload_n 1, 1) := by decide +kernel
theorem dX9_isFault_25 : decode cX9_isFault 25 = .ok (.ifCond .ne 27, 3) := by decide +kernel
theorem dX9_isFault_28 : decode cX9_isFault 28 = .ok (.iload_n 0, 1) := by decide +kernel
theorem dX9_isFault_29 : decode cX9_isFault 29 = .ok (.bipush 110, 2) := by decide +kernel
theorem dX9_isFault_31 : decode cX9_isFault 31 = .ok (.if_icmp .eq 21, 3) := by decide +kernel
theorem dX9_isFault_34 : decode cX9_isFault 34 = .ok (.iload_n 0, 1) := by decide +kernel
theorem dX9_isFault_35 : decode cX9_isFault 35 = .ok (.bipush 115, 2) := by decide +kernel
theorem dX9_isFault_37 : decode cX9_isFault 37 = .ok (.if_icmp .eq 15, 3) := by decide +kernel
theorem dX9_isFault_40 : decode cX9_isFault 40 = .ok (.iload_n 0, 1) := by decide +kernel
theorem dX9_isFault_41 : decode cX9_isFault 41 = .ok (.bipush 98, 2) := by decide +kernel
theorem dX9_isFault_43 : decode cX9_isFault 43 = .ok (.if_icmp .eq 9, 3) := by decide +kernel
theorem dX9_isFault_46 : decode cX9_isFault 46 = .ok (.iload_n 0, 1) := by decide +kernel
theorem dX9_isFault_47 : decode cX9_isFault 47 = .ok (.bipush 116, 2) := by decide +kernel
theorem dX9_isFault_49 : decode cX9_isFault 49 = .ok (.if_icmp .ne 7, 3) := by decide +kernel
theorem dX9_isFault_52 : decode cX9_isFault 52 = .ok (.iconst 1, 1) := by decide +kernel
theorem dX9_isFault_53 : decode cX9_isFault 53 = .ok (.goto 4, 3) := by decide +kernel
theorem dX9_isFault_56 : decode cX9_isFault 56 = .ok (.iconst 0, 1) := by decide +kernel
theorem dX9_isFault_57 : decode cX9_isFault 57 = .ok (.ireturn, 1) := by decide +kernel
theorem dX9_isPeriodic_0 : decode cX9_isPeriodic 0 = .ok (.iload_n 0, 1) := by decide +kernel
theorem dX9_isPeriodic_1 : decode cX9_isPeriodic 1 = .ok (.bipush 105, 2) := by decide +kernel
theorem dX9_isPeriodic_3 : decode cX9_isPeriodic 3 = .ok (.if_icmp .eq 9, 3) := by decide +kernel
theorem dX9_isPeriodic_6 : decode cX9_isPeriodic 6 = .ok (.iload_n 0, 1) := by decide +kernel
theorem dX9_isPeriodic_7 : decode cX9_isPeriodic 7 = .ok (.bipush 115, 2) := by decide +kernel
theorem dX9_isPeriodic_9 : decode cX9_isPeriodic 9 = .ok (.if_icmp .ne 7, 3) := by decide +kernel
theorem dX9_isPeriodic_12 : decode cX9_isPeriodic 12 = .ok (.iconst 1, 1) := by decide +kernel
theorem dX9_isPeriodic_13 : decode cX9_isPeriodic 13 = .ok (.goto 4, 3) := by decide +kernel
theorem dX9_isPeriodic_16 : decode cX9_isPeriodic 16 = .ok (.iconst 0, 1) := by decide +kernel
theorem dX9_isPeriodic_17 : decode cX9_isPeriodic 17 = .ok (.ireturn, 1) := by decide +kernel
theorem dX9_isInterval_0 : decode cX9_isInterval 0 = .ok (.iload_n 0, 1) := by decide +kernel
theorem dX9_isInterval_1 : decode cX9_isInterval 1 = .ok (.iconst 1, 1) := by decide +kernel
theorem dX9_isInterval_2 : decode cX9_isInterval 2 = .ok (.if_icmp .eq 19, 3) := by decide +kernel
theorem dX9_isInterval_5 : decode cX9_isInterval 5 = .ok (.iload_n 0, 1) := by decide +kernel
theorem dX9_isInterval_6 : decode cX9_isInterval 6 = .ok (.iconst 2, 1) := by decide +kernel
theorem dX9_isInterval_7 : decode cX9_isInterval 7 = .ok (.if_icmp .eq 14, 3) := by decide +kernel
theorem dX9_isInterval_10 : decode cX9_isInterval 10 = .ok (.iload_n 0, 1) := by decide +kernel
theorem dX9_isInterval_11 : decode cX9_isInterval 11 = .ok (.iconst 4, 1) := by decide +kernel
theorem dX9_isInterval_12 : decode cX9_isInterval 12 = .ok (.if_icmp .eq 9, 3) := by decide +kernel
theorem dX9_isInterval_15 : decode cX9_isInterval 15 = .ok (.iload_n 0, 1) := by decide +kernel
theorem dX9_isInterval_16 : decode cX9_isInterval 16 = .ok (.bipush 8, 2) := by decide +kernel
theorem dX9_isInterval_18 : decode cX9_isInterval 18 = .ok (.if_icmp .ne 7, 3) := by decide +kernel
theorem dX9_isInterval_21 : decode cX9_isInterval 21 = .ok (.iconst 1, 1) := by decide +kernel
theorem dX9_isInterval_22 : decode cX9_isInterval 22 = .ok (.goto 4, 3) := by decide +kernel
theorem dX9_isInterval_25 : decode cX9_isInterval 25 = .ok (.iconst 0, 1) := by decide +kernel
theorem dX9_isInterval_26 : decode cX9_isInterval 26 = .ok (.ireturn, 1) := by decide +kernel
theorem dX9_isSpeed_0 : decode cX9_isSpeed 0 = .ok (.iload_n 0, 1) := by decide +kernel
theorem dX9_isSpeed_1 : decode cX9_isSpeed 1 = .ok (.bipush 108, 2) := by decide +kernel
theorem dX9_isSpeed_3 : decode cX9_isSpeed 3 = .ok (.if_icmp .eq 15, 3) := by decide +kernel
theorem dX9_isSpeed_6 : decode cX9_isSpeed 6 = .ok (.iload_n 0, 1) := by decide +kernel
theorem dX9_isSpeed_7 : decode cX9_isSpeed 7 = .ok (.bipush 102, 2) := by decide +kernel
theorem dX9_isSpeed_9 : decode cX9_isSpeed 9 = .ok (.if_icmp .eq 9, 3) := by decide +kernel
theorem dX9_isSpeed_12 : decode cX9_isSpeed 12 = .ok (.iload_n 0, 1) := by decide +kernel
theorem dX9_isSpeed_13 : decode cX9_isSpeed 13 = .ok (.bipush 104, 2) := by decide +kernel
theorem dX9_isSpeed_15 : decode cX9_isSpeed 15 = .ok (.if_icmp .ne 7, 3) := by decide +kernel
theorem dX9_isSpeed_18 : decode cX9_isSpeed 18 = .ok (.iconst 1, 1) := by decide +kernel
theorem dX9_isSpeed_19 : decode cX9_isSpeed 19 = .ok (.goto 4, 3) := by decide +kernel
theorem dX9_isSpeed_22 : decode cX9_isSpeed 22 = .ok (.iconst 0, 1) := by decide +kernel
theorem dX9_isSpeed_23 : decode cX9_isSpeed 23 = .ok (.ireturn, 1) := by decide +kernel
theorem dX9_lowerSpeed_0 : decode cX9_lowerSpeed 0 = .ok (.iload_n 0, 1) := by decide +kernel
theorem dX9_lowerSpeed_1 : decode cX9_lowerSpeed 1 = .ok (.bipush 108, 2) := by decide +kernel
theorem dX9_lowerSpeed_3 : decode cX9_lowerSpeed 3 = .ok (.if_icmp .eq 9, 3) := by decide +kernel
theorem dX9_lowerSpeed_6 : decode cX9_lowerSpeed 6 = .ok (.iload_n 1, 1) := by decide +kernel
theorem dX9_lowerSpeed_7 : decode cX9_lowerSpeed 7 = .ok (.bipush 108, 2) := by decide +kernel
theorem dX9_lowerSpeed_9 : decode cX9_lowerSpeed 9 = .ok (.if_icmp .ne 6, 3) := by decide +kernel
theorem dX9_lowerSpeed_12 : decode cX9_lowerSpeed 12 = .ok (.bipush 108, 2) := by decide +kernel
theorem dX9_lowerSpeed_14 : decode cX9_lowerSpeed 14 = .ok (.ireturn, 1) := by decide +kernel
theorem dX9_lowerSpeed_15 : decode cX9_lowerSpeed 15 = .ok (.iload_n 0, 1) := by decide +kernel
theorem dX9_lowerSpeed_16 : decode cX9_lowerSpeed 16 = .ok (.bipush 102, 2) := by decide +kernel
theorem dX9_lowerSpeed_18 : decode cX9_lowerSpeed 18 = .ok (.if_icmp .eq 9, 3) := by decide +kernel
theorem dX9_lowerSpeed_21 : decode cX9_lowerSpeed 21 = .ok (.iload_n 1, 1) := by decide +kernel
theorem dX9_lowerSpeed_22 : decode cX9_lowerSpeed 22 = .ok (.bipush 102, 2) := by decide +kernel
theorem dX9_lowerSpeed_24 : decode cX9_lowerSpeed 24 = .ok (.if_icmp .ne 8, 3) := by decide +kernel
theorem dX9_lowerSpeed_27 : decode cX9_lowerSpeed 27 = .ok (.bipush 102, 2) := by decide +kernel
theorem dX9_lowerSpeed_29 : decode cX9_lowerSpeed 29 = .ok (.goto 5, 3) := by decide +kernel
theorem dX9_lowerSpeed_32 : decode cX9_lowerSpeed 32 = .ok (.bipush 104, 2) := by decide +kernel
theorem dX9_lowerSpeed_34 : decode cX9_lowerSpeed 34 = .ok (.ireturn, 1) := by decide +kernel
theorem dX9_takesDevices_0 : decode cX9_takesDevices 0 = .ok (.aload_n 0, 1) := by decide +kernel
theorem dX9_takesDevices_1 : decode cX9_takesDevices 1 = .ok (.getfield 74, 3) := by decide +kernel
theorem dX9_takesDevices_4 : decode cX9_takesDevices 4 = .ok (.bipush 117, 2) := by decide +kernel
theorem dX9_takesDevices_6 : decode cX9_takesDevices 6 = .ok (.if_icmp .eq 25, 3) := by decide +kernel
theorem dX9_takesDevices_9 : decode cX9_takesDevices 9 = .ok (.aload_n 0, 1) := by decide +kernel
theorem dX9_takesDevices_10 : decode cX9_takesDevices 10 = .ok (.getfield 74, 3) := by decide +kernel
theorem dX9_takesDevices_13 : decode cX9_takesDevices 13 = .ok (.bipush 115, 2) := by decide +kernel
theorem dX9_takesDevices_15 : decode cX9_takesDevices 15 = .ok (.if_icmp .eq 16, 3) := by decide +kernel
theorem dX9_takesDevices_18 : decode cX9_takesDevices 18 = .ok (.aload_n 0, 1) := by decide +kernel
theorem dX9_takesDevices_19 : decode cX9_takesDevices 19 = .ok (.getfield 74, 3) := by decide +kernel
theorem dX9_takesDevices_22 : decode cX9_takesDevices 22 = .ok (.bipush 120, 2) := by decide +kernel
theorem dX9_takesDevices_24 : decode cX9_takesDevices 24 = .ok (.if_icmp .eq 7, 3) := by decide +kernel
theorem dX9_takesDevices_27 : decode cX9_takesDevices 27 = .ok (.iconst 1, 1) := by decide +kernel
theorem dX9_takesDevices_28 : decode cX9_takesDevices 28 = .ok (.goto 4, 3) := by decide +kernel
theorem dX9_takesDevices_31 : decode cX9_takesDevices 31 = .ok (.iconst 0, 1) := by decide +kernel
theorem dX9_takesDevices_32 : decode cX9_takesDevices 32 = .ok (.ireturn, 1) := by decide +kernel
theorem dX9_isPortTaken_0 : decode cX9_isPortTaken 0 = .ok (.iconst 0, 1) := by decide +kernel
theorem dX9_isPortTaken_1 : decode cX9_isPortTaken 1 = .ok (.istore_n 3, 1) := by decide +kernel
theorem dX9_isPortTaken_2 : decode cX9_isPortTaken 2 = .ok (.iload_n 3, 1) := by decide +kernel
theorem dX9_isPortTaken_3 : decode cX9_isPortTaken 3 = .ok (.bipush 16, 2) := by decide +kernel
theorem dX9_isPortTaken_5 : decode cX9_isPortTaken 5 = .ok (.if_icmp .ge 37, 3) := by decide +kernel
theorem dX9_isPortTaken_8 : decode cX9_isPortTaken 8 = .ok (.aload_n 0, 1) := by decide +kernel
theorem dX9_isPortTaken_9 : decode cX9_isPortTaken 9 = .ok (.getfield 11, 3) := by decide +kernel
theorem dX9_isPortTaken_12 : decode cX9_isPortTaken 12 = .ok (.iload_n 3, 1) := by decide +kernel
theorem dX9_isPortTaken_13 : decode cX9_isPortTaken 13 = .ok (.aaload, 1) := by decide +kernel
theorem dX9_isPortTaken_14 : decode cX9_isPortTaken 14 = .ok (.getfield 171, 3) := by decide +kernel
theorem dX9_isPortTaken_17 : decode cX9_isPortTaken 17 = .ok (.aload_n 1, 1) := by decide +kernel
theorem dX9_isPortTaken_18 : decode cX9_isPortTaken 18 = .ok (.if_acmp .ne 18, 3) := by decide +kernel
theorem dX9_isPortTaken_21 : decode cX9_isPortTaken 21 = .ok (.aload_n 0, 1) := by decide +kernel
theorem dX9_isPortTaken_22 : decode cX9_isPortTaken 22 = .ok (.getfield 11, 3) := by decide +kernel
theorem dX9_isPortTaken_25 : decode cX9_isPortTaken 25 = .ok (.iload_n 3, 1) := by decide +kernel
theorem dX9_isPortTaken_26 : decode cX9_isPortTaken 26 = .ok (.aaload, 1) := by decide +kernel
theorem dX9_isPortTaken_27 : decode cX9_isPortTaken 27 = .ok (.getfield 175, 3) := by decide +kernel
theorem dX9_isPortTaken_30 : decode cX9_isPortTaken 30 = .ok (.iload_n 2, 1) := by decide +kernel
theorem dX9_isPortTaken_31 : decode cX9_isPortTaken 31 = .ok (.if_icmp .ne 5, 3) := by decide +kernel
theorem dX9_isPortTaken_34 : decode cX9_isPortTaken 34 = .ok (.iconst 1, 1) := by decide +kernel
theorem dX9_isPortTaken_35 : decode cX9_isPortTaken 35 = .ok (.ireturn, 1) := by decide +kernel
theorem dX9_isPortTaken_36 : decode cX9_isPortTaken 36 = .ok (.iinc 3 1, 3) := by decide +kernel
theorem dX9_isPortTaken_39 : decode cX9_isPortTaken 39 = .ok (.goto (-37), 3) := by decide +kernel
theorem dX9_isPortTaken_42 : decode cX9_isPortTaken 42 = .ok (.iconst 0, 1) := by decide +kernel
theorem dX9_isPortTaken_43 : decode cX9_isPortTaken 43 = .ok (.ireturn, 1) := by decide +kernel
theorem dX9_isSameOrBelow_0 : decode cX9_isSameOrBelow 0 = .ok (.aload_n 0, 1) := by decide +kernel
theorem dX9_isSameOrBelow_1 : decode cX9_isSameOrBelow 1 = .ok (.astore_n 2, 1) := by decide +kernel
theorem dX9_isSameOrBelow_2 : decode cX9_isSameOrBelow 2 = .ok (.iconst 0, 1) := by decide +kernel
theorem dX9_isSameOrBelow_3 : decode cX9_isSameOrBelow 3 = .ok (.istore_n 3, 1) := by decide +kernel
theorem dX9_isSameOrBelow_4 : decode cX9_isSameOrBelow 4 = .ok (.iload_n 3, 1) := by decide +kernel
theorem dX9_isSameOrBelow_5 : decode cX9_isSameOrBelow 5 = .ok (.bipush 16, 2) := by decide +kernel
theorem dX9_isSameOrBelow_7 : decode cX9_isSameOrBelow 7 = .ok (.if_icmp .ge 25, 3) := by decide +kernel
theorem dX9_isSameOrBelow_10 : decode cX9_isSameOrBelow 10 = .ok (.aload_n 2, 1) := by decide +kernel
theorem dX9_isSameOrBelow_11 : decode cX9_isSameOrBelow 11 = .ok (.ifnull 21, 3) := by decide +kernel
theorem dX9_isSameOrBelow_14 : decode cX9_isSameOrBelow 14 = .ok (.aload_n 2, 1) := by decide +kernel
theorem dX9_isSameOrBelow_15 : decode cX9_isSameOrBelow 15 = .ok (.aload_n 1, 1) := by decide +kernel
theorem dX9_isSameOrBelow_16 : decode cX9_isSameOrBelow 16 = .ok (.if_acmp .ne 5, 3) := by decide +kernel
theorem dX9_isSameOrBelow_19 : decode cX9_isSameOrBelow 19 = .ok (.iconst 1, 1) := by decide +kernel
theorem dX9_isSameOrBelow_20 : decode cX9_isSameOrBelow 20 = .ok (.ireturn, 1) := by decide +kernel
theorem dX9_isSameOrBelow_21 : decode cX9_isSameOrBelow 21 = .ok (.aload_n 2, 1) := by decide +kernel
theorem dX9_isSameOrBelow_22 : decode cX9_isSameOrBelow 22 = .ok (.getfield 171, 3) := by decide +kernel
theorem dX9_isSameOrBelow_25 : decode cX9_isSameOrBelow 25 = .ok (.astore_n 2, 1) := by decide +kernel
theorem dX9_isSameOrBelow_26 : decode cX9_isSameOrBelow 26 = .ok (.iinc 3 1, 3) := by decide +kernel
theorem dX9_isSameOrBelow_29 : decode cX9_isSameOrBelow 29 = .ok (.goto (-25), 3) := by decide +kernel
theorem dX9_isSameOrBelow_32 : decode cX9_isSameOrBelow 32 = .ok (.iconst 0, 1) := by decide +kernel
theorem dX9_isSameOrBelow_33 : decode cX9_isSameOrBelow 33 = .ok (.ireturn, 1) := by decide +kernel
set_option maxRecDepth 20000 in
theorem ggX9_detach_X9_isSameOrBelow : GoodIn wsX9_detach wsX9_isSameOrBelow := goodIn_r _ [6, 91, 92, 93, 94, 95, 96, 97, 98, 99, 100, 101, 102, 103, 104, 105, 106, 107, 108, 109, 110] (by decide +kernel) (by decide +kernel)
set_option maxRecDepth 20000 in
theorem gX9_detach_X9_isSameOrBelow : GoodIn wsX9_detach (va_wsS RX9 246 yX9_isSameOrBelow wsX9_isSameOrBelow) := goodIn_app (goodIn_of _ (by decide +kernel)) ggX9_detach_X9_isSameOrBelow
set_option maxRecDepth 20000 in
theorem ggX9_detach_X9_closeBy : GoodIn wsX9_detach wsX9_closeBy := goodIn_ca (goodIn_r _ [10, 11, 12, 13, 5, 14, 15, 16, 17, 18, 19, 20, 21, 22, 23, 24, 25, 26, 27, 28, 29, 30, 31, 32, 33, 34, 35, 36, 37, 38, 39, 40, 41, 42, 43, 44, 45, 46, 47, 48, 49, 50, 51, 52, 53, 54, 55, 56, 57, 58, 59, 60, 61, 62, 63, 64, 111, 112, 113, 114, 115, 116, 117, 118, 119, 120, 121, 122, 123, 124, 125, 126, 127, 128, 129, 130, 131, 132, 133, 91, 92, 93, 94, 95, 96, 97, 98, 99, 100, 101, 102, 103, 104, 105, 106, 107, 108, 109, 110, 78, 79, 80, 81, 82, 83, 84, 85, 86, 87, 88, 89, 90, 134, 135, 136, 137, 138, 139, 140, 141, 142, 143, 144, 145, 146, 147, 148, 149, 150, 151, 152, 153, 154] (by decide +kernel) (by decide +kernel)) (goodIn_sub (fun _ h => List.mem_cons_of_mem _ (List.mem_append_right _ h)) (by decide +kernel))
set_option maxRecDepth 20000 in
theorem gX9_detach_X9_closeBy : GoodIn wsX9_detach (wsV RX9 338 RX9 yX9_closeBy wsX9_closeBy) := goodIn_app (goodIn_of _ (by decide +kernel)) ggX9_detach_X9_closeBy
set_option maxRecDepth 20000 in
theorem ggX9_detach_X1_leave : GoodIn wsX9_detach wsX1_leave := goodIn_r _ [68, 69, 70, 71, 72, 73, 74, 75, 76, 77, 91, 92, 93, 94, 95, 96, 97, 98, 99, 100, 101, 102, 103, 104, 105, 106, 107, 108, 109, 110] (by decide +kernel) (by decide +kernel)
set_option maxRecDepth 20000 in
theorem gX9_detach_X1_leave_n549 : GoodIn wsX9_detach (wsX1_leave) := ggX9_detach_X1_leave
theorem dX9_detach_0 : decode cX9_detach 0 = .ok (.iconst 0, 1) := by decide +kernel
theorem dX9_detach_1 : decode cX9_detach 1 = .ok (.istore_n 3, 1) := by decide +kernel
theorem dX9_detach_2 : decode cX9_detach 2 = .ok (.iload_n 3, 1) := by decide +kernel
theorem dX9_detach_3 : decode cX9_detach 3 = .ok (.bipush 16, 2) := by decide +kernel
theorem dX9_detach_5 : decode cX9_detach 5 = .ok (.if_icmp .ge 38, 3) := by decide +kernel
theorem dX9_detach_8 : decode cX9_detach 8 = .ok (.aload_n 0, 1) := by decide +kernel
theorem dX9_detach_9 : decode cX9_detach 9 = .ok (.getfield 11, 3) := by decide +kernel
theorem dX9_detach_12 : decode cX9_detach 12 = .ok (.iload_n 3, 1) := by decide +kernel
theorem dX9_detach_13 : decode cX9_detach 13 = .ok (.aaload, 1) := by decide +kernel
theorem dX9_detach_14 : decode cX9_detach 14 = .ok (.astore 4, 2) := by decide +kernel
theorem dX9_detach_16 : decode cX9_detach 16 = .ok (.aload 4, 2) := by decide +kernel
theorem dX9_detach_18 : decode cX9_detach 18 = .ok (.aload 4, 2) := by decide +kernel
theorem dX9_detach_20 : decode cX9_detach 20 = .ok (.aload_n 1, 1) := by decide +kernel
theorem dX9_detach_21 : decode cX9_detach 21 = .ok (.if_acmp .ne 7, 3) := by decide +kernel
theorem dX9_detach_24 : decode cX9_detach 24 = .ok (.iload_n 2, 1) := by decide +kernel
theorem dX9_detach_25 : decode cX9_detach 25 = .ok (.goto 9, 3) := by decide +kernel
theorem dX9_detach_28 : decode cX9_detach 28 = .ok (.aload 4, 2) := by decide +kernel
theorem dX9_detach_30 : decode cX9_detach 30 = .ok (.aload_n 1, 1) := by decide +kernel
theorem dX9_detach_31 : decode cX9_detach 31 = .ok (.invokestatic 246, 3) := by decide +kernel
theorem dX9_detach_34 : decode cX9_detach 34 = .ok (.putfield 543, 3) := by decide +kernel
theorem dX9_detach_37 : decode cX9_detach 37 = .ok (.iinc 3 1, 3) := by decide +kernel
theorem dX9_detach_40 : decode cX9_detach 40 = .ok (.goto (-38), 3) := by decide +kernel
theorem dX9_detach_43 : decode cX9_detach 43 = .ok (.iconst 0, 1) := by decide +kernel
theorem dX9_detach_44 : decode cX9_detach 44 = .ok (.istore_n 3, 1) := by decide +kernel
theorem dX9_detach_45 : decode cX9_detach 45 = .ok (.iload_n 3, 1) := by decide +kernel
theorem dX9_detach_46 : decode cX9_detach 46 = .ok (.bipush 12, 2) := by decide +kernel
theorem dX9_detach_48 : decode cX9_detach 48 = .ok (.if_icmp .ge 46, 3) := by decide +kernel
theorem dX9_detach_51 : decode cX9_detach 51 = .ok (.aload_n 0, 1) := by decide +kernel
theorem dX9_detach_52 : decode cX9_detach 52 = .ok (.getfield 24, 3) := by decide +kernel
theorem dX9_detach_55 : decode cX9_detach 55 = .ok (.iload_n 3, 1) := by decide +kernel
theorem dX9_detach_56 : decode cX9_detach 56 = .ok (.aaload, 1) := by decide +kernel
theorem dX9_detach_57 : decode cX9_detach 57 = .ok (.getfield 546, 3) := by decide +kernel
theorem dX9_detach_60 : decode cX9_detach 60 = .ok (.astore 4, 2) := by decide +kernel
theorem dX9_detach_62 : decode cX9_detach 62 = .ok (.aload 4, 2) := by decide +kernel
theorem dX9_detach_64 : decode cX9_detach 64 = .ok (.ifnull 24, 3) := by decide +kernel
theorem dX9_detach_67 : decode cX9_detach 67 = .ok (.aload 4, 2) := by decide +kernel
theorem dX9_detach_69 : decode cX9_detach 69 = .ok (.getfield 543, 3) := by decide +kernel
theorem dX9_detach_72 : decode cX9_detach 72 = .ok (.ifCond .eq 16, 3) := by decide +kernel
theorem dX9_detach_75 : decode cX9_detach 75 = .ok (.aload_n 0, 1) := by decide +kernel
theorem dX9_detach_76 : decode cX9_detach 76 = .ok (.aload_n 0, 1) := by decide +kernel
theorem dX9_detach_77 : decode cX9_detach 77 = .ok (.getfield 24, 3) := by decide +kernel
theorem dX9_detach_80 : decode cX9_detach 80 = .ok (.iload_n 3, 1) := by decide +kernel
theorem dX9_detach_81 : decode cX9_detach 81 = .ok (.aaload, 1) := by decide +kernel
theorem dX9_detach_82 : decode cX9_detach 82 = .ok (.bipush 103, 2) := by decide +kernel
theorem dX9_detach_84 : decode cX9_detach 84 = .ok (.invokevirtual 338, 3) := by decide +kernel
theorem dX9_detach_87 : decode cX9_detach 87 = .ok (.pop, 1) := by decide +kernel
theorem dX9_detach_88 : decode cX9_detach 88 = .ok (.iinc 3 1, 3) := by decide +kernel
theorem dX9_detach_91 : decode cX9_detach 91 = .ok (.goto (-46), 3) := by decide +kernel
theorem dX9_detach_94 : decode cX9_detach 94 = .ok (.iconst 0, 1) := by decide +kernel
theorem dX9_detach_95 : decode cX9_detach 95 = .ok (.istore_n 3, 1) := by decide +kernel
theorem dX9_detach_96 : decode cX9_detach 96 = .ok (.iconst 0, 1) := by decide +kernel
theorem dX9_detach_97 : decode cX9_detach 97 = .ok (.istore 4, 2) := by decide +kernel
theorem dX9_detach_99 : decode cX9_detach 99 = .ok (.iload 4, 2) := by decide +kernel
theorem dX9_detach_101 : decode cX9_detach 101 = .ok (.bipush 16, 2) := by decide +kernel
theorem dX9_detach_103 : decode cX9_detach 103 = .ok (.if_icmp .ge 35, 3) := by decide +kernel
theorem dX9_detach_106 : decode cX9_detach 106 = .ok (.aload_n 0, 1) := by decide +kernel
theorem dX9_detach_107 : decode cX9_detach 107 = .ok (.getfield 11, 3) := by decide +kernel
theorem dX9_detach_110 : decode cX9_detach 110 = .ok (.iload 4, 2) := by decide +kernel
theorem dX9_detach_112 : decode cX9_detach 112 = .ok (.aaload, 1) := by decide +kernel
theorem dX9_detach_113 : decode cX9_detach 113 = .ok (.getfield 543, 3) := by decide +kernel
theorem dX9_detach_116 : decode cX9_detach 116 = .ok (.ifCond .eq 16, 3) := by decide +kernel
theorem dX9_detach_119 : decode cX9_detach 119 = .ok (.aload_n 0, 1) := by decide +kernel
theorem dX9_detach_120 : decode cX9_detach 120 = .ok (.getfield 11, 3) := by decide +kernel
theorem dX9_detach_123 : decode cX9_detach 123 = .ok (.iload 4, 2) := by decide +kernel
theorem dX9_detach_125 : decode cX9_detach 125 = .ok (.aaload, 1) := by decide +kernel
theorem dX9_detach_126 : decode cX9_detach 126 = .ok (.invokevirtual 549, 3) := by decide +kernel
theorem dX9_detach_129 : decode cX9_detach 129 = .ok (.iinc 3 1, 3) := by decide +kernel
theorem dX9_detach_132 : decode cX9_detach 132 = .ok (.iinc 4 1, 3) := by decide +kernel
theorem dX9_detach_135 : decode cX9_detach 135 = .ok (.goto (-36), 3) := by decide +kernel
theorem dX9_detach_138 : decode cX9_detach 138 = .ok (.iload_n 3, 1) := by decide +kernel
theorem dX9_detach_139 : decode cX9_detach 139 = .ok (.ireturn, 1) := by decide +kernel
set_option maxRecDepth 20000 in
theorem ggX9_disable_X9_detach : GoodIn wsX9_disable wsX9_detach := goodIn_ca (goodIn_r _ [5, 6, 7, 8, 9, 4, 10, 11, 12, 13, 14, 15, 16, 17, 18, 19, 20, 21, 22, 23, 24, 25, 26, 27, 28, 29, 30, 31, 32, 33, 34, 35, 36, 37, 38, 39, 40, 41, 42, 43, 44, 45, 46, 47, 48, 49, 50, 51, 52, 53, 54, 55, 56, 57, 58, 59, 60, 61, 62, 63, 64, 65, 66, 67, 68, 69, 70, 71, 72, 73, 74, 75, 76, 77, 78, 79, 80, 81, 102, 103, 104, 105, 106, 107, 108, 109, 110, 111, 112, 113, 114, 82, 83, 84, 85, 86, 87, 88, 89, 90, 91, 92, 93, 94, 95, 96, 97, 98, 99, 100, 101, 115, 116, 117, 118, 119, 120, 121, 122, 123, 124, 125, 126, 127, 128, 129, 130, 131, 132, 133, 134, 135, 136, 137, 138, 139, 140, 141, 142, 143, 144, 145, 146, 147, 148, 149, 150, 151, 152, 153, 154, 155, 156, 157, 158] (by decide +kernel) (by decide +kernel)) (goodIn_sub (fun _ h => List.mem_cons_of_mem _ (List.mem_append_right _ h)) (by decide +kernel))
set_option maxRecDepth 20000 in
theorem gX9_disable_X9_detach : GoodIn wsX9_disable (wsV RX9 190 RX9 yX9_detach wsX9_detach) := goodIn_app (goodIn_of _ (by decide +kernel)) ggX9_disable_X9_detach
theorem dX9_disable_0 : decode cX9_disable 0 = .ok (.aload_n 1, 1) := by decide +kernel
theorem dX9_disable_1 : decode cX9_disable 1 = .ok (.iload_n 2, 1) := by decide +kernel
theorem dX9_disable_2 : decode cX9_disable 2 = .ok (.putfield 74, 3) := by decide +kernel
theorem dX9_disable_5 : decode cX9_disable 5 = .ok (.aload_n 1, 1) := by decide +kernel
theorem dX9_disable_6 : decode cX9_disable 6 = .ok (.dup, 1) := by decide +kernel
theorem dX9_disable_7 : decode cX9_disable 7 = .ok (.getfield 489, 3) := by decide +kernel
theorem dX9_disable_10 : decode cX9_disable 10 = .ok (.iconst 1, 1) := by decide +kernel
theorem dX9_disable_11 : decode cX9_disable 11 = .ok (.iadd, 1) := by decide +kernel
theorem dX9_disable_12 : decode cX9_disable 12 = .ok (.putfield 489, 3) := by decide +kernel
theorem dX9_disable_15 : decode cX9_disable 15 = .ok (.aload_n 0, 1) := by decide +kernel
theorem dX9_disable_16 : decode cX9_disable 16 = .ok (.aload_n 1, 1) := by decide +kernel
theorem dX9_disable_17 : decode cX9_disable 17 = .ok (.iconst 0, 1) := by decide +kernel
theorem dX9_disable_18 : decode cX9_disable 18 = .ok (.invokevirtual 190, 3) := by decide +kernel
theorem dX9_disable_21 : decode cX9_disable 21 = .ok (.pop, 1) := by decide +kernel
theorem dX9_disable_22 : decode cX9_disable 22 = .ok (.return_, 1) := by decide +kernel
theorem dX9_firstNewDevice_0 : decode cX9_firstNewDevice 0 = .ok (.aconst_null, 1) := by decide +kernel
theorem dX9_firstNewDevice_1 : decode cX9_firstNewDevice 1 = .ok (.astore_n 1, 1) := by decide +kernel
theorem dX9_firstNewDevice_2 : decode cX9_firstNewDevice 2 = .ok (.iconst 0, 1) := by decide +kernel
theorem dX9_firstNewDevice_3 : decode cX9_firstNewDevice 3 = .ok (.istore_n 2, 1) := by decide +kernel
theorem dX9_firstNewDevice_4 : decode cX9_firstNewDevice 4 = .ok (.iload_n 2, 1) := by decide +kernel
theorem dX9_firstNewDevice_5 : decode cX9_firstNewDevice 5 = .ok (.bipush 16, 2) := by decide +kernel
theorem dX9_firstNewDevice_7 : decode cX9_firstNewDevice 7 = .ok (.if_icmp .ge 73, 3) := by decide +kernel
theorem dX9_firstNewDevice_10 : decode cX9_firstNewDevice 10 = .ok (.aload_n 0, 1) := by decide +kernel
theorem dX9_firstNewDevice_11 : decode cX9_firstNewDevice 11 = .ok (.getfield 11, 3) := by decide +kernel
theorem dX9_firstNewDevice_14 : decode cX9_firstNewDevice 14 = .ok (.iload_n 2, 1) := by decide +kernel
theorem dX9_firstNewDevice_15 : decode cX9_firstNewDevice 15 = .ok (.aaload, 1) := by decide +kernel
theorem dX9_firstNewDevice_16 : decode cX9_firstNewDevice 16 = .ok (.astore_n 3, 1) := by decide +kernel
theorem dX9_firstNewDevice_17 : decode cX9_firstNewDevice 17 = .ok (.aload_n 3, 1) := by decide +kernel
theorem dX9_firstNewDevice_18 : decode cX9_firstNewDevice 18 = .ok (.getfield 74, 3) := by decide +kernel
theorem dX9_firstNewDevice_21 : decode cX9_firstNewDevice 21 = .ok (.bipush 110, 2) := by decide +kernel
theorem dX9_firstNewDevice_23 : decode cX9_firstNewDevice 23 = .ok (.if_icmp .ne 26, 3) := by decide +kernel
theorem dX9_firstNewDevice_26 : decode cX9_firstNewDevice 26 = .ok (.aload_n 3, 1) := by decide +kernel
theorem dX9_firstNewDevice_27 : decode cX9_firstNewDevice 27 = .ok (.getfield 171, 3) := by decide +kernel
theorem dX9_firstNewDevice_30 : decode cX9_firstNewDevice 30 = .ok (.ifnull 19, 3) := by decide +kernel
theorem dX9_firstNewDevice_33 : decode cX9_firstNewDevice 33 = .ok (.aload_n 3, 1) := by decide +kernel
theorem dX9_firstNewDevice_34 : decode cX9_firstNewDevice 34 = .ok (.getfield 171, 3) := by decide +kernel
theorem dX9_firstNewDevice_37 : decode cX9_firstNewDevice 37 = .ok (.getfield 74, 3) := by decide +kernel
theorem dX9_firstNewDevice_40 : decode cX9_firstNewDevice 40 = .ok (.bipush 99, 2) := by decide +kernel
theorem dX9_firstNewDevice_42 : decode cX9_firstNewDevice 42 = .ok (.if_icmp .ne 7, 3) := by decide +kernel
theorem dX9_firstNewDevice_45 : decode cX9_firstNewDevice 45 = .ok (.iconst 1, 1) := by decide +kernel
theorem dX9_firstNewDevice_46 : decode cX9_firstNewDevice 46 = .ok (.goto 4, 3) := by decide +kernel
theorem dX9_firstNewDevice_49 : decode cX9_firstNewDevice 49 = .ok (.iconst 0, 1) := by decide +kernel
theorem dX9_firstNewDevice_50 : decode cX9_firstNewDevice 50 = .ok (.istore 4, 2) := by decide +kernel
theorem dX9_firstNewDevice_52 : decode cX9_firstNewDevice 52 = .ok (.iload 4, 2) := by decide +kernel
theorem dX9_firstNewDevice_54 : decode cX9_firstNewDevice 54 = .ok (.ifCond .eq 20, 3) := by decide +kernel
theorem dX9_firstNewDevice_57 : decode cX9_firstNewDevice 57 = .ok (.aload_n 1, 1) := by decide +kernel
theorem dX9_firstNewDevice_58 : decode cX9_firstNewDevice 58 = .ok (.ifnull 14, 3) := by decide +kernel
theorem dX9_firstNewDevice_61 : decode cX9_firstNewDevice 61 = .ok (.aload_n 3, 1) := by decide +kernel
theorem dX9_firstNewDevice_62 : decode cX9_firstNewDevice 62 = .ok (.getfield 78, 3) := by decide +kernel
theorem dX9_firstNewDevice_65 : decode cX9_firstNewDevice 65 = .ok (.aload_n 1, 1) := by decide +kernel
theorem dX9_firstNewDevice_66 : decode cX9_firstNewDevice 66 = .ok (.getfield 78, 3) := by decide +kernel
theorem dX9_firstNewDevice_69 : decode cX9_firstNewDevice 69 = .ok (.if_icmp .ge 5, 3) := by decide +kernel
theorem dX9_firstNewDevice_72 : decode cX9_firstNewDevice 72 = .ok (.aload_n 3, 1) := by decide +kernel
theorem dX9_firstNewDevice_73 : decode cX9_firstNewDevice 73 = .ok (.astore_n 1, 1) := by decide +kernel
theorem dX9_firstNewDevice_74 : decode cX9_firstNewDevice 74 = .ok (.iinc 2 1, 3) := by decide +kernel
theorem dX9_firstNewDevice_77 : decode cX9_firstNewDevice 77 = .ok (.goto (-73), 3) := by decide +kernel
theorem dX9_firstNewDevice_80 : decode cX9_firstNewDevice 80 = .ok (.aload_n 1, 1) := by decide +kernel
theorem dX9_firstNewDevice_81 : decode cX9_firstNewDevice 81 = .ok (.areturn, 1) := by decide +kernel
set_option maxRecDepth 20000 in
theorem ggX9_answersControl_X4_use : GoodIn wsX9_answersControl wsX4_use := goodIn_r _ [5, 6, 7, 44, 45] (by decide +kernel) (by decide +kernel)
set_option maxRecDepth 20000 in
theorem gX9_answersControl_X4_use_n552 : GoodIn wsX9_answersControl (wsX4_use) := ggX9_answersControl_X4_use
theorem dX9_answersControl_0 : decode cX9_answersControl 0 = .ok (.iconst 0, 1) := by decide +kernel
theorem dX9_answersControl_1 : decode cX9_answersControl 1 = .ok (.istore_n 2, 1) := by decide +kernel
theorem dX9_answersControl_2 : decode cX9_answersControl 2 = .ok (.iload_n 2, 1) := by decide +kernel
theorem dX9_answersControl_3 : decode cX9_answersControl 3 = .ok (.iconst 5, 1) := by decide +kernel
theorem dX9_answersControl_4 : decode cX9_answersControl 4 = .ok (.if_icmp .ge 68, 3) := by decide +kernel
theorem dX9_answersControl_7 : decode cX9_answersControl 7 = .ok (.iconst 0, 1) := by decide +kernel
theorem dX9_answersControl_8 : decode cX9_answersControl 8 = .ok (.istore_n 3, 1) := by decide +kernel
theorem dX9_answersControl_9 : decode cX9_answersControl 9 = .ok (.iconst 0, 1) := by decide +kernel
theorem dX9_answersControl_10 : decode cX9_answersControl 10 = .ok (.istore 4, 2) := by decide +kernel
theorem dX9_answersControl_12 : decode cX9_answersControl 12 = .ok (.iload 4, 2) := by decide +kernel
theorem dX9_answersControl_14 : decode cX9_answersControl 14 = .ok (.ifCond .ne 45, 3) := by decide +kernel
theorem dX9_answersControl_17 : decode cX9_answersControl 17 = .ok (.iload_n 3, 1) := by decide +kernel
theorem dX9_answersControl_18 : decode cX9_answersControl 18 = .ok (.iconst 3, 1) := by decide +kernel
theorem dX9_answersControl_19 : decode cX9_answersControl 19 = .ok (.if_icmp .ge 40, 3) := by decide +kernel
theorem dX9_answersControl_22 : decode cX9_answersControl 22 = .ok (.aload_n 0, 1) := by decide +kernel
theorem dX9_answersControl_23 : decode cX9_answersControl 23 = .ok (.getfield 59, 3) := by decide +kernel
theorem dX9_answersControl_26 : decode cX9_answersControl 26 = .ok (.dup, 1) := by decide +kernel
theorem dX9_answersControl_27 : decode cX9_answersControl 27 = .ok (.getfield 418, 3) := by decide +kernel
theorem dX9_answersControl_30 : decode cX9_answersControl 30 = .ok (.iconst 1, 1) := by decide +kernel
theorem dX9_answersControl_31 : decode cX9_answersControl 31 = .ok (.iadd, 1) := by decide +kernel
theorem dX9_answersControl_32 : decode cX9_answersControl 32 = .ok (.putfield 418, 3) := by decide +kernel
theorem dX9_answersControl_35 : decode cX9_answersControl 35 = .ok (.aload_n 1, 1) := by decide +kernel
theorem dX9_answersControl_36 : decode cX9_answersControl 36 = .ok (.getfield 399, 3) := by decide +kernel
theorem dX9_answersControl_39 : decode cX9_answersControl 39 = .ok (.invokevirtual 552, 3) := by decide +kernel
theorem dX9_answersControl_42 : decode cX9_answersControl 42 = .ok (.bipush 32, 2) := by decide +kernel
theorem dX9_answersControl_44 : decode cX9_answersControl 44 = .ok (.if_icmp .ne 9, 3) := by decide +kernel
theorem dX9_answersControl_47 : decode cX9_answersControl 47 = .ok (.iconst 1, 1) := by decide +kernel
theorem dX9_answersControl_48 : decode cX9_answersControl 48 = .ok (.istore 4, 2) := by decide +kernel
theorem dX9_answersControl_50 : decode cX9_answersControl 50 = .ok (.goto (-38), 3) := by decide +kernel
theorem dX9_answersControl_53 : decode cX9_answersControl 53 = .ok (.iinc 3 1, 3) := by decide +kernel
theorem dX9_answersControl_56 : decode cX9_answersControl 56 = .ok (.goto (-44), 3) := by decide +kernel
theorem dX9_answersControl_59 : decode cX9_answersControl 59 = .ok (.iload 4, 2) := by decide +kernel
theorem dX9_answersControl_61 : decode cX9_answersControl 61 = .ok (.ifCond .ne 5, 3) := by decide +kernel
theorem dX9_answersControl_64 : decode cX9_answersControl 64 = .ok (.iconst 0, 1) := by decide +kernel
theorem dX9_answersControl_65 : decode cX9_answersControl 65 = .ok (.ireturn, 1) := by decide +kernel
theorem dX9_answersControl_66 : decode cX9_answersControl 66 = .ok (.iinc 2 1, 3) := by decide +kernel
theorem dX9_answersControl_69 : decode cX9_answersControl 69 = .ok (.goto (-67), 3) := by decide +kernel
theorem dX9_answersControl_72 : decode cX9_answersControl 72 = .ok (.iconst 1, 1) := by decide +kernel
theorem dX9_answersControl_73 : decode cX9_answersControl 73 = .ok (.ireturn, 1) := by decide +kernel
set_option maxRecDepth 20000 in
theorem ggX9_lowestFreeAddress_X9_isAddressUsed : GoodIn wsX9_lowestFreeAddress wsX9_isAddressUsed := goodIn_r _ [5, 6, 7, 8, 9, 10, 11, 12, 13, 14, 15, 16, 17, 18, 19, 20, 21, 22, 23, 24, 25, 26, 27, 28, 29, 30, 31, 32, 33, 34, 35, 36, 37, 38, 39] (by decide +kernel) (by decide +kernel)
set_option maxRecDepth 20000 in
theorem gX9_lowestFreeAddress_X9_isAddressUsed : GoodIn wsX9_lowestFreeAddress (wsV RX9 555 RX9 yX9_isAddressUsed wsX9_isAddressUsed) := goodIn_app (goodIn_of _ (by decide +kernel)) ggX9_lowestFreeAddress_X9_isAddressUsed
theorem dX9_lowestFreeAddress_0 : decode cX9_lowestFreeAddress 0 = .ok (.iconst 1, 1) := by decide +kernel
theorem dX9_lowestFreeAddress_1 : decode cX9_lowestFreeAddress 1 = .ok (.istore_n 1, 1) := by decide +kernel
theorem dX9_lowestFreeAddress_2 : decode cX9_lowestFreeAddress 2 = .ok (.iload_n 1, 1) := by decide +kernel
theorem dX9_lowestFreeAddress_3 : decode cX9_lowestFreeAddress 3 = .ok (.bipush 16, 2) := by decide +kernel
theorem dX9_lowestFreeAddress_5 : decode cX9_lowestFreeAddress 5 = .ok (.if_icmp .ge 17, 3) := by decide +kernel
theorem dX9_lowestFreeAddress_8 : decode cX9_lowestFreeAddress 8 = .ok (.aload_n 0, 1) := by decide +kernel
theorem dX9_lowestFreeAddress_9 : decode cX9_lowestFreeAddress 9 = .ok (.iload_n 1, 1) := by decide +kernel
theorem dX9_lowestFreeAddress_10 : decode cX9_lowestFreeAddress 10 = .ok (.invokevirtual 555, 3) := by decide +kernel
theorem dX9_lowestFreeAddress_13 : decode cX9_lowestFreeAddress 13 = .ok (.ifCond .eq 9, 3) := by decide +kernel
theorem dX9_lowestFreeAddress_16 : decode cX9_lowestFreeAddress 16 = .ok (.iinc 1 1, 3) := by decide +kernel
theorem dX9_lowestFreeAddress_19 : decode cX9_lowestFreeAddress 19 = .ok (.goto (-17), 3) := by decide +kernel
theorem dX9_lowestFreeAddress_22 : decode cX9_lowestFreeAddress 22 = .ok (.iload_n 1, 1) := by decide +kernel
theorem dX9_lowestFreeAddress_23 : decode cX9_lowestFreeAddress 23 = .ok (.ireturn, 1) := by decide +kernel
theorem dX9_isAddressUsed_0 : decode cX9_isAddressUsed 0 = .ok (.iconst 0, 1) := by decide +kernel
theorem dX9_isAddressUsed_1 : decode cX9_isAddressUsed 1 = .ok (.istore_n 2, 1) := by decide +kernel
theorem dX9_isAddressUsed_2 : decode cX9_isAddressUsed 2 = .ok (.iload_n 2, 1) := by decide +kernel
theorem dX9_isAddressUsed_3 : decode cX9_isAddressUsed 3 = .ok (.bipush 16, 2) := by decide +kernel
theorem dX9_isAddressUsed_5 : decode cX9_isAddressUsed 5 = .ok (.if_icmp .ge 24, 3) := by decide +kernel
theorem dX9_isAddressUsed_8 : decode cX9_isAddressUsed 8 = .ok (.aload_n 0, 1) := by decide +kernel
theorem dX9_isAddressUsed_9 : decode cX9_isAddressUsed 9 = .ok (.getfield 11, 3) := by decide +kernel
theorem dX9_isAddressUsed_12 : decode cX9_isAddressUsed 12 = .ok (.iload_n 2, 1) := by decide +kernel
theorem dX9_isAddressUsed_13 : decode cX9_isAddressUsed 13 = .ok (.aaload, 1) := by decide +kernel
theorem dX9_isAddressUsed_14 : decode cX9_isAddressUsed 14 = .ok (.getfield 196, 3) := by decide +kernel
theorem dX9_isAddressUsed_17 : decode cX9_isAddressUsed 17 = .ok (.iload_n 1, 1) := by decide +kernel
theorem dX9_isAddressUsed_18 : decode cX9_isAddressUsed 18 = .ok (.if_icmp .ne 5, 3) := by decide +kernel
theorem dX9_isAddressUsed_21 : decode cX9_isAddressUsed 21 = .ok (.iconst 1, 1) := by decide +kernel
theorem dX9_isAddressUsed_22 : decode cX9_isAddressUsed 22 = .ok (.ireturn, 1) := by decide +kernel
theorem dX9_isAddressUsed_23 : decode cX9_isAddressUsed 23 = .ok (.iinc 2 1, 3) := by decide +kernel
theorem dX9_isAddressUsed_26 : decode cX9_isAddressUsed 26 = .ok (.goto (-24), 3) := by decide +kernel
theorem dX9_isAddressUsed_29 : decode cX9_isAddressUsed 29 = .ok (.iconst 0, 1) := by decide +kernel
theorem dX9_isAddressUsed_30 : decode cX9_isAddressUsed 30 = .ok (.ireturn, 1) := by decide +kernel
theorem dX9_portPower_0 : decode cX9_portPower 0 = .ok (.aload_n 0, 1) := by decide +kernel
theorem dX9_portPower_1 : decode cX9_portPower 1 = .ok (.getfield 171, 3) := by decide +kernel
theorem dX9_portPower_4 : decode cX9_portPower 4 = .ok (.ifnull 17, 3) := by decide +kernel
theorem dX9_portPower_7 : decode cX9_portPower 7 = .ok (.aload_n 0, 1) := by decide +kernel
theorem dX9_portPower_8 : decode cX9_portPower 8 = .ok (.getfield 171, 3) := by decide +kernel
theorem dX9_portPower_11 : decode cX9_portPower 11 = .ok (.getfield 70, 3) := by decide +kernel
theorem dX9_portPower_14 : decode cX9_portPower 14 = .ok (.ifCond .eq 7, 3) := by decide +kernel
theorem dX9_portPower_17 : decode cX9_portPower 17 = .ok (.iconst 5, 1) := by decide +kernel
theorem dX9_portPower_18 : decode cX9_portPower 18 = .ok (.goto 4, 3) := by decide +kernel
theorem dX9_portPower_21 : decode cX9_portPower 21 = .ok (.iconst 1, 1) := by decide +kernel
theorem dX9_portPower_22 : decode cX9_portPower 22 = .ok (.ireturn, 1) := by decide +kernel
theorem dX9_drawnBy_0 : decode cX9_drawnBy 0 = .ok (.aload_n 0, 1) := by decide +kernel
theorem dX9_drawnBy_1 : decode cX9_drawnBy 1 = .ok (.getfield 70, 3) := by decide +kernel
theorem dX9_drawnBy_4 : decode cX9_drawnBy 4 = .ok (.ifCond .eq 7, 3) := by decide +kernel
theorem dX9_drawnBy_7 : decode cX9_drawnBy 7 = .ok (.iconst 0, 1) := by decide +kernel
theorem dX9_drawnBy_8 : decode cX9_drawnBy 8 = .ok (.goto 7, 3) := by decide +kernel
theorem dX9_drawnBy_11 : decode cX9_drawnBy 11 = .ok (.aload_n 0, 1) := by decide +kernel
theorem dX9_drawnBy_12 : decode cX9_drawnBy 12 = .ok (.getfield 115, 3) := by decide +kernel
theorem dX9_drawnBy_15 : decode cX9_drawnBy 15 = .ok (.ireturn, 1) := by decide +kernel
set_option maxRecDepth 20000 in
theorem ggX9_fittingDriver_X9_firstDriver : GoodIn wsX9_fittingDriver wsX9_firstDriver := goodIn_ca (goodIn_r _ [5, 6, 7, 8, 9, 10, 11, 12, 13, 14, 15, 16, 17, 18, 19, 20, 21] (by decide +kernel) (by decide +kernel)) (goodIn_sub (fun _ h => List.mem_cons_of_mem _ (List.mem_append_right _ h)) (by decide +kernel))
set_option maxRecDepth 20000 in
theorem gX9_fittingDriver_X9_firstDriver : GoodIn wsX9_fittingDriver (wsV RX9 558 RX9 yX9_firstDriver wsX9_firstDriver) := goodIn_app (goodIn_of _ (by decide +kernel)) ggX9_fittingDriver_X9_firstDriver
theorem dX9_fittingDriver_0 : decode cX9_fittingDriver 0 = .ok (.aload_n 0, 1) := by decide +kernel
theorem dX9_fittingDriver_1 : decode cX9_fittingDriver 1 = .ok (.iload_n 1, 1) := by decide +kernel
theorem dX9_fittingDriver_2 : decode cX9_fittingDriver 2 = .ok (.iload_n 2, 1) := by decide +kernel
theorem dX9_fittingDriver_3 : decode cX9_fittingDriver 3 = .ok (.invokevirtual 558, 3) := by decide +kernel
theorem dX9_fittingDriver_6 : decode cX9_fittingDriver 6 = .ok (.istore_n 3, 1) := by decide +kernel
theorem dX9_fittingDriver_7 : decode cX9_fittingDriver 7 = .ok (.iload_n 3, 1) := by decide +kernel
theorem dX9_fittingDriver_8 : decode cX9_fittingDriver 8 = .ok (.ifCond .lt 7, 3) := by decide +kernel
theorem dX9_fittingDriver_11 : decode cX9_fittingDriver 11 = .ok (.iload_n 3, 1) := by decide +kernel
theorem dX9_fittingDriver_12 : decode cX9_fittingDriver 12 = .ok (.goto 9, 3) := by decide +kernel
theorem dX9_fittingDriver_15 : decode cX9_fittingDriver 15 = .ok (.aload_n 0, 1) := by decide +kernel
theorem dX9_fittingDriver_16 : decode cX9_fittingDriver 16 = .ok (.iload_n 1, 1) := by decide +kernel
theorem dX9_fittingDriver_17 : decode cX9_fittingDriver 17 = .ok (.iconst (-1), 1) := by decide +kernel
theorem dX9_fittingDriver_18 : decode cX9_fittingDriver 18 = .ok (.invokevirtual 558, 3) := by decide +kernel
theorem dX9_fittingDriver_21 : decode cX9_fittingDriver 21 = .ok (.ireturn, 1) := by decide +kernel
theorem dX9_firstDriver_0 : decode cX9_firstDriver 0 = .ok (.iconst 0, 1) := by decide +kernel
theorem dX9_firstDriver_1 : decode cX9_firstDriver 1 = .ok (.istore_n 3, 1) := by decide +kernel
theorem dX9_firstDriver_2 : decode cX9_firstDriver 2 = .ok (.iload_n 3, 1) := by decide +kernel
theorem dX9_firstDriver_3 : decode cX9_firstDriver 3 = .ok (.aload_n 0, 1) := by decide +kernel
theorem dX9_firstDriver_4 : decode cX9_firstDriver 4 = .ok (.getfield 231, 3) := by decide +kernel
theorem dX9_firstDriver_7 : decode cX9_firstDriver 7 = .ok (.if_icmp .ge 37, 3) := by decide +kernel
theorem dX9_firstDriver_10 : decode cX9_firstDriver 10 = .ok (.iload_n 3, 1) := by decide +kernel
theorem dX9_firstDriver_11 : decode cX9_firstDriver 11 = .ok (.bipush 8, 2) := by decide +kernel
theorem dX9_firstDriver_13 : decode cX9_firstDriver 13 = .ok (.if_icmp .ge 31, 3) := by decide +kernel
theorem dX9_firstDriver_16 : decode cX9_firstDriver 16 = .ok (.aload_n 0, 1) := by decide +kernel
theorem dX9_firstDriver_17 : decode cX9_firstDriver 17 = .ok (.getfield 15, 3) := by decide +kernel
theorem dX9_firstDriver_20 : decode cX9_firstDriver 20 = .ok (.iload_n 3, 1) := by decide +kernel
theorem dX9_firstDriver_21 : decode cX9_firstDriver 21 = .ok (.iaload, 1) := by decide +kernel
theorem dX9_firstDriver_22 : decode cX9_firstDriver 22 = .ok (.iload_n 1, 1) := by decide +kernel
theorem dX9_firstDriver_23 : decode cX9_firstDriver 23 = .ok (.if_icmp .ne 15, 3) := by decide +kernel
theorem dX9_firstDriver_26 : decode cX9_firstDriver 26 = .ok (.aload_n 0, 1) := by decide +kernel
theorem dX9_firstDriver_27 : decode cX9_firstDriver 27 = .ok (.getfield 19, 3) := by decide +kernel
theorem dX9_firstDriver_30 : decode cX9_firstDriver 30 = .ok (.iload_n 3, 1) := by decide +kernel
theorem dX9_firstDriver_31 : decode cX9_firstDriver 31 = .ok (.iaload, 1) := by decide +kernel
theorem dX9_firstDriver_32 : decode cX9_firstDriver 32 = .ok (.iload_n 2, 1) := by decide +kernel
theorem dX9_firstDriver_33 : decode cX9_firstDriver 33 = .ok (.if_icmp .ne 5, 3) := by decide +kernel
theorem dX9_firstDriver_36 : decode cX9_firstDriver 36 = .ok (.iload_n 3, 1) := by decide +kernel
theorem dX9_firstDriver_37 : decode cX9_firstDriver 37 = .ok (.ireturn, 1) := by decide +kernel
theorem dX9_firstDriver_38 : decode cX9_firstDriver 38 = .ok (.iinc 3 1, 3) := by decide +kernel
theorem dX9_firstDriver_41 : decode cX9_firstDriver 41 = .ok (.goto (-39), 3) := by decide +kernel
theorem dX9_firstDriver_44 : decode cX9_firstDriver 44 = .ok (.iconst (-1), 1) := by decide +kernel
theorem dX9_firstDriver_45 : decode cX9_firstDriver 45 = .ok (.ireturn, 1) := by decide +kernel
set_option maxRecDepth 20000 in
theorem ggX9_hasTransferWithin_X9_isSameOrBelow : GoodIn wsX9_hasTransferWithin wsX9_isSameOrBelow := goodIn_r _ [5, 33, 34, 35, 36, 37, 38, 39, 40, 41, 42, 43, 44, 45, 46, 47, 48, 49, 50, 51, 52] (by decide +kernel) (by decide +kernel)
set_option maxRecDepth 20000 in
theorem gX9_hasTransferWithin_X9_isSameOrBelow : GoodIn wsX9_hasTransferWithin (va_wsS RX9 246 yX9_isSameOrBelow wsX9_isSameOrBelow) := goodIn_app (goodIn_of _ (by decide +kernel)) ggX9_hasTransferWithin_X9_isSameOrBelow
theorem dX9_hasTransferWithin_0 : decode cX9_hasTransferWithin 0 = .ok (.iconst 0, 1) := by decide +kernel
theorem dX9_hasTransferWithin_1 : decode cX9_hasTransferWithin 1 = .ok (.istore_n 2, 1) := by decide +kernel
theorem dX9_hasTransferWithin_2 : decode cX9_hasTransferWithin 2 = .ok (.iload_n 2, 1) := by decide +kernel
theorem dX9_hasTransferWithin_3 : decode cX9_hasTransferWithin 3 = .ok (.bipush 12, 2) := by decide +kernel
theorem dX9_hasTransferWithin_5 : decode cX9_hasTransferWithin 5 = .ok (.if_icmp .ge 45, 3) := by decide +kernel
theorem dX9_hasTransferWithin_8 : decode cX9_hasTransferWithin 8 = .ok (.aload_n 0, 1) := by decide +kernel
theorem dX9_hasTransferWithin_9 : decode cX9_hasTransferWithin 9 = .ok (.getfield 24, 3) := by decide +kernel
theorem dX9_hasTransferWithin_12 : decode cX9_hasTransferWithin 12 = .ok (.iload_n 2, 1) := by decide +kernel
theorem dX9_hasTransferWithin_13 : decode cX9_hasTransferWithin 13 = .ok (.aaload, 1) := by decide +kernel
theorem dX9_hasTransferWithin_14 : decode cX9_hasTransferWithin 14 = .ok (.getfield 546, 3) := by decide +kernel
theorem dX9_hasTransferWithin_17 : decode cX9_hasTransferWithin 17 = .ok (.astore_n 3, 1) := by decide +kernel
theorem dX9_hasTransferWithin_18 : decode cX9_hasTransferWithin 18 = .ok (.aload_n 3, 1) := by decide +kernel
theorem dX9_hasTransferWithin_19 : decode cX9_hasTransferWithin 19 = .ok (.ifnull 25, 3) := by decide +kernel
theorem dX9_hasTransferWithin_22 : decode cX9_hasTransferWithin 22 = .ok (.aload_n 0, 1) := by decide +kernel
theorem dX9_hasTransferWithin_23 : decode cX9_hasTransferWithin 23 = .ok (.getfield 24, 3) := by decide +kernel
theorem dX9_hasTransferWithin_26 : decode cX9_hasTransferWithin 26 = .ok (.iload_n 2, 1) := by decide +kernel
theorem dX9_hasTransferWithin_27 : decode cX9_hasTransferWithin 27 = .ok (.aaload, 1) := by decide +kernel
theorem dX9_hasTransferWithin_28 : decode cX9_hasTransferWithin 28 = .ok (.getfield 356, 3) := by decide +kernel
theorem dX9_hasTransferWithin_31 : decode cX9_hasTransferWithin 31 = .ok (.ifCond .le 13, 3) := by decide +kernel
theorem dX9_hasTransferWithin_34 : decode cX9_hasTransferWithin 34 = .ok (.aload_n 3, 1) := by decide +kernel
theorem dX9_hasTransferWithin_35 : decode cX9_hasTransferWithin 35 = .ok (.aload_n 1, 1) := by decide +kernel
theorem dX9_hasTransferWithin_36 : decode cX9_hasTransferWithin 36 = .ok (.invokestatic 246, 3) := by decide +kernel
theorem dX9_hasTransferWithin_39 : decode cX9_hasTransferWithin 39 = .ok (.ifCond .eq 5, 3) := by decide +kernel
theorem dX9_hasTransferWithin_42 : decode cX9_hasTransferWithin 42 = .ok (.iconst 1, 1) := by decide +kernel
theorem dX9_hasTransferWithin_43 : decode cX9_hasTransferWithin 43 = .ok (.ireturn, 1) := by decide +kernel
theorem dX9_hasTransferWithin_44 : decode cX9_hasTransferWithin 44 = .ok (.iinc 2 1, 3) := by decide +kernel
theorem dX9_hasTransferWithin_47 : decode cX9_hasTransferWithin 47 = .ok (.goto (-45), 3) := by decide +kernel
theorem dX9_hasTransferWithin_50 : decode cX9_hasTransferWithin 50 = .ok (.iconst 0, 1) := by decide +kernel
theorem dX9_hasTransferWithin_51 : decode cX9_hasTransferWithin 51 = .ok (.ireturn, 1) := by decide +kernel
set_option maxRecDepth 20000 in
theorem ggX9_shutGreedyDevices_X9_drawnBy : GoodIn wsX9_shutGreedyDevices wsX9_drawnBy := goodIn_r _ [5, 105, 106, 107, 108, 109, 110, 111, 112, 113, 114, 115, 116, 117, 118, 119, 120, 121, 122, 123, 124] (by decide +kernel) (by decide +kernel)
set_option maxRecDepth 20000 in
theorem gX9_shutGreedyDevices_X9_drawnBy : GoodIn wsX9_shutGreedyDevices (va_wsS RX9 238 yX9_drawnBy wsX9_drawnBy) := goodIn_app (goodIn_of _ (by decide +kernel)) ggX9_shutGreedyDevices_X9_drawnBy
set_option maxRecDepth 20000 in
theorem ggX9_shutGreedyDevices_X9_portPower : GoodIn wsX9_shutGreedyDevices wsX9_portPower := goodIn_r _ [8, 105, 106, 107, 108, 109, 110, 111, 112, 113, 114, 115, 116, 117, 118, 119, 120, 121, 122, 123, 124] (by decide +kernel) (by decide +kernel)
set_option maxRecDepth 20000 in
theorem gX9_shutGreedyDevices_X9_portPower : GoodIn wsX9_shutGreedyDevices (va_wsS RX9 218 yX9_portPower wsX9_portPower) := goodIn_app (goodIn_of _ (by decide +kernel)) ggX9_shutGreedyDevices_X9_portPower
set_option maxRecDepth 20000 in
theorem ggX9_shutGreedyDevices_X9_disable : GoodIn wsX9_shutGreedyDevices wsX9_disable := goodIn_ca (goodIn_r _ [12, 13, 14, 15, 4, 16, 1, 17, 18, 19, 20, 21, 22, 23, 24, 25, 26, 27, 28, 29, 30, 31, 32, 33, 34, 35, 36, 37, 38, 39, 40, 41, 42, 43, 44, 45, 46, 47, 48, 49, 50, 51, 52, 53, 54, 55, 56, 57, 58, 59, 60, 61, 62, 63, 64, 65, 66, 67, 68, 69, 70, 71, 72, 73, 74, 75, 76, 77, 78, 79, 80, 81, 82, 83, 84, 85, 86, 87, 88, 89, 90, 91, 105, 106, 107, 108, 109, 110, 111, 112, 113, 114, 115, 116, 117, 118, 119, 120, 121, 122, 123, 124, 92, 93, 94, 95, 96, 97, 98, 99, 100, 101, 102, 103, 104, 125, 126, 127, 128, 129, 130, 131, 132, 133, 134, 135, 136, 137, 138, 139, 140, 141, 142, 143, 144, 145, 146, 147, 148, 149, 150, 151, 152, 153, 154, 155, 156, 157, 158, 159, 160, 161, 162, 163, 164, 165, 166, 167, 168] (by decide +kernel) (by decide +kernel)) (goodIn_sub (fun _ h => List.mem_cons_of_mem _ (List.mem_append_right _ h)) (by decide +kernel))
set_option maxRecDepth 20000 in
theorem gX9_shutGreedyDevices_X9_disable : GoodIn wsX9_shutGreedyDevices (wsV RX9 211 RX9 yX9_disable wsX9_disable) := goodIn_app (goodIn_of _ (by decide +kernel)) ggX9_shutGreedyDevices_X9_disable
theorem dX9_shutGreedyDevices_0 : decode cX9_shutGreedyDevices 0 = .ok (.iconst 1, 1) := by decide +kernel
theorem dX9_shutGreedyDevices_1 : decode cX9_shutGreedyDevices 1 = .ok (.istore_n 1, 1) := by decide +kernel
theorem dX9_shutGreedyDevices_2 : decode cX9_shutGreedyDevices 2 = .ok (.iload_n 1, 1) := by decide +kernel
theorem dX9_shutGreedyDevices_3 : decode cX9_shutGreedyDevices 3 = .ok (.bipush 16, 2) := by decide +kernel
theorem dX9_shutGreedyDevices_5 : decode cX9_shutGreedyDevices 5 = .ok (.if_icmp .ge 43, 3) := by decide +kernel
theorem dX9_shutGreedyDevices_8 : decode cX9_shutGreedyDevices 8 = .ok (.aload_n 0, 1) := by decide +kernel
theorem dX9_shutGreedyDevices_9 : decode cX9_shutGreedyDevices 9 = .ok (.getfield 11, 3) := by decide +kernel
theorem dX9_shutGreedyDevices_12 : decode cX9_shutGreedyDevices 12 = .ok (.iload_n 1, 1) := by decide +kernel
theorem dX9_shutGreedyDevices_13 : decode cX9_shutGreedyDevices 13 = .ok (.aaload, 1) := by decide +kernel
theorem dX9_shutGreedyDevices_14 : decode cX9_shutGreedyDevices 14 = .ok (.astore_n 2, 1) := by decide +kernel
theorem dX9_shutGreedyDevices_15 : decode cX9_shutGreedyDevices 15 = .ok (.aload_n 2, 1) := by decide +kernel
theorem dX9_shutGreedyDevices_16 : decode cX9_shutGreedyDevices 16 = .ok (.getfield 74, 3) := by decide +kernel
theorem dX9_shutGreedyDevices_19 : decode cX9_shutGreedyDevices 19 = .ok (.bipush 99, 2) := by decide +kernel
theorem dX9_shutGreedyDevices_21 : decode cX9_shutGreedyDevices 21 = .ok (.if_icmp .ne 21, 3) := by decide +kernel
theorem dX9_shutGreedyDevices_24 : decode cX9_shutGreedyDevices 24 = .ok (.aload_n 2, 1) := by decide +kernel
theorem dX9_shutGreedyDevices_25 : decode cX9_shutGreedyDevices 25 = .ok (.invokestatic 238, 3) := by decide +kernel
theorem dX9_shutGreedyDevices_28 : decode cX9_shutGreedyDevices 28 = .ok (.aload_n 2, 1) := by decide +kernel
theorem dX9_shutGreedyDevices_29 : decode cX9_shutGreedyDevices 29 = .ok (.invokestatic 218, 3) := by decide +kernel
theorem dX9_shutGreedyDevices_32 : decode cX9_shutGreedyDevices 32 = .ok (.if_icmp .le 10, 3) := by decide +kernel
theorem dX9_shutGreedyDevices_35 : decode cX9_shutGreedyDevices 35 = .ok (.aload_n 0, 1) := by decide +kernel
theorem dX9_shutGreedyDevices_36 : decode cX9_shutGreedyDevices 36 = .ok (.aload_n 2, 1) := by decide +kernel
theorem dX9_shutGreedyDevices_37 : decode cX9_shutGreedyDevices 37 = .ok (.bipush 115, 2) := by decide +kernel
theorem dX9_shutGreedyDevices_39 : decode cX9_shutGreedyDevices 39 = .ok (.invokevirtual 211, 3) := by decide +kernel
theorem dX9_shutGreedyDevices_42 : decode cX9_shutGreedyDevices 42 = .ok (.iinc 1 1, 3) := by decide +kernel
theorem dX9_shutGreedyDevices_45 : decode cX9_shutGreedyDevices 45 = .ok (.goto (-43), 3) := by decide +kernel
theorem dX9_shutGreedyDevices_48 : decode cX9_shutGreedyDevices 48 = .ok (.return_, 1) := by decide +kernel
theorem dX9_checkBit_0 : decode cX9_checkBit 0 = .ok (.iload_n 0, 1) := by decide +kernel
theorem dX9_checkBit_1 : decode cX9_checkBit 1 = .ok (.iload_n 2, 1) := by decide +kernel
theorem dX9_checkBit_2 : decode cX9_checkBit 2 = .ok (.ishr, 1) := by decide +kernel
theorem dX9_checkBit_3 : decode cX9_checkBit 3 = .ok (.iconst 1, 1) := by decide +kernel
theorem dX9_checkBit_4 : decode cX9_checkBit 4 = .ok (.iand, 1) := by decide +kernel
theorem dX9_checkBit_5 : decode cX9_checkBit 5 = .ok (.istore 4, 2) := by decide +kernel
theorem dX9_checkBit_7 : decode cX9_checkBit 7 = .ok (.iload_n 0, 1) := by decide +kernel
theorem dX9_checkBit_8 : decode cX9_checkBit 8 = .ok (.iconst 1, 1) := by decide +kernel
theorem dX9_checkBit_9 : decode cX9_checkBit 9 = .ok (.ishl, 1) := by decide +kernel
theorem dX9_checkBit_10 : decode cX9_checkBit 10 = .ok (.iconst 2, 1) := by decide +kernel
theorem dX9_checkBit_11 : decode cX9_checkBit 11 = .ok (.iload_n 2, 1) := by decide +kernel
theorem dX9_checkBit_12 : decode cX9_checkBit 12 = .ok (.ishl, 1) := by decide +kernel
theorem dX9_checkBit_13 : decode cX9_checkBit 13 = .ok (.iconst 1, 1) := by decide +kernel
theorem dX9_checkBit_14 : decode cX9_checkBit 14 = .ok (.isub, 1) := by decide +kernel
theorem dX9_checkBit_15 : decode cX9_checkBit 15 = .ok (.iand, 1) := by decide +kernel
theorem dX9_checkBit_16 : decode cX9_checkBit 16 = .ok (.istore 5, 2) := by decide +kernel
theorem dX9_checkBit_18 : decode cX9_checkBit 18 = .ok (.iload 4, 2) := by decide +kernel
theorem dX9_checkBit_20 : decode cX9_checkBit 20 = .ok (.iload_n 1, 1) := by decide +kernel
theorem dX9_checkBit_21 : decode cX9_checkBit 21 = .ok (.if_icmp .ne 8, 3) := by decide +kernel
theorem dX9_checkBit_24 : decode cX9_checkBit 24 = .ok (.iload 5, 2) := by decide +kernel
theorem dX9_checkBit_26 : decode cX9_checkBit 26 = .ok (.goto 7, 3) := by decide +kernel
theorem dX9_checkBit_29 : decode cX9_checkBit 29 = .ok (.iload 5, 2) := by decide +kernel
theorem dX9_checkBit_31 : decode cX9_checkBit 31 = .ok (.iload_n 3, 1) := by decide +kernel
theorem dX9_checkBit_32 : decode cX9_checkBit 32 = .ok (.ixor, 1) := by decide +kernel
theorem dX9_checkBit_33 : decode cX9_checkBit 33 = .ok (.ireturn, 1) := by decide +kernel
theorem dX9_hostCost_0 : decode cX9_hostCost 0 = .ok (.iconst 2, 1) := by decide +kernel
theorem dX9_hostCost_1 : decode cX9_hostCost 1 = .ok (.iload_n 0, 1) := by decide +kernel
theorem dX9_hostCost_2 : decode cX9_hostCost 2 = .ok (.iadd, 1) := by decide +kernel
theorem dX9_hostCost_3 : decode cX9_hostCost 3 = .ok (.ireturn, 1) := by decide +kernel
theorem dX9_hubCost_0 : decode cX9_hubCost 0 = .ok (.iload_n 0, 1) := by decide +kernel
theorem dX9_hubCost_1 : decode cX9_hubCost 1 = .ok (.bipush 104, 2) := by decide +kernel
theorem dX9_hubCost_3 : decode cX9_hubCost 3 = .ok (.if_icmp .ne 5, 3) := by decide +kernel
theorem dX9_hubCost_6 : decode cX9_hubCost 6 = .ok (.iconst 0, 1) := by decide +kernel
theorem dX9_hubCost_7 : decode cX9_hubCost 7 = .ok (.ireturn, 1) := by decide +kernel
theorem dX9_hubCost_8 : decode cX9_hubCost 8 = .ok (.iload_n 0, 1) := by decide +kernel
theorem dX9_hubCost_9 : decode cX9_hubCost 9 = .ok (.bipush 102, 2) := by decide +kernel
theorem dX9_hubCost_11 : decode cX9_hubCost 11 = .ok (.if_icmp .ne 11, 3) := by decide +kernel
theorem dX9_hubCost_14 : decode cX9_hubCost 14 = .ok (.iconst 4, 1) := by decide +kernel
theorem dX9_hubCost_15 : decode cX9_hubCost 15 = .ok (.iconst 2, 1) := by decide +kernel
theorem dX9_hubCost_16 : decode cX9_hubCost 16 = .ok (.iload_n 1, 1) := by decide +kernel
theorem dX9_hubCost_17 : decode cX9_hubCost 17 = .ok (.imul, 1) := by decide +kernel
theorem dX9_hubCost_18 : decode cX9_hubCost 18 = .ok (.iadd, 1) := by decide +kernel
theorem dX9_hubCost_19 : decode cX9_hubCost 19 = .ok (.goto 10, 3) := by decide +kernel
theorem dX9_hubCost_22 : decode cX9_hubCost 22 = .ok (.bipush 8, 2) := by decide +kernel
theorem dX9_hubCost_24 : decode cX9_hubCost 24 = .ok (.bipush 8, 2) := by decide +kernel
