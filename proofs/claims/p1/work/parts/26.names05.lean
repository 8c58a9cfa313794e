theorem dX14_plug_20 : decode cX14_plug 20 = .ok (.getfield 10, 3) := by decide +kernel
theorem dX14_plug_23 : decode cX14_plug 23 = .ok (.iload_n 2, 1) := by decide +kernel
theorem dX14_plug_24 : decode cX14_plug 24 = .ok (.invokevirtual 76, 3) := by decide +kernel
theorem dX14_plug_27 : decode cX14_plug 27 = .ok (.checkcast 48, 3) := by decide +kernel
theorem dX14_plug_30 : decode cX14_plug 30 = .ok (.getfield 105, 3) := by decide +kernel
theorem dX14_plug_33 : decode cX14_plug 33 = .ok (.iconst 1, 1) := by decide +kernel
theorem dX14_plug_34 : decode cX14_plug 34 = .ok (.isub, 1) := by decide +kernel
theorem dX14_plug_35 : decode cX14_plug 35 = .ok (.invokestatic 68, 3) := by decide +kernel
theorem dX14_plug_38 : decode cX14_plug 38 = .ok (.ifCond .ne 7, 3) := by decide +kernel
theorem dX14_plug_41 : decode cX14_plug 41 = .ok (.iconst 1, 1) := by decide +kernel
theorem dX14_plug_42 : decode cX14_plug 42 = .ok (.goto 4, 3) := by decide +kernel
theorem dX14_plug_45 : decode cX14_plug 45 = .ok (.iconst 0, 1) := by decide +kernel
theorem dX14_plug_46 : decode cX14_plug 46 = .ok (.putfield 61, 3) := by decide +kernel
theorem dX14_plug_49 : decode cX14_plug 49 = .ok (.aload_n 0, 1) := by decide +kernel
theorem dX14_plug_50 : decode cX14_plug 50 = .ok (.getfield 61, 3) := by decide +kernel
theorem dX14_plug_53 : decode cX14_plug 53 = .ok (.ifCond .le 5, 3) := by decide +kernel
theorem dX14_plug_56 : decode cX14_plug 56 = .ok (.iconst 0, 1) := by decide +kernel
theorem dX14_plug_57 : decode cX14_plug 57 = .ok (.ireturn, 1) := by decide +kernel
theorem dX14_plug_58 : decode cX14_plug 58 = .ok (.iconst 0, 1) := by decide +kernel
theorem dX14_plug_59 : decode cX14_plug 59 = .ok (.istore 4, 2) := by decide +kernel
theorem dX14_plug_61 : decode cX14_plug 61 = .ok (.aload_n 0, 1) := by decide +kernel
theorem dX14_plug_62 : decode cX14_plug 62 = .ok (.getfield 10, 3) := by decide +kernel
theorem dX14_plug_65 : decode cX14_plug 65 = .ok (.invokevirtual 108, 3) := by decide +kernel
theorem dX14_plug_68 : decode cX14_plug 68 = .ok (.astore 5, 2) := by decide +kernel
theorem dX14_plug_70 : decode cX14_plug 70 = .ok (.aload 5, 2) := by decide +kernel
theorem dX14_plug_72 : decode cX14_plug 72 = .ok (.invokeinterface 112 1, 5) := by decide +kernel
theorem dX14_plug_77 : decode cX14_plug 77 = .ok (.ifCond .eq 48, 3) := by decide +kernel
theorem dX14_plug_80 : decode cX14_plug 80 = .ok (.aload 5, 2) := by decide +kernel
theorem dX14_plug_82 : decode cX14_plug 82 = .ok (.invokeinterface 118 1, 5) := by decide +kernel
theorem dX14_plug_87 : decode cX14_plug 87 = .ok (.checkcast 48, 3) := by decide +kernel
theorem dX14_plug_90 : decode cX14_plug 90 = .ok (.astore 6, 2) := by decide +kernel
theorem dX14_plug_92 : decode cX14_plug 92 = .ok (.iload 4, 2) := by decide +kernel
theorem dX14_plug_94 : decode cX14_plug 94 = .ok (.ifCond .ne 21, 3) := by decide +kernel
theorem dX14_plug_97 : decode cX14_plug 97 = .ok (.aload 6, 2) := by decide +kernel
theorem dX14_plug_99 : decode cX14_plug 99 = .ok (.getfield 80, 3) := by decide +kernel
theorem dX14_plug_102 : decode cX14_plug 102 = .ok (.iload_n 2, 1) := by decide +kernel
theorem dX14_plug_103 : decode cX14_plug 103 = .ok (.if_icmp .ne 16, 3) := by decide +kernel
theorem dX14_plug_119 : decode cX14_plug 119 = .ok (.iconst 0, 1) := by decide +kernel
theorem dX14_plug_120 : decode cX14_plug 120 = .ok (.istore 4, 2) := by decide +kernel
theorem dX14_plug_122 : decode cX14_plug 122 = .ok (.goto (-52), 3) := by decide +kernel
theorem dX14_plug_125 : decode cX14_plug 125 = .ok (.aload_n 0, 1) := by decide +kernel
theorem dX14_plug_126 : decode cX14_plug 126 = .ok (.getfield 10, 3) := by decide +kernel
theorem dX14_plug_129 : decode cX14_plug 129 = .ok (.iload_n 2, 1) := by decide +kernel
theorem dX14_plug_130 : decode cX14_plug 130 = .ok (.invokevirtual 76, 3) := by decide +kernel
theorem dX14_plug_133 : decode cX14_plug 133 = .ok (.checkcast 48, 3) := by decide +kernel
theorem dX14_plug_136 : decode cX14_plug 136 = .ok (.getfield 53, 3) := by decide +kernel
theorem dX14_plug_139 : decode cX14_plug 139 = .ok (.istore 5, 2) := by decide +kernel
theorem dX14_plug_141 : decode cX14_plug 141 = .ok (.iload 5, 2) := by decide +kernel
theorem dX14_plug_143 : decode cX14_plug 143 = .ok (.bipush 117, 2) := by decide +kernel
theorem dX14_plug_145 : decode cX14_plug 145 = .ok (.if_icmp .eq 17, 3) := by decide +kernel
theorem dX14_plug_148 : decode cX14_plug 148 = .ok (.iload 5, 2) := by decide +kernel
theorem dX14_plug_150 : decode cX14_plug 150 = .ok (.bipush 115, 2) := by decide +kernel
theorem dX14_plug_152 : decode cX14_plug 152 = .ok (.if_icmp .eq 10, 3) := by decide +kernel
theorem dX14_plug_155 : decode cX14_plug 155 = .ok (.iload 5, 2) := by decide +kernel
theorem dX14_plug_157 : decode cX14_plug 157 = .ok (.bipush 120, 2) := by decide +kernel
theorem dX14_plug_159 : decode cX14_plug 159 = .ok (.if_icmp .ne 7, 3) := by decide +kernel
theorem dX14_plug_166 : decode cX14_plug 166 = .ok (.iconst 0, 1) := by decide +kernel
theorem dX14_plug_167 : decode cX14_plug 167 = .ok (.istore 6, 2) := by decide +kernel
theorem dX14_plug_169 : decode cX14_plug 169 = .ok (.aload_n 0, 1) := by decide +kernel
theorem dX14_plug_170 : decode cX14_plug 170 = .ok (.aload_n 0, 1) := by decide +kernel
theorem dX14_plug_171 : decode cX14_plug 171 = .ok (.iload_n 1, 1) := by decide +kernel
theorem dX14_plug_172 : decode cX14_plug 172 = .ok (.invokevirtual 93, 3) := by decide +kernel
theorem dX14_plug_175 : decode cX14_plug 175 = .ok (.ifCond .ne 22, 3) := by decide +kernel
theorem dX14_plug_197 : decode cX14_plug 197 = .ok (.iconst 2, 1) := by decide +kernel
theorem dX14_plug_198 : decode cX14_plug 198 = .ok (.goto 4, 3) := by decide +kernel
theorem dX14_plug_202 : decode cX14_plug 202 = .ok (.putfield 61, 3) := by decide +kernel
theorem dX14_plug_205 : decode cX14_plug 205 = .ok (.aload_n 0, 1) := by decide +kernel
theorem dX14_plug_206 : decode cX14_plug 206 = .ok (.getfield 61, 3) := by decide +kernel
theorem dX14_plug_209 : decode cX14_plug 209 = .ok (.ifCond .le 5, 3) := by decide +kernel
theorem dX14_plug_212 : decode cX14_plug 212 = .ok (.iconst 0, 1) := by decide +kernel
theorem dX14_plug_213 : decode cX14_plug 213 = .ok (.ireturn, 1) := by decide +kernel
set_option maxRecDepth 20000 in
theorem ggX14_isOther_X14_isDevice : GoodIn wsX14_isOther wsX14_isDevice := goodIn_r _ [5, 6, 7, 8, 9, 10, 11, 12, 13, 14, 4, 15, 16, 17, 18, 19, 20, 21, 22, 23, 24, 25, 26, 27, 28, 29, 30, 31, 32, 33, 34, 35, 36, 37] (by decide +kernel) (by decide +kernel)
set_option maxRecDepth 20000 in
theorem gX14_isOther_X14_isDevice : GoodIn wsX14_isOther (wsV RX14 72 RX14 yX14_isDevice wsX14_isDevice) := goodIn_app (goodIn_of _ (by decide +kernel)) ggX14_isOther_X14_isDevice
theorem dX14_isOther_0 : decode cX14_isOther 0 = .ok (.iload_n 1, 1) := by decide +kernel
theorem dX14_isOther_1 : decode cX14_isOther 1 = .ok (.ifCond .eq 15, 3) := by decide +kernel
theorem dX14_isOther_4 : decode cX14_isOther 4 = .ok (.aload_n 0, 1) := by decide +kernel
theorem dX14_isOther_5 : decode cX14_isOther 5 = .ok (.iload_n 1, 1) := by decide +kernel
theorem dX14_isOther_6 : decode cX14_isOther 6 = .ok (.invokevirtual 72, 3) := by decide +kernel
theorem dX14_isOther_9 : decode cX14_isOther 9 = .ok (.ifCond .eq 7, 3) := by decide +kernel
theorem dX14_isOther_16 : decode cX14_isOther 16 = .ok (.iconst 0, 1) := by decide +kernel
theorem dX14_isOther_17 : decode cX14_isOther 17 = .ok (.ireturn, 1) := by decide +kernel
set_option maxRecDepth 20000 in
theorem ggX14_unplug_X14_isOther : GoodIn wsX14_unplug wsX14_isOther := goodIn_r _ [6, 7, 8, 9, 5, 10, 11, 12, 13, 14, 15, 16, 17, 18, 19, 20, 129, 130, 131, 132, 133, 134, 135, 136, 137, 138, 139, 140, 141, 142, 143, 144, 145, 146, 147, 148, 149, 150] (by decide +kernel) (by decide +kernel)
set_option maxRecDepth 20000 in
theorem gX14_unplug_X14_isOther : GoodIn wsX14_unplug (wsV RX14 149 RX14 yX14_isOther wsX14_isOther) := goodIn_app (goodIn_of _ (by decide +kernel)) ggX14_unplug_X14_isOther
theorem dX14_unplug_0 : decode cX14_unplug 0 = .ok (.aload_n 0, 1) := by decide +kernel
theorem dX14_unplug_1 : decode cX14_unplug 1 = .ok (.aload_n 0, 1) := by decide +kernel
theorem dX14_unplug_2 : decode cX14_unplug 2 = .ok (.iload_n 1, 1) := by decide +kernel
theorem dX14_unplug_3 : decode cX14_unplug 3 = .ok (.invokevirtual 149, 3) := by decide +kernel
theorem dX14_unplug_6 : decode cX14_unplug 6 = .ok (.ifCond .ne 7, 3) := by decide +kernel
theorem dX14_unplug_9 : decode cX14_unplug 9 = .ok (.iconst 1, 1) := by decide +kernel
theorem dX14_unplug_10 : decode cX14_unplug 10 = .ok (.goto 16, 3) := by decide +kernel
theorem dX14_unplug_26 : decode cX14_unplug 26 = .ok (.putfield 61, 3) := by decide +kernel
theorem dX14_unplug_29 : decode cX14_unplug 29 = .ok (.aload_n 0, 1) := by decide +kernel
theorem dX14_unplug_30 : decode cX14_unplug 30 = .ok (.getfield 61, 3) := by decide +kernel
theorem dX14_unplug_33 : decode cX14_unplug 33 = .ok (.ifCond .le 7, 3) := by decide +kernel
theorem dX14_unplug_36 : decode cX14_unplug 36 = .ok (.iconst 0, 1) := by decide +kernel
theorem dX14_unplug_37 : decode cX14_unplug 37 = .ok (.goto 9, 3) := by decide +kernel
theorem dX14_unplug_46 : decode cX14_unplug 46 = .ok (.ireturn, 1) := by decide +kernel
set_option maxRecDepth 20000 in
theorem ggX14_stateOf_X14_noDevice : GoodIn wsX14_stateOf wsX14_noDevice := goodIn_r _ [7, 8, 9, 10, 11, 6, 12, 1, 13, 14, 15, 16, 17, 18, 19, 20, 21, 39, 40, 41, 42, 43, 44, 45, 46, 47, 48, 49, 50, 51, 52, 53, 54, 55, 56, 57, 74, 75, 76] (by decide +kernel) (by decide +kernel)
set_option maxRecDepth 20000 in
theorem gX14_stateOf_X14_noDevice : GoodIn wsX14_stateOf (wsV RX14 90 RX14 yX14_noDevice wsX14_noDevice) := goodIn_app (goodIn_of _ (by decide +kernel)) ggX14_stateOf_X14_noDevice
set_option maxRecDepth 20000 in
theorem ggX14_stateOf_Jx4a65c_get_915e3 : GoodIn wsX14_stateOf wsJx4a65c_get_915e3 := goodIn_r _ [25, 18, 26, 27, 28, 29, 30, 31, 32, 33, 34, 35, 36, 16, 37, 38, 74, 75, 76] (by decide +kernel) (by decide +kernel)
set_option maxRecDepth 20000 in
theorem gX14_stateOf_Jx4a65c_get_915e3 : GoodIn wsX14_stateOf (wsV RX14 76 RJx4a65c yJx4a65c_get_915e3 wsJx4a65c_get_915e3) := goodIn_app (goodIn_of _ (by decide +kernel)) ggX14_stateOf_Jx4a65c_get_915e3
theorem dX14_stateOf_0 : decode cX14_stateOf 0 = .ok (.aload_n 0, 1) := by decide +kernel
theorem dX14_stateOf_1 : decode cX14_stateOf 1 = .ok (.iload_n 1, 1) := by decide +kernel
theorem dX14_stateOf_2 : decode cX14_stateOf 2 = .ok (.invokevirtual 90, 3) := by decide +kernel
theorem dX14_stateOf_5 : decode cX14_stateOf 5 = .ok (.ifCond .eq 8, 3) := by decide +kernel
theorem dX14_stateOf_8 : decode cX14_stateOf 8 = .ok (.bipush 32, 2) := by decide +kernel
theorem dX14_stateOf_10 : decode cX14_stateOf 10 = .ok (.goto 17, 3) := by decide +kernel
theorem dX14_stateOf_13 : decode cX14_stateOf 13 = .ok (.aload_n 0, 1) := by decide +kernel
theorem dX14_stateOf_14 : decode cX14_stateOf 14 = .ok (.getfield 10, 3) := by decide +kernel
theorem dX14_stateOf_17 : decode cX14_stateOf 17 = .ok (.iload_n 1, 1) := by decide +kernel
theorem dX14_stateOf_18 : decode cX14_stateOf 18 = .ok (.invokevirtual 76, 3) := by decide +kernel
theorem dX14_stateOf_21 : decode cX14_stateOf 21 = .ok (.checkcast 48, 3) := by decide +kernel
theorem dX14_stateOf_24 : decode cX14_stateOf 24 = .ok (.getfield 53, 3) := by decide +kernel
theorem dX14_stateOf_27 : decode cX14_stateOf 27 = .ok (.ireturn, 1) := by decide +kernel
set_option maxRecDepth 20000 in
theorem ggX14_hubOf_X14_noDevice : GoodIn wsX14_hubOf wsX14_noDevice := goodIn_r _ [7, 8, 9, 10, 11, 6, 12, 1, 13, 14, 15, 16, 17, 18, 19, 20, 21, 39, 40, 41, 42, 43, 44, 45, 46, 47, 48, 49, 50, 51, 52, 53, 54, 55, 56, 57, 74, 75, 76] (by decide +kernel) (by decide +kernel)
set_option maxRecDepth 20000 in
theorem gX14_hubOf_X14_noDevice : GoodIn wsX14_hubOf (wsV RX14 90 RX14 yX14_noDevice wsX14_noDevice) := goodIn_app (goodIn_of _ (by decide +kernel)) ggX14_hubOf_X14_noDevice
set_option maxRecDepth 20000 in
theorem ggX14_hubOf_Jx4a65c_get_915e3 : GoodIn wsX14_hubOf wsJx4a65c_get_915e3 := goodIn_r _ [25, 18, 26, 27, 28, 29, 30, 31, 32, 33, 34, 35, 36, 16, 37, 38, 74, 75, 76] (by decide +kernel) (by decide +kernel)
set_option maxRecDepth 20000 in
theorem gX14_hubOf_Jx4a65c_get_915e3 : GoodIn wsX14_hubOf (wsV RX14 76 RJx4a65c yJx4a65c_get_915e3 wsJx4a65c_get_915e3) := goodIn_app (goodIn_of _ (by decide +kernel)) ggX14_hubOf_Jx4a65c_get_915e3
theorem dX14_hubOf_0 : decode cX14_hubOf 0 = .ok (.aload_n 0, 1) := by decide +kernel
theorem dX14_hubOf_1 : decode cX14_hubOf 1 = .ok (.iload_n 1, 1) := by decide +kernel
theorem dX14_hubOf_2 : decode cX14_hubOf 2 = .ok (.invokevirtual 90, 3) := by decide +kernel
theorem dX14_hubOf_5 : decode cX14_hubOf 5 = .ok (.ifCond .eq 7, 3) := by decide +kernel
theorem dX14_hubOf_8 : decode cX14_hubOf 8 = .ok (.iconst 0, 1) := by decide +kernel
theorem dX14_hubOf_9 : decode cX14_hubOf 9 = .ok (.goto 17, 3) := by decide +kernel
theorem dX14_hubOf_12 : decode cX14_hubOf 12 = .ok (.aload_n 0, 1) := by decide +kernel
theorem dX14_hubOf_13 : decode cX14_hubOf 13 = .ok (.getfield 10, 3) := by decide +kernel
theorem dX14_hubOf_16 : decode cX14_hubOf 16 = .ok (.iload_n 1, 1) := by decide +kernel
theorem dX14_hubOf_17 : decode cX14_hubOf 17 = .ok (.invokevirtual 76, 3) := by decide +kernel
theorem dX14_hubOf_20 : decode cX14_hubOf 20 = .ok (.checkcast 48, 3) := by decide +kernel
theorem dX14_hubOf_23 : decode cX14_hubOf 23 = .ok (.getfield 80, 3) := by decide +kernel
theorem dX14_hubOf_26 : decode cX14_hubOf 26 = .ok (.ireturn, 1) := by decide +kernel
set_option maxRecDepth 20000 in
theorem ggX14_depthOf_X14_noDevice : GoodIn wsX14_depthOf wsX14_noDevice := goodIn_r _ [5, 6, 7, 8, 9, 4, 10, 11, 12, 13, 14, 15, 16, 17, 18, 19, 20, 47, 48, 49, 50, 51, 52, 53, 54, 55, 56, 57, 58, 59, 60, 61, 62, 63, 64, 65, 66, 67, 68] (by decide +kernel) (by decide +kernel)
set_option maxRecDepth 20000 in
theorem gX14_depthOf_X14_noDevice : GoodIn wsX14_depthOf (wsV RX14 90 RX14 yX14_noDevice wsX14_noDevice) := goodIn_app (goodIn_of _ (by decide +kernel)) ggX14_depthOf_X14_noDevice
set_option maxRecDepth 20000 in
theorem ggX14_depthOf_X14_isPlugged : GoodIn wsX14_depthOf wsX14_isPlugged := goodIn_r _ [24, 11, 25, 26, 27, 28, 15, 29, 17, 30, 31, 32, 33, 34, 35, 36, 37, 38, 39, 40, 41, 42, 47, 48, 49, 50, 51, 52, 53, 54, 55, 56, 57, 58, 59, 60, 61, 62, 63, 64, 65, 69, 70, 71, 72, 73, 74, 75, 76, 77, 78, 79, 80, 81, 82, 83, 84, 66, 67, 68] (by decide +kernel) (by decide +kernel)
set_option maxRecDepth 20000 in
theorem gX14_depthOf_X14_isPlugged : GoodIn wsX14_depthOf (wsV RX14 93 RX14 yX14_isPlugged wsX14_isPlugged) := goodIn_app (goodIn_of _ (by decide +kernel)) ggX14_depthOf_X14_isPlugged
set_option maxRecDepth 20000 in
theorem ggX14_depthOf_X14_depth : GoodIn wsX14_depthOf wsX14_depth := goodIn_r _ [46, 11, 25, 26, 27, 28, 15, 29, 17, 30, 31, 32, 33, 34, 35, 36, 37, 38, 39, 40, 41, 42, 47, 48, 49, 50, 51, 52, 53, 54, 55, 56, 57, 58, 59, 60, 61, 62, 63, 64, 65, 69, 70, 71, 72, 73, 74, 75, 76, 77, 78, 79, 80, 81, 82, 83, 84, 66, 67, 68] (by decide +kernel) (by decide +kernel)
set_option maxRecDepth 20000 in
theorem gX14_depthOf_X14_depth : GoodIn wsX14_depthOf (wsV RX14 125 RX14 yX14_depth wsX14_depth) := goodIn_app (goodIn_of _ (by decide +kernel)) ggX14_depthOf_X14_depth
theorem dX14_depthOf_0 : decode cX14_depthOf 0 = .ok (.aload_n 0, 1) := by decide +kernel
theorem dX14_depthOf_1 : decode cX14_depthOf 1 = .ok (.iload_n 1, 1) := by decide +kernel
theorem dX14_depthOf_2 : decode cX14_depthOf 2 = .ok (.invokevirtual 90, 3) := by decide +kernel
theorem dX14_depthOf_5 : decode cX14_depthOf 5 = .ok (.ifCond .eq 7, 3) := by decide +kernel
theorem dX14_depthOf_8 : decode cX14_depthOf 8 = .ok (.iconst 0, 1) := by decide +kernel
theorem dX14_depthOf_9 : decode cX14_depthOf 9 = .ok (.goto 20, 3) := by decide +kernel
theorem dX14_depthOf_12 : decode cX14_depthOf 12 = .ok (.aload_n 0, 1) := by decide +kernel
theorem dX14_depthOf_13 : decode cX14_depthOf 13 = .ok (.iload_n 1, 1) := by decide +kernel
theorem dX14_depthOf_14 : decode cX14_depthOf 14 = .ok (.invokevirtual 93, 3) := by decide +kernel
theorem dX14_depthOf_17 : decode cX14_depthOf 17 = .ok (.ifCond .eq 11, 3) := by decide +kernel
theorem dX14_depthOf_20 : decode cX14_depthOf 20 = .ok (.aload_n 0, 1) := by decide +kernel
theorem dX14_depthOf_21 : decode cX14_depthOf 21 = .ok (.iload_n 1, 1) := by decide +kernel
theorem dX14_depthOf_22 : decode cX14_depthOf 22 = .ok (.invokevirtual 125, 3) := by decide +kernel
theorem dX14_depthOf_25 : decode cX14_depthOf 25 = .ok (.goto 4, 3) := by decide +kernel
theorem dX14_depthOf_29 : decode cX14_depthOf 29 = .ok (.ireturn, 1) := by decide +kernel
set_option maxRecDepth 20000 in
theorem ggX14_speedOf_X14_noDevice : GoodIn wsX14_speedOf wsX14_noDevice := goodIn_r _ [5, 6, 7, 8, 9, 4, 10, 11, 12, 13, 14, 15, 16, 17, 18, 19, 20, 43, 44, 45, 46, 47, 48, 49, 50, 51, 52, 53, 54, 55, 56, 57, 58, 59, 60, 61, 62, 63, 64] (by decide +kernel) (by decide +kernel)
set_option maxRecDepth 20000 in
theorem gX14_speedOf_X14_noDevice : GoodIn wsX14_speedOf (wsV RX14 90 RX14 yX14_noDevice wsX14_noDevice) := goodIn_app (goodIn_of _ (by decide +kernel)) ggX14_speedOf_X14_noDevice
set_option maxRecDepth 20000 in
theorem ggX14_speedOf_X14_runs : GoodIn wsX14_speedOf wsX14_runs := goodIn_r _ [24, 11, 25, 26, 27, 28, 15, 29, 17, 30, 31, 32, 33, 34, 35, 36, 37, 38, 39, 40, 41, 42, 43, 44, 45, 46, 47, 48, 49, 50, 51, 52, 53, 54, 55, 56, 57, 58, 59, 60, 61, 65, 66, 67, 68, 69, 70, 71, 72, 73, 74, 75, 76, 77, 78, 79, 80, 62, 63, 64] (by decide +kernel) (by decide +kernel)
set_option maxRecDepth 20000 in
theorem gX14_speedOf_X14_runs : GoodIn wsX14_speedOf (wsV RX14 86 RX14 yX14_runs wsX14_runs) := goodIn_app (goodIn_of _ (by decide +kernel)) ggX14_speedOf_X14_runs
theorem dX14_speedOf_0 : decode cX14_speedOf 0 = .ok (.aload_n 0, 1) := by decide +kernel
theorem dX14_speedOf_1 : decode cX14_speedOf 1 = .ok (.iload_n 1, 1) := by decide +kernel
theorem dX14_speedOf_2 : decode cX14_speedOf 2 = .ok (.invokevirtual 90, 3) := by decide +kernel
theorem dX14_speedOf_5 : decode cX14_speedOf 5 = .ok (.ifCond .eq 8, 3) := by decide +kernel
theorem dX14_speedOf_8 : decode cX14_speedOf 8 = .ok (.bipush 32, 2) := by decide +kernel
theorem dX14_speedOf_10 : decode cX14_speedOf 10 = .ok (.goto 8, 3) := by decide +kernel
theorem dX14_speedOf_13 : decode cX14_speedOf 13 = .ok (.aload_n 0, 1) := by decide +kernel
theorem dX14_speedOf_14 : decode cX14_speedOf 14 = .ok (.iload_n 1, 1) := by decide +kernel
theorem dX14_speedOf_15 : decode cX14_speedOf 15 = .ok (.invokevirtual 86, 3) := by decide +kernel
theorem dX14_speedOf_18 : decode cX14_speedOf 18 = .ok (.ireturn, 1) := by decide +kernel
set_option maxRecDepth 20000 in
theorem ggX14_translator_X14_noDevice : GoodIn wsX14_translator wsX14_noDevice := goodIn_r _ [6, 1, 7, 8, 9, 5, 10, 11, 12, 13, 14, 15, 16, 17, 18, 19, 20, 51, 52, 53, 54, 55, 56, 57, 58, 59, 60, 61, 62, 63, 64, 65, 66, 67, 68, 69, 70, 71, 72] (by decide +kernel) (by decide +kernel)
set_option maxRecDepth 20000 in
theorem gX14_translator_X14_noDevice : GoodIn wsX14_translator (wsV RX14 90 RX14 yX14_noDevice wsX14_noDevice) := goodIn_app (goodIn_of _ (by decide +kernel)) ggX14_translator_X14_noDevice
theorem dX14_translator_0 : decode cX14_translator 0 = .ok (.aload_n 0, 1) := by decide +kernel
theorem dX14_translator_1 : decode cX14_translator 1 = .ok (.iload_n 1, 1) := by decide +kernel
theorem dX14_translator_2 : decode cX14_translator 2 = .ok (.invokevirtual 90, 3) := by decide +kernel
theorem dX14_translator_5 : decode cX14_translator 5 = .ok (.ifCond .eq 5, 3) := by decide +kernel
theorem dX14_translator_8 : decode cX14_translator 8 = .ok (.iconst 0, 1) := by decide +kernel
theorem dX14_translator_9 : decode cX14_translator 9 = .ok (.ireturn, 1) := by decide +kernel
theorem dX14_translator_10 : decode cX14_translator 10 = .ok (.aload_n 0, 1) := by decide +kernel
theorem dX14_translator_11 : decode cX14_translator 11 = .ok (.iload_n 1, 1) := by decide +kernel
theorem dX14_translator_12 : decode cX14_translator 12 = .ok (.ifCond .eq 11, 3) := by decide +kernel
theorem dX14_translator_23 : decode cX14_translator 23 = .ok (.iconst 2, 1) := by decide +kernel
theorem dX14_translator_24 : decode cX14_translator 24 = .ok (.goto 4, 3) := by decide +kernel
theorem dX14_translator_28 : decode cX14_translator 28 = .ok (.putfield 61, 3) := by decide +kernel
theorem dX14_translator_31 : decode cX14_translator 31 = .ok (.aload_n 0, 1) := by decide +kernel
theorem dX14_translator_32 : decode cX14_translator 32 = .ok (.getfield 61, 3) := by decide +kernel
theorem dX14_translator_35 : decode cX14_translator 35 = .ok (.ifCond .le 7, 3) := by decide +kernel
theorem dX14_translator_38 : decode cX14_translator 38 = .ok (.iconst 0, 1) := by decide +kernel
theorem dX14_translator_39 : decode cX14_translator 39 = .ok (.goto 8, 3) := by decide +kernel
theorem dX14_translator_47 : decode cX14_translator 47 = .ok (.ireturn, 1) := by decide +kernel
set_option maxRecDepth 20000 in
theorem ggX14_addressOf_X14_noDevice : GoodIn wsX14_addressOf wsX14_noDevice := goodIn_r _ [7, 8, 9, 10, 11, 6, 12, 1, 13, 14, 15, 16, 17, 18, 19, 20, 21, 39, 40, 41, 42, 43, 44, 45, 46, 47, 48, 49, 50, 51, 52, 53, 54, 55, 56, 57, 74, 75, 76] (by decide +kernel) (by decide +kernel)
set_option maxRecDepth 20000 in
theorem gX14_addressOf_X14_noDevice : GoodIn wsX14_addressOf (wsV RX14 90 RX14 yX14_noDevice wsX14_noDevice) := goodIn_app (goodIn_of _ (by decide +kernel)) ggX14_addressOf_X14_noDevice
set_option maxRecDepth 20000 in
theorem ggX14_addressOf_Jx4a65c_get_915e3 : GoodIn wsX14_addressOf wsJx4a65c_get_915e3 := goodIn_r _ [25, 18, 26, 27, 28, 29, 30, 31, 32, 33, 34, 35, 36, 16, 37, 38, 74, 75, 76] (by decide +kernel) (by decide +kernel)
set_option maxRecDepth 20000 in
theorem gX14_addressOf_Jx4a65c_get_915e3 : GoodIn wsX14_addressOf (wsV RX14 76 RJx4a65c yJx4a65c_get_915e3 wsJx4a65c_get_915e3) := goodIn_app (goodIn_of _ (by decide +kernel)) ggX14_addressOf_Jx4a65c_get_915e3
theorem dX14_addressOf_0 : decode cX14_addressOf 0 = .ok (.aload_n 0, 1) := by decide +kernel
theorem dX14_addressOf_1 : decode cX14_addressOf 1 = .ok (.iload_n 1, 1) := by decide +kernel
theorem dX14_addressOf_2 : decode cX14_addressOf 2 = .ok (.invokevirtual 90, 3) := by decide +kernel
theorem dX14_addressOf_5 : decode cX14_addressOf 5 = .ok (.ifCond .eq 7, 3) := by decide +kernel
theorem dX14_addressOf_8 : decode cX14_addressOf 8 = .ok (.iconst 0, 1) := by decide +kernel
theorem dX14_addressOf_9 : decode cX14_addressOf 9 = .ok (.goto 17, 3) := by decide +kernel
theorem dX14_addressOf_12 : decode cX14_addressOf 12 = .ok (.aload_n 0, 1) := by decide +kernel
theorem dX14_addressOf_13 : decode cX14_addressOf 13 = .ok (.getfield 10, 3) := by decide +kernel
theorem dX14_addressOf_16 : decode cX14_addressOf 16 = .ok (.iload_n 1, 1) := by decide +kernel
theorem dX14_addressOf_17 : decode cX14_addressOf 17 = .ok (.invokevirtual 76, 3) := by decide +kernel
theorem dX14_addressOf_20 : decode cX14_addressOf 20 = .ok (.checkcast 48, 3) := by decide +kernel
theorem dX14_addressOf_23 : decode cX14_addressOf 23 = .ok (.getfield 140, 3) := by decide +kernel
theorem dX14_addressOf_26 : decode cX14_addressOf 26 = .ok (.ireturn, 1) := by decide +kernel
set_option maxRecDepth 20000 in
theorem ggX14_look_Jx4a65c_size_8abf5 : GoodIn wsX14_look wsJx4a65c_size_8abf5 := goodIn_r _ [8, 9, 211, 212, 213] (by decide +kernel) (by decide +kernel)
set_option maxRecDepth 20000 in
theorem gX14_look_Jx4a65c_size_8abf5 : GoodIn wsX14_look (wsV RX14 64 RJx4a65c yJx4a65c_size_8abf5 wsJx4a65c_size_8abf5) := goodIn_app (goodIn_of _ (by decide +kernel)) ggX14_look_Jx4a65c_size_8abf5
set_option maxRecDepth 20000 in
theorem ggX14_look_X14_raises : GoodIn wsX14_look wsX14_raises := goodIn_r _ [35, 3, 176, 177, 178, 179, 180, 181, 182, 183, 184, 185, 186, 187, 188, 189, 190, 191, 192, 193, 194] (by decide +kernel) (by decide +kernel)
set_option maxRecDepth 20000 in
theorem gX14_look_X14_raises : GoodIn wsX14_look (wsV RX14 173 RX14 yX14_raises wsX14_raises) := goodIn_app (goodIn_of _ (by decide +kernel)) ggX14_look_X14_raises
theorem dX14_look_0 : decode cX14_look 0 = .ok (.iconst (-1), 1) := by decide +kernel
theorem dX14_look_1 : decode cX14_look 1 = .ok (.istore_n 1, 1) := by decide +kernel
theorem dX14_look_2 : decode cX14_look 2 = .ok (.iconst 1, 1) := by decide +kernel
theorem dX14_look_3 : decode cX14_look 3 = .ok (.istore_n 2, 1) := by decide +kernel
theorem dX14_look_4 : decode cX14_look 4 = .ok (.iload_n 2, 1) := by decide +kernel
theorem dX14_look_5 : decode cX14_look 5 = .ok (.aload_n 0, 1) := by decide +kernel
theorem dX14_look_6 : decode cX14_look 6 = .ok (.getfield 10, 3) := by decide +kernel
theorem dX14_look_9 : decode cX14_look 9 = .ok (.invokevirtual 64, 3) := by decide +kernel
theorem dX14_look_12 : decode cX14_look 12 = .ok (.if_icmp .ge 88, 3) := by decide +kernel
theorem dX14_look_100 : decode cX14_look 100 = .ok (.iload_n 1, 1) := by decide +kernel
theorem dX14_look_101 : decode cX14_look 101 = .ok (.iconst (-1), 1) := by decide +kernel
theorem dX14_look_102 : decode cX14_look 102 = .ok (.if_icmp .ne 9, 3) := by decide +kernel
theorem dX14_look_105 : decode cX14_look 105 = .ok (.aload_n 0, 1) := by decide +kernel
theorem dX14_look_106 : decode cX14_look 106 = .ok (.iconst 1, 1) := by decide +kernel
theorem dX14_look_107 : decode cX14_look 107 = .ok (.invokevirtual 173, 3) := by decide +kernel
theorem dX14_look_110 : decode cX14_look 110 = .ok (.ireturn, 1) := by decide +kernel
set_option maxRecDepth 20000 in
theorem ggX14_driver_X14_in : GoodIn wsX14_driver wsX14_in := goodIn_r _ [7] (by decide +kernel) (by decide +kernel)
set_option maxRecDepth 20000 in
theorem gX14_driver_X14_in : GoodIn wsX14_driver (va_wsS RX14 68 yX14_in wsX14_in) := goodIn_app (goodIn_of _ (by decide +kernel)) ggX14_driver_X14_in
set_option maxRecDepth 20000 in
theorem ggX14_driver_Jx4a65c_size_8abf5 : GoodIn wsX14_driver wsJx4a65c_size_8abf5 := goodIn_r _ [12, 13, 87, 88, 89] (by decide +kernel) (by decide +kernel)
set_option maxRecDepth 20000 in
theorem gX14_driver_Jx4a65c_size_8abf5 : GoodIn wsX14_driver (wsV RX14 64 RJx4a65c yJx4a65c_size_8abf5 wsJx4a65c_size_8abf5) := goodIn_app (goodIn_of _ (by decide +kernel)) ggX14_driver_Jx4a65c_size_8abf5
set_option maxRecDepth 20000 in
theorem ggX14_driver_Jx4a65c_add_9ea2d : GoodIn wsX14_driver wsJx4a65c_add_9ea2d := goodIn_r _ [17, 18, 19, 20, 13, 21, 22, 23, 11, 24, 25, 26, 27, 28, 29, 30, 31, 32, 33, 34, 35, 36, 37, 38, 39, 40, 41, 42, 43, 44, 45, 46, 47, 48, 49, 50, 51, 52, 53, 54, 55, 56, 57, 58, 59, 60, 61, 62, 63, 64, 65, 66, 67, 87, 88, 89] (by decide +kernel) (by decide +kernel)
set_option maxRecDepth 20000 in
theorem gX14_driver_Jx4a65c_add_9ea2d : GoodIn wsX14_driver (wsV RX14 57 RJx4a65c yJx4a65c_add_9ea2d wsJx4a65c_add_9ea2d) := goodIn_app (goodIn_of _ (by decide +kernel)) ggX14_driver_Jx4a65c_add_9ea2d
theorem dX14_driver_0 : decode cX14_driver 0 = .ok (.aload_n 0, 1) := by decide +kernel
theorem dX14_driver_1 : decode cX14_driver 1 = .ok (.iload_n 1, 1) := by decide +kernel
theorem dX14_driver_2 : decode cX14_driver 2 = .ok (.iconst 0, 1) := by decide +kernel
theorem dX14_driver_3 : decode cX14_driver 3 = .ok (.bipush 9, 2) := by decide +kernel
theorem dX14_driver_5 : decode cX14_driver 5 = .ok (.invokestatic 68, 3) := by decide +kernel
theorem dX14_driver_8 : decode cX14_driver 8 = .ok (.ifCond .eq 13, 3) := by decide +kernel
theorem dX14_driver_11 : decode cX14_driver 11 = .ok (.iload_n 2, 1) := by decide +kernel
theorem dX14_driver_12 : decode cX14_driver 12 = .ok (.iconst (-1), 1) := by decide +kernel
theorem dX14_driver_13 : decode cX14_driver 13 = .ok (.bipush 9, 2) := by decide +kernel
theorem dX14_driver_15 : decode cX14_driver 15 = .ok (.invokestatic 68, 3) := by decide +kernel
theorem dX14_driver_18 : decode cX14_driver 18 = .ok (.ifCond .ne 7, 3) := by decide +kernel
theorem dX14_driver_21 : decode cX14_driver 21 = .ok (.iconst 1, 1) := by decide +kernel
theorem dX14_driver_22 : decode cX14_driver 22 = .ok (.goto 20, 3) := by decide +kernel
theorem dX14_driver_25 : decode cX14_driver 25 = .ok (.aload_n 0, 1) := by decide +kernel
theorem dX14_driver_26 : decode cX14_driver 26 = .ok (.getfield 22, 3) := by decide +kernel
theorem dX14_driver_29 : decode cX14_driver 29 = .ok (.invokevirtual 64, 3) := by decide +kernel
theorem dX14_driver_32 : decode cX14_driver 32 = .ok (.bipush 8, 2) := by decide +kernel
theorem dX14_driver_34 : decode cX14_driver 34 = .ok (.if_icmp .ne 7, 3) := by decide +kernel
theorem dX14_driver_41 : decode cX14_driver 41 = .ok (.iconst 0, 1) := by decide +kernel
theorem dX14_driver_42 : decode cX14_driver 42 = .ok (.putfield 61, 3) := by decide +kernel
theorem dX14_driver_45 : decode cX14_driver 45 = .ok (.aload_n 0, 1) := by decide +kernel
theorem dX14_driver_46 : decode cX14_driver 46 = .ok (.getfield 61, 3) := by decide +kernel
theorem dX14_driver_49 : decode cX14_driver 49 = .ok (.ifCond .le 5, 3) := by decide +kernel
theorem dX14_driver_52 : decode cX14_driver 52 = .ok (.iconst 0, 1) := by decide +kernel
theorem dX14_driver_53 : decode cX14_driver 53 = .ok (.ireturn, 1) := by decide +kernel
theorem dX14_driver_54 : decode cX14_driver 54 = .ok (.aload_n 0, 1) := by decide +kernel
theorem dX14_driver_55 : decode cX14_driver 55 = .ok (.getfield 22, 3) := by decide +kernel
theorem dX14_driver_58 : decode cX14_driver 58 = .ok (.iconst 2, 1) := by decide +kernel
theorem dX14_driver_59 : decode cX14_driver 59 = .ok (.newarray .int, 2) := by decide +kernel
theorem dX14_driver_61 : decode cX14_driver 61 = .ok (.dup, 1) := by decide +kernel
theorem dX14_driver_62 : decode cX14_driver 62 = .ok (.iconst 0, 1) := by decide +kernel
theorem dX14_driver_63 : decode cX14_driver 63 = .ok (.iload_n 1, 1) := by decide +kernel
theorem dX14_driver_64 : decode cX14_driver 64 = .ok (.iastore, 1) := by decide +kernel
theorem dX14_driver_65 : decode cX14_driver 65 = .ok (.dup, 1) := by decide +kernel
theorem dX14_driver_66 : decode cX14_driver 66 = .ok (.iconst 1, 1) := by decide +kernel
theorem dX14_driver_67 : decode cX14_driver 67 = .ok (.iload_n 2, 1) := by decide +kernel
theorem dX14_driver_68 : decode cX14_driver 68 = .ok (.iastore, 1) := by decide +kernel
theorem dX14_driver_69 : decode cX14_driver 69 = .ok (.invokevirtual 57, 3) := by decide +kernel
theorem dX14_driver_72 : decode cX14_driver 72 = .ok (.pop, 1) := by decide +kernel
theorem dX14_driver_73 : decode cX14_driver 73 = .ok (.aload_n 0, 1) := by decide +kernel
theorem dX14_driver_74 : decode cX14_driver 74 = .ok (.getfield 22, 3) := by decide +kernel
theorem dX14_driver_77 : decode cX14_driver 77 = .ok (.invokevirtual 64, 3) := by decide +kernel
theorem dX14_driver_80 : decode cX14_driver 80 = .ok (.iconst 1, 1) := by decide +kernel
theorem dX14_driver_81 : decode cX14_driver 81 = .ok (.isub, 1) := by decide +kernel
theorem dX14_driver_82 : decode cX14_driver 82 = .ok (.ireturn, 1) := by decide +kernel
set_option maxRecDepth 20000 in
theorem ggX14_driverOf_X14_noDevice : GoodIn wsX14_driverOf wsX14_noDevice := goodIn_r _ [7, 8, 9, 10, 11, 6, 12, 1, 13, 14, 15, 16, 17, 18, 19, 20, 21, 39, 40, 41, 42, 43, 44, 45, 46, 47, 48, 49, 50, 51, 52, 53, 54, 55, 56, 57, 74, 75, 76] (by decide +kernel) (by decide +kernel)
set_option maxRecDepth 20000 in
theorem gX14_driverOf_X14_noDevice : GoodIn wsX14_driverOf (wsV RX14 90 RX14 yX14_noDevice wsX14_noDevice) := goodIn_app (goodIn_of _ (by decide +kernel)) ggX14_driverOf_X14_noDevice
set_option maxRecDepth 20000 in
theorem ggX14_driverOf_Jx4a65c_get_915e3 : GoodIn wsX14_driverOf wsJx4a65c_get_915e3 := goodIn_r _ [25, 18, 26, 27, 28, 29, 30, 31, 32, 33, 34, 35, 36, 16, 37, 38, 74, 75, 76] (by decide +kernel) (by decide +kernel)
set_option maxRecDepth 20000 in
theorem gX14_driverOf_Jx4a65c_get_915e3 : GoodIn wsX14_driverOf (wsV RX14 76 RJx4a65c yJx4a65c_get_915e3 wsJx4a65c_get_915e3) := goodIn_app (goodIn_of _ (by decide +kernel)) ggX14_driverOf_Jx4a65c_get_915e3
theorem dX14_driverOf_0 : decode cX14_driverOf 0 = .ok (.aload_n 0, 1) := by decide +kernel
theorem dX14_driverOf_1 : decode cX14_driverOf 1 = .ok (.iload_n 1, 1) := by decide +kernel
theorem dX14_driverOf_2 : decode cX14_driverOf 2 = .ok (.invokevirtual 90, 3) := by decide +kernel
theorem dX14_driverOf_5 : decode cX14_driverOf 5 = .ok (.ifCond .eq 7, 3) := by decide +kernel
theorem dX14_driverOf_8 : decode cX14_driverOf 8 = .ok (.iconst 0, 1) := by decide +kernel
theorem dX14_driverOf_9 : decode cX14_driverOf 9 = .ok (.goto 17, 3) := by decide +kernel
theorem dX14_driverOf_12 : decode cX14_driverOf 12 = .ok (.aload_n 0, 1) := by decide +kernel
theorem dX14_driverOf_13 : decode cX14_driverOf 13 = .ok (.getfield 10, 3) := by decide +kernel
theorem dX14_driverOf_16 : decode cX14_driverOf 16 = .ok (.iload_n 1, 1) := by decide +kernel
theorem dX14_driverOf_17 : decode cX14_driverOf 17 = .ok (.invokevirtual 76, 3) := by decide +kernel
theorem dX14_driverOf_20 : decode cX14_driverOf 20 = .ok (.checkcast 48, 3) := by decide +kernel
theorem dX14_driverOf_23 : decode cX14_driverOf 23 = .ok (.getfield 143, 3) := by decide +kernel
theorem dX14_driverOf_26 : decode cX14_driverOf 26 = .ok (.ireturn, 1) := by decide +kernel
set_option maxRecDepth 20000 in
theorem ggX14_draw_X14_isOther : GoodIn wsX14_draw wsX14_isOther := goodIn_r _ [8, 9, 10, 11, 7, 12, 2, 13, 14, 15, 16, 17, 18, 19, 20, 21, 39, 40, 41, 42, 43, 44, 45, 46, 47, 48, 49, 50, 51, 52, 53, 54, 55, 56, 57, 74, 75, 76] (by decide +kernel) (by decide +kernel)
set_option maxRecDepth 20000 in
theorem gX14_draw_X14_isOther : GoodIn wsX14_draw (wsV RX14 149 RX14 yX14_isOther wsX14_isOther) := goodIn_app (goodIn_of _ (by decide +kernel)) ggX14_draw_X14_isOther
theorem dX14_draw_0 : decode cX14_draw 0 = .ok (.aload_n 0, 1) := by decide +kernel
theorem dX14_draw_1 : decode cX14_draw 1 = .ok (.aload_n 0, 1) := by decide +kernel
theorem dX14_draw_2 : decode cX14_draw 2 = .ok (.iload_n 1, 1) := by decide +kernel
theorem dX14_draw_3 : decode cX14_draw 3 = .ok (.invokevirtual 149, 3) := by decide +kernel
theorem dX14_draw_6 : decode cX14_draw 6 = .ok (.ifCond .ne 7, 3) := by decide +kernel
theorem dX14_draw_9 : decode cX14_draw 9 = .ok (.iconst 1, 1) := by decide +kernel
theorem dX14_draw_10 : decode cX14_draw 10 = .ok (.goto 18, 3) := by decide +kernel
theorem dX14_draw_28 : decode cX14_draw 28 = .ok (.putfield 61, 3) := by decide +kernel
theorem dX14_draw_31 : decode cX14_draw 31 = .ok (.aload_n 0, 1) := by decide +kernel
theorem dX14_draw_32 : decode cX14_draw 32 = .ok (.getfield 61, 3) := by decide +kernel
theorem dX14_draw_35 : decode cX14_draw 35 = .ok (.ifCond .le 5, 3) := by decide +kernel
theorem dX14_draw_38 : decode cX14_draw 38 = .ok (.iconst 0, 1) := by decide +kernel
theorem dX14_draw_39 : decode cX14_draw 39 = .ok (.ireturn, 1) := by decide +kernel
set_option maxRecDepth 20000 in
theorem ggX14_sleep_X14_isOther : GoodIn wsX14_sleep wsX14_isOther := goodIn_r _ [9, 10, 11, 12, 8, 13, 1, 14, 15, 16, 17, 18, 19, 20, 21, 22, 48, 49, 50, 51, 52, 53, 54, 55, 56, 57, 58, 59, 60, 61, 62, 63, 64, 65, 66, 93, 94, 95] (by decide +kernel) (by decide +kernel)
set_option maxRecDepth 20000 in
theorem gX14_sleep_X14_isOther : GoodIn wsX14_sleep (wsV RX14 149 RX14 yX14_isOther wsX14_isOther) := goodIn_app (goodIn_of _ (by decide +kernel)) ggX14_sleep_X14_isOther
set_option maxRecDepth 20000 in
theorem ggX14_sleep_Jx4a65c_size_8abf5 : GoodIn wsX14_sleep wsJx4a65c_size_8abf5 := goodIn_r _ [18, 19, 93, 94, 95] (by decide +kernel) (by decide +kernel)
set_option maxRecDepth 20000 in
theorem gX14_sleep_Jx4a65c_size_8abf5 : GoodIn wsX14_sleep (wsV RX14 64 RJx4a65c yJx4a65c_size_8abf5 wsJx4a65c_size_8abf5) := goodIn_app (goodIn_of _ (by decide +kernel)) ggX14_sleep_Jx4a65c_size_8abf5
theorem dX14_sleep_0 : decode cX14_sleep 0 = .ok (.aload_n 0, 1) := by decide +kernel
theorem dX14_sleep_1 : decode cX14_sleep 1 = .ok (.aload_n 0, 1) := by decide +kernel
theorem dX14_sleep_2 : decode cX14_sleep 2 = .ok (.iload_n 1, 1) := by decide +kernel
theorem dX14_sleep_3 : decode cX14_sleep 3 = .ok (.invokevirtual 149, 3) := by decide +kernel
theorem dX14_sleep_6 : decode cX14_sleep 6 = .ok (.ifCond .ne 7, 3) := by decide +kernel
theorem dX14_sleep_9 : decode cX14_sleep 9 = .ok (.iconst 1, 1) := by decide +kernel
theorem dX14_sleep_10 : decode cX14_sleep 10 = .ok (.goto 27, 3) := by decide +kernel
theorem dX14_sleep_37 : decode cX14_sleep 37 = .ok (.putfield 61, 3) := by decide +kernel
theorem dX14_sleep_40 : decode cX14_sleep 40 = .ok (.aload_n 0, 1) := by decide +kernel
theorem dX14_sleep_41 : decode cX14_sleep 41 = .ok (.getfield 18, 3) := by decide +kernel
theorem dX14_sleep_44 : decode cX14_sleep 44 = .ok (.astore_n 2, 1) := by decide +kernel
theorem dX14_sleep_45 : decode cX14_sleep 45 = .ok (.aload_n 2, 1) := by decide +kernel
theorem dX14_sleep_46 : decode cX14_sleep 46 = .ok (.arraylength, 1) := by decide +kernel
theorem dX14_sleep_47 : decode cX14_sleep 47 = .ok (.istore_n 3, 1) := by decide +kernel
theorem dX14_sleep_48 : decode cX14_sleep 48 = .ok (.iconst 0, 1) := by decide +kernel
theorem dX14_sleep_49 : decode cX14_sleep 49 = .ok (.istore 4, 2) := by decide +kernel
theorem dX14_sleep_51 : decode cX14_sleep 51 = .ok (.iload 4, 2) := by decide +kernel
theorem dX14_sleep_53 : decode cX14_sleep 53 = .ok (.iload_n 3, 1) := by decide +kernel
theorem dX14_sleep_54 : decode cX14_sleep 54 = .ok (.if_icmp .ge 75, 3) := by decide +kernel
theorem dX14_sleep_57 : decode cX14_sleep 57 = .ok (.aload_n 2, 1) := by decide +kernel
theorem dX14_sleep_58 : decode cX14_sleep 58 = .ok (.iload 4, 2) := by decide +kernel
theorem dX14_sleep_60 : decode cX14_sleep 60 = .ok (.aaload, 1) := by decide +kernel
theorem dX14_sleep_61 : decode cX14_sleep 61 = .ok (.astore 5, 2) := by decide +kernel
theorem dX14_sleep_63 : decode cX14_sleep 63 = .ok (.aload_n 0, 1) := by decide +kernel
theorem dX14_sleep_64 : decode cX14_sleep 64 = .ok (.getfield 61, 3) := by decide +kernel
theorem dX14_sleep_67 : decode cX14_sleep 67 = .ok (.ifCond .ne 36, 3) := by decide +kernel
theorem dX14_sleep_103 : decode cX14_sleep 103 = .ok (.iconst 0, 1) := by decide +kernel
theorem dX14_sleep_104 : decode cX14_sleep 104 = .ok (.istore 6, 2) := by decide +kernel
theorem dX14_sleep_106 : decode cX14_sleep 106 = .ok (.aload_n 0, 1) := by decide +kernel
theorem dX14_sleep_107 : decode cX14_sleep 107 = .ok (.iload 6, 2) := by decide +kernel
theorem dX14_sleep_109 : decode cX14_sleep 109 = .ok (.ifCond .eq 7, 3) := by decide +kernel
theorem dX14_sleep_116 : decode cX14_sleep 116 = .ok (.aload_n 0, 1) := by decide +kernel
theorem dX14_sleep_117 : decode cX14_sleep 117 = .ok (.getfield 61, 3) := by decide +kernel
theorem dX14_sleep_120 : decode cX14_sleep 120 = .ok (.putfield 61, 3) := by decide +kernel
theorem dX14_sleep_123 : decode cX14_sleep 123 = .ok (.iinc 4 1, 3) := by decide +kernel
theorem dX14_sleep_126 : decode cX14_sleep 126 = .ok (.goto (-75), 3) := by decide +kernel
theorem dX14_sleep_129 : decode cX14_sleep 129 = .ok (.iconst 0, 1) := by decide +kernel
theorem dX14_sleep_130 : decode cX14_sleep 130 = .ok (.istore_n 2, 1) := by decide +kernel
theorem dX14_sleep_131 : decode cX14_sleep 131 = .ok (.iconst 0, 1) := by decide +kernel
theorem dX14_sleep_132 : decode cX14_sleep 132 = .ok (.istore_n 3, 1) := by decide +kernel
theorem dX14_sleep_133 : decode cX14_sleep 133 = .ok (.iload_n 3, 1) := by decide +kernel
theorem dX14_sleep_134 : decode cX14_sleep 134 = .ok (.aload_n 0, 1) := by decide +kernel
theorem dX14_sleep_135 : decode cX14_sleep 135 = .ok (.getfield 10, 3) := by decide +kernel
theorem dX14_sleep_138 : decode cX14_sleep 138 = .ok (.invokevirtual 64, 3) := by decide +kernel
theorem dX14_sleep_141 : decode cX14_sleep 141 = .ok (.if_icmp .ge 63, 3) := by decide +kernel
theorem dX14_sleep_144 : decode cX14_sleep 144 = .ok (.aload_n 0, 1) := by decide +kernel
theorem dX14_sleep_145 : decode cX14_sleep 145 = .ok (.getfield 61, 3) := by decide +kernel
theorem dX14_sleep_148 : decode cX14_sleep 148 = .ok (.ifCond .ne 56, 3) := by decide +kernel
theorem dX14_sleep_204 : decode cX14_sleep 204 = .ok (.iload_n 2, 1) := by decide +kernel
theorem dX14_sleep_205 : decode cX14_sleep 205 = .ok (.ireturn, 1) := by decide +kernel
set_option maxRecDepth 20000 in
theorem ggX14_wake_X14_noDevice : GoodIn wsX14_wake wsX14_noDevice := goodIn_r _ [9, 3, 10, 11, 12, 8, 13, 1, 14, 15, 16, 17, 18, 19, 20, 21, 22, 40, 41, 42, 43, 44, 45, 46, 47, 48, 49, 50, 51, 52, 53, 54, 55, 56, 57, 58, 75, 76, 77] (by decide +kernel) (by decide +kernel)
set_option maxRecDepth 20000 in
theorem gX14_wake_X14_noDevice : GoodIn wsX14_wake (wsV RX14 90 RX14 yX14_noDevice wsX14_noDevice) := goodIn_app (goodIn_of _ (by decide +kernel)) ggX14_wake_X14_noDevice
set_option maxRecDepth 20000 in
theorem ggX14_wake_Jx4a65c_get_915e3 : GoodIn wsX14_wake wsJx4a65c_get_915e3 := goodIn_r _ [26, 19, 27, 28, 29, 30, 31, 32, 33, 34, 35, 36, 37, 17, 38, 39, 75, 76, 77] (by decide +kernel) (by decide +kernel)
set_option maxRecDepth 20000 in
theorem gX14_wake_Jx4a65c_get_915e3 : GoodIn wsX14_wake (wsV RX14 76 RJx4a65c yJx4a65c_get_915e3 wsJx4a65c_get_915e3) := goodIn_app (goodIn_of _ (by decide +kernel)) ggX14_wake_Jx4a65c_get_915e3
theorem dX14_wake_0 : decode cX14_wake 0 = .ok (.aload_n 0, 1) := by decide +kernel
theorem dX14_wake_1 : decode cX14_wake 1 = .ok (.iload_n 1, 1) := by decide +kernel
theorem dX14_wake_2 : decode cX14_wake 2 = .ok (.invokevirtual 90, 3) := by decide +kernel
theorem dX14_wake_5 : decode cX14_wake 5 = .ok (.ifCond .eq 5, 3) := by decide +kernel
theorem dX14_wake_8 : decode cX14_wake 8 = .ok (.iconst 0, 1) := by decide +kernel
theorem dX14_wake_9 : decode cX14_wake 9 = .ok (.ireturn, 1) := by decide +kernel
theorem dX14_wake_10 : decode cX14_wake 10 = .ok (.aload_n 0, 1) := by decide +kernel
theorem dX14_wake_11 : decode cX14_wake 11 = .ok (.aload_n 0, 1) := by decide +kernel
theorem dX14_wake_12 : decode cX14_wake 12 = .ok (.getfield 10, 3) := by decide +kernel
theorem dX14_wake_15 : decode cX14_wake 15 = .ok (.iload_n 1, 1) := by decide +kernel
theorem dX14_wake_16 : decode cX14_wake 16 = .ok (.invokevirtual 76, 3) := by decide +kernel
theorem dX14_wake_19 : decode cX14_wake 19 = .ok (.checkcast 48, 3) := by decide +kernel
theorem dX14_wake_22 : decode cX14_wake 22 = .ok (.getfield 53, 3) := by decide +kernel
theorem dX14_wake_25 : decode cX14_wake 25 = .ok (.bipush 122, 2) := by decide +kernel
theorem dX14_wake_27 : decode cX14_wake 27 = .ok (.if_icmp .ne 7, 3) := by decide +kernel
theorem dX14_wake_34 : decode cX14_wake 34 = .ok (.iconst 2, 1) := by decide +kernel
theorem dX14_wake_35 : decode cX14_wake 35 = .ok (.putfield 61, 3) := by decide +kernel
theorem dX14_wake_38 : decode cX14_wake 38 = .ok (.iconst 0, 1) := by decide +kernel
theorem dX14_wake_39 : decode cX14_wake 39 = .ok (.istore_n 2, 1) := by decide +kernel
theorem dX14_wake_40 : decode cX14_wake 40 = .ok (.iload_n 1, 1) := by decide +kernel
theorem dX14_wake_41 : decode cX14_wake 41 = .ok (.istore_n 3, 1) := by decide +kernel
theorem dX14_wake_42 : decode cX14_wake 42 = .ok (.iload_n 3, 1) := by decide +kernel
theorem dX14_wake_43 : decode cX14_wake 43 = .ok (.iconst (-1), 1) := by decide +kernel
theorem dX14_wake_44 : decode cX14_wake 44 = .ok (.if_icmp .eq 55, 3) := by decide +kernel
theorem dX14_wake_47 : decode cX14_wake 47 = .ok (.aload_n 0, 1) := by decide +kernel
theorem dX14_wake_48 : decode cX14_wake 48 = .ok (.getfield 61, 3) := by decide +kernel
theorem dX14_wake_51 : decode cX14_wake 51 = .ok (.ifCond .ne 48, 3) := by decide +kernel
theorem dX14_wake_99 : decode cX14_wake 99 = .ok (.iload_n 1, 1) := by decide +kernel
theorem dX14_wake_100 : decode cX14_wake 100 = .ok (.istore_n 3, 1) := by decide +kernel
theorem dX14_wake_101 : decode cX14_wake 101 = .ok (.iload_n 3, 1) := by decide +kernel
theorem dX14_wake_102 : decode cX14_wake 102 = .ok (.iconst (-1), 1) := by decide +kernel
theorem dX14_wake_103 : decode cX14_wake 103 = .ok (.if_icmp .eq 83, 3) := by decide +kernel
theorem dX14_wake_106 : decode cX14_wake 106 = .ok (.aload_n 0, 1) := by decide +kernel
theorem dX14_wake_107 : decode cX14_wake 107 = .ok (.getfield 61, 3) := by decide +kernel
theorem dX14_wake_110 : decode cX14_wake 110 = .ok (.ifCond .ne 76, 3) := by decide +kernel
theorem dX14_wake_186 : decode cX14_wake 186 = .ok (.iload_n 2, 1) := by decide +kernel
theorem dX14_wake_187 : decode cX14_wake 187 = .ok (.ireturn, 1) := by decide +kernel
theorem dX14_check_0 : decode cX14_check 0 = .ok (.iload_n 0, 1) := by decide +kernel
theorem dX14_check_1 : decode cX14_check 1 = .ok (.iload_n 2, 1) := by decide +kernel
theorem dX14_check_2 : decode cX14_check 2 = .ok (.iconst 1, 1) := by decide +kernel
theorem dX14_check_3 : decode cX14_check 3 = .ok (.isub, 1) := by decide +kernel
theorem dX14_check_4 : decode cX14_check 4 = .ok (.ishr, 1) := by decide +kernel
theorem dX14_check_5 : decode cX14_check 5 = .ok (.iconst 1, 1) := by decide +kernel
theorem dX14_check_6 : decode cX14_check 6 = .ok (.iand, 1) := by decide +kernel
theorem dX14_check_7 : decode cX14_check 7 = .ok (.istore 4, 2) := by decide +kernel
theorem dX14_check_9 : decode cX14_check 9 = .ok (.iload_n 0, 1) := by decide +kernel
theorem dX14_check_10 : decode cX14_check 10 = .ok (.iconst 1, 1) := by decide +kernel
theorem dX14_check_11 : decode cX14_check 11 = .ok (.ishl, 1) := by decide +kernel
theorem dX14_check_12 : decode cX14_check 12 = .ok (.iconst 1, 1) := by decide +kernel
theorem dX14_check_13 : decode cX14_check 13 = .ok (.iload_n 2, 1) := by decide +kernel
theorem dX14_check_14 : decode cX14_check 14 = .ok (.ishl, 1) := by decide +kernel
theorem dX14_check_15 : decode cX14_check 15 = .ok (.iconst 1, 1) := by decide +kernel
theorem dX14_check_16 : decode cX14_check 16 = .ok (.isub, 1) := by decide +kernel
theorem dX14_check_17 : decode cX14_check 17 = .ok (.iand, 1) := by decide +kernel
theorem dX14_check_18 : decode cX14_check 18 = .ok (.istore 5, 2) := by decide +kernel
theorem dX14_check_20 : decode cX14_check 20 = .ok (.iload 4, 2) := by decide +kernel
theorem dX14_check_22 : decode cX14_check 22 = .ok (.iload_n 1, 1) := by decide +kernel
theorem dX14_check_23 : decode cX14_check 23 = .ok (.if_icmp .ne 8, 3) := by decide +kernel
theorem dX14_check_26 : decode cX14_check 26 = .ok (.iload 5, 2) := by decide +kernel
theorem dX14_check_28 : decode cX14_check 28 = .ok (.goto 7, 3) := by decide +kernel
theorem dX14_check_31 : decode cX14_check 31 = .ok (.iload 5, 2) := by decide +kernel
theorem dX14_check_33 : decode cX14_check 33 = .ok (.iload_n 3, 1) := by decide +kernel
theorem dX14_check_34 : decode cX14_check 34 = .ok (.ixor, 1) := by decide +kernel
theorem dX14_check_35 : decode cX14_check 35 = .ok (.ireturn, 1) := by decide +kernel
set_option maxRecDepth 20000 in
theorem ggX14_five_X14_in : GoodIn wsX14_five wsX14_in := goodIn_r _ [5] (by decide +kernel) (by decide +kernel)
set_option maxRecDepth 20000 in
theorem gX14_five_X14_in : GoodIn wsX14_five (va_wsS RX14 68 yX14_in wsX14_in) := goodIn_app (goodIn_of _ (by decide +kernel)) ggX14_five_X14_in
set_option maxRecDepth 20000 in
theorem ggX14_five_X14_check : GoodIn wsX14_five wsX14_check := goodIn_r _ [8] (by decide +kernel) (by decide +kernel)
set_option maxRecDepth 20000 in
theorem gX14_five_X14_check : GoodIn wsX14_five (va_wsS RX14 208 yX14_check wsX14_check) := goodIn_app (goodIn_of _ (by decide +kernel)) ggX14_five_X14_check
theorem dX14_five_0 : decode cX14_five 0 = .ok (.aload_n 0, 1) := by decide +kernel
theorem dX14_five_1 : decode cX14_five 1 = .ok (.iload_n 1, 1) := by decide +kernel
theorem dX14_five_2 : decode cX14_five 2 = .ok (.iconst 0, 1) := by decide +kernel
theorem dX14_five_3 : decode cX14_five 3 = .ok (.sipush 2047, 3) := by decide +kernel
theorem dX14_five_6 : decode cX14_five 6 = .ok (.invokestatic 68, 3) := by decide +kernel
theorem dX14_five_9 : decode cX14_five 9 = .ok (.ifCond .eq 7, 3) := by decide +kernel
theorem dX14_five_12 : decode cX14_five 12 = .ok (.iconst 0, 1) := by decide +kernel
theorem dX14_five_13 : decode cX14_five 13 = .ok (.goto 4, 3) := by decide +kernel
theorem dX14_five_16 : decode cX14_five 16 = .ok (.iconst 1, 1) := by decide +kernel
theorem dX14_five_17 : decode cX14_five 17 = .ok (.putfield 61, 3) := by decide +kernel
theorem dX14_five_20 : decode cX14_five 20 = .ok (.bipush 31, 2) := by decide +kernel
theorem dX14_five_22 : decode cX14_five 22 = .ok (.istore_n 2, 1) := by decide +kernel
theorem dX14_five_23 : decode cX14_five 23 = .ok (.iconst 0, 1) := by decide +kernel
theorem dX14_five_24 : decode cX14_five 24 = .ok (.istore_n 3, 1) := by decide +kernel
theorem dX14_five_25 : decode cX14_five 25 = .ok (.iload_n 3, 1) := by decide +kernel
theorem dX14_five_26 : decode cX14_five 26 = .ok (.bipush 11, 2) := by decide +kernel
theorem dX14_five_28 : decode cX14_five 28 = .ok (.if_icmp .ge 21, 3) := by decide +kernel
theorem dX14_five_31 : decode cX14_five 31 = .ok (.iload_n 2, 1) := by decide +kernel
theorem dX14_five_32 : decode cX14_five 32 = .ok (.iload_n 1, 1) := by decide +kernel
theorem dX14_five_33 : decode cX14_five 33 = .ok (.iload_n 3, 1) := by decide +kernel
theorem dX14_five_34 : decode cX14_five 34 = .ok (.ishr, 1) := by decide +kernel
theorem dX14_five_35 : decode cX14_five 35 = .ok (.iconst 1, 1) := by decide +kernel
theorem dX14_five_36 : decode cX14_five 36 = .ok (.iand, 1) := by decide +kernel
theorem dX14_five_37 : decode cX14_five 37 = .ok (.iconst 5, 1) := by decide +kernel
theorem dX14_five_38 : decode cX14_five 38 = .ok (.iconst 5, 1) := by decide +kernel
theorem dX14_five_39 : decode cX14_five 39 = .ok (.invokestatic 208, 3) := by decide +kernel
theorem dX14_five_42 : decode cX14_five 42 = .ok (.istore_n 2, 1) := by decide +kernel
theorem dX14_five_43 : decode cX14_five 43 = .ok (.iinc 3 1, 3) := by decide +kernel
theorem dX14_five_46 : decode cX14_five 46 = .ok (.goto (-21), 3) := by decide +kernel
theorem dX14_five_49 : decode cX14_five 49 = .ok (.aload_n 0, 1) := by decide +kernel
theorem dX14_five_50 : decode cX14_five 50 = .ok (.getfield 61, 3) := by decide +kernel
theorem dX14_five_53 : decode cX14_five 53 = .ok (.ifCond .le 7, 3) := by decide +kernel
theorem dX14_five_56 : decode cX14_five 56 = .ok (.iconst 0, 1) := by decide +kernel
theorem dX14_five_57 : decode cX14_five 57 = .ok (.goto 7, 3) := by decide +kernel
theorem dX14_five_60 : decode cX14_five 60 = .ok (.bipush 31, 2) := by decide +kernel
theorem dX14_five_62 : decode cX14_five 62 = .ok (.iload_n 2, 1) := by decide +kernel
theorem dX14_five_63 : decode cX14_five 63 = .ok (.isub, 1) := by decide +kernel
theorem dX14_five_64 : decode cX14_five 64 = .ok (.ireturn, 1) := by decide +kernel
set_option maxRecDepth 20000 in
theorem ggX14_type_X14_in : GoodIn wsX14_type wsX14_in := goodIn_r _ [6] (by decide +kernel) (by decide +kernel)
set_option maxRecDepth 20000 in
theorem gX14_type_X14_in : GoodIn wsX14_type (va_wsS RX14 68 yX14_in wsX14_in) := goodIn_app (goodIn_of _ (by decide +kernel)) ggX14_type_X14_in
set_option maxRecDepth 20000 in
theorem ggX14_type_Jx4a65c_size_8abf5 : GoodIn wsX14_type wsJx4a65c_size_8abf5 := goodIn_r _ [11, 12, 105, 106, 107] (by decide +kernel) (by decide +kernel)
set_option maxRecDepth 20000 in
theorem gX14_type_Jx4a65c_size_8abf5 : GoodIn wsX14_type (wsV RX14 64 RJx4a65c yJx4a65c_size_8abf5 wsJx4a65c_size_8abf5) := goodIn_app (goodIn_of _ (by decide +kernel)) ggX14_type_Jx4a65c_size_8abf5
set_option maxRecDepth 20000 in
theorem ggX14_type_J6_valueOf_2dffe : GoodIn wsX14_type wsJ6_valueOf_2dffe := goodIn_r _ [16, 17, 18, 19, 20, 15, 21, 22, 23, 24, 25, 26, 27, 28, 29, 30, 31, 108] (by decide +kernel) (by decide +kernel)
set_option maxRecDepth 20000 in
theorem gX14_type_J6_valueOf_2dffe : GoodIn wsX14_type (va_wsS RX14 212 yJ6_valueOf_2dffe wsJ6_valueOf_2dffe) := goodIn_app (goodIn_of _ (by decide +kernel)) ggX14_type_J6_valueOf_2dffe
set_option maxRecDepth 20000 in
theorem ggX14_type_Jx4a65c_add_9ea2d : GoodIn wsX14_type wsJx4a65c_add_9ea2d := goodIn_r _ [35, 36, 37, 38, 12, 39, 40, 41, 10, 42, 43, 44, 45, 46, 47, 48, 49, 50, 51, 52, 53, 54, 55, 56, 57, 58, 59, 60, 61, 62, 63, 64, 65, 66, 67, 68, 69, 70, 71, 72, 73, 74, 75, 76, 77, 78, 79, 80, 81, 82, 83, 84, 85, 105, 106, 107] (by decide +kernel) (by decide +kernel)
set_option maxRecDepth 20000 in
theorem gX14_type_Jx4a65c_add_9ea2d : GoodIn wsX14_type (wsV RX14 57 RJx4a65c yJx4a65c_add_9ea2d wsJx4a65c_add_9ea2d) := goodIn_app (goodIn_of _ (by decide +kernel)) ggX14_type_Jx4a65c_add_9ea2d
theorem dX14_type_0 : decode cX14_type 0 = .ok (.aload_n 0, 1) := by decide +kernel
theorem dX14_type_1 : decode cX14_type 1 = .ok (.iload_n 1, 1) := by decide +kernel
theorem dX14_type_2 : decode cX14_type 2 = .ok (.iconst 0, 1) := by decide +kernel
theorem dX14_type_3 : decode cX14_type 3 = .ok (.sipush 255, 3) := by decide +kernel
theorem dX14_type_6 : decode cX14_type 6 = .ok (.invokestatic 68, 3) := by decide +kernel
theorem dX14_type_9 : decode cX14_type 9 = .ok (.ifCond .ne 7, 3) := by decide +kernel
theorem dX14_type_12 : decode cX14_type 12 = .ok (.iconst 1, 1) := by decide +kernel
theorem dX14_type_13 : decode cX14_type 13 = .ok (.goto 20, 3) := by decide +kernel
theorem dX14_type_16 : decode cX14_type 16 = .ok (.aload_n 0, 1) := by decide +kernel
theorem dX14_type_17 : decode cX14_type 17 = .ok (.getfield 25, 3) := by decide +kernel
theorem dX14_type_20 : decode cX14_type 20 = .ok (.invokevirtual 64, 3) := by decide +kernel
theorem dX14_type_23 : decode cX14_type 23 = .ok (.bipush 16, 2) := by decide +kernel
theorem dX14_type_25 : decode cX14_type 25 = .ok (.if_icmp .ne 7, 3) := by decide +kernel
theorem dX14_type_32 : decode cX14_type 32 = .ok (.iconst 0, 1) := by decide +kernel
theorem dX14_type_33 : decode cX14_type 33 = .ok (.putfield 61, 3) := by decide +kernel
theorem dX14_type_36 : decode cX14_type 36 = .ok (.aload_n 0, 1) := by decide +kernel
theorem dX14_type_37 : decode cX14_type 37 = .ok (.getfield 61, 3) := by decide +kernel
theorem dX14_type_40 : decode cX14_type 40 = .ok (.ifCond .le 5, 3) := by decide +kernel
theorem dX14_type_43 : decode cX14_type 43 = .ok (.iconst 0, 1) := by decide +kernel
theorem dX14_type_44 : decode cX14_type 44 = .ok (.ireturn, 1) := by decide +kernel
theorem dX14_type_45 : decode cX14_type 45 = .ok (.aload_n 0, 1) := by decide +kernel
theorem dX14_type_46 : decode cX14_type 46 = .ok (.getfield 25, 3) := by decide +kernel
theorem dX14_type_49 : decode cX14_type 49 = .ok (.iload_n 1, 1) := by decide +kernel
theorem dX14_type_50 : decode cX14_type 50 = .ok (.invokestatic 212, 3) := by decide +kernel
theorem dX14_type_53 : decode cX14_type 53 = .ok (.invokevirtual 57, 3) := by decide +kernel
theorem dX14_type_56 : decode cX14_type 56 = .ok (.pop, 1) := by decide +kernel
theorem dX14_type_57 : decode cX14_type 57 = .ok (.aload_n 0, 1) := by decide +kernel
theorem dX14_type_58 : decode cX14_type 58 = .ok (.getfield 25, 3) := by decide +kernel
theorem dX14_type_61 : decode cX14_type 61 = .ok (.invokevirtual 64, 3) := by decide +kernel
theorem dX14_type_64 : decode cX14_type 64 = .ok (.ireturn, 1) := by decide +kernel
set_option maxRecDepth 20000 in
theorem ggX14_wipe_Jx4a65c_size_8abf5 : GoodIn wsX14_wipe wsJx4a65c_size_8abf5 := goodIn_r _ [7, 8, 35, 36, 37] (by decide +kernel) (by decide +kernel)
set_option maxRecDepth 20000 in
theorem gX14_wipe_Jx4a65c_size_8abf5 : GoodIn wsX14_wipe (wsV RX14 64 RJx4a65c yJx4a65c_size_8abf5 wsJx4a65c_size_8abf5) := goodIn_app (goodIn_of _ (by decide +kernel)) ggX14_wipe_Jx4a65c_size_8abf5
set_option maxRecDepth 20000 in
theorem ggX14_wipe_Jx4a65c_clear_da8c8 : GoodIn wsX14_wipe wsJx4a65c_clear_da8c8 := goodIn_r _ [12, 13, 14, 15, 8, 35, 36, 37] (by decide +kernel) (by decide +kernel)
set_option maxRecDepth 20000 in
theorem gX14_wipe_Jx4a65c_clear_da8c8 : GoodIn wsX14_wipe (wsV RX14 218 RJx4a65c yJx4a65c_clear_da8c8 wsJx4a65c_clear_da8c8) := goodIn_app (goodIn_of _ (by decide +kernel)) ggX14_wipe_Jx4a65c_clear_da8c8
theorem dX14_wipe_0 : decode cX14_wipe 0 = .ok (.aload_n 0, 1) := by decide +kernel
theorem dX14_wipe_1 : decode cX14_wipe 1 = .ok (.iconst 0, 1) := by decide +kernel
theorem dX14_wipe_2 : decode cX14_wipe 2 = .ok (.putfield 61, 3) := by decide +kernel
theorem dX14_wipe_5 : decode cX14_wipe 5 = .ok (.aload_n 0, 1) := by decide +kernel
theorem dX14_wipe_6 : decode cX14_wipe 6 = .ok (.getfield 25, 3) := by decide +kernel
theorem dX14_wipe_9 : decode cX14_wipe 9 = .ok (.invokevirtual 64, 3) := by decide +kernel
theorem dX14_wipe_12 : decode cX14_wipe 12 = .ok (.istore_n 1, 1) := by decide +kernel
theorem dX14_wipe_13 : decode cX14_wipe 13 = .ok (.aload_n 0, 1) := by decide +kernel
theorem dX14_wipe_14 : decode cX14_wipe 14 = .ok (.getfield 25, 3) := by decide +kernel
theorem dX14_wipe_17 : decode cX14_wipe 17 = .ok (.invokevirtual 218, 3) := by decide +kernel
theorem dX14_wipe_20 : decode cX14_wipe 20 = .ok (.iload_n 1, 1) := by decide +kernel
theorem dX14_wipe_21 : decode cX14_wipe 21 = .ok (.ireturn, 1) := by decide +kernel
set_option maxRecDepth 20000 in
theorem ggX14_sixteen_Jx4a65c_iterator_32c93 : GoodIn wsX14_sixteen wsJx4a65c_iterator_32c93 := goodIn_r _ [10, 11, 12, 13, 14, 15, 16, 17, 18, 19, 20, 21, 22, 23, 24, 68, 69, 70, 71, 72, 73, 74] (by decide +kernel) (by decide +kernel)
set_option maxRecDepth 20000 in
theorem gX14_sixteen_Jx4a65c_iterator_32c93 : GoodIn wsX14_sixteen (wsV RX14 108 RJx4a65c yJx4a65c_iterator_32c93 wsJx4a65c_iterator_32c93) := goodIn_app (goodIn_of _ (by decide +kernel)) ggX14_sixteen_Jx4a65c_iterator_32c93
set_option maxRecDepth 20000 in
theorem ggX14_sixteen_Jx35411_hasNext_aae02 : GoodIn wsX14_sixteen wsJx35411_hasNext_aae02 := goodIn_r _ [28, 29, 17, 68, 69, 70, 71, 72, 73, 74] (by decide +kernel) (by decide +kernel)
set_option maxRecDepth 20000 in
theorem gX14_sixteen_Jx35411_hasNext_aae02_f112Jx35411 : GoodIn wsX14_sixteen (va_wsF RX14 112 RJx35411 ⟨"java/util/Iterator", "hasNext", "()Z"⟩ yJx35411_hasNext_aae02 wsJx35411_hasNext_aae02) := goodIn_app (goodIn_of _ (by decide +kernel)) ggX14_sixteen_Jx35411_hasNext_aae02
theorem dX14_sixteen_0 : decode cX14_sixteen 0 = .ok (.aload_n 0, 1) := by decide +kernel
theorem dX14_sixteen_1 : decode cX14_sixteen 1 = .ok (.iconst 0, 1) := by decide +kernel
theorem dX14_sixteen_2 : decode cX14_sixteen 2 = .ok (.putfield 61, 3) := by decide +kernel
theorem dX14_sixteen_5 : decode cX14_sixteen 5 = .ok (.ldc 221, 2) := by decide +kernel
theorem dX14_sixteen_7 : decode cX14_sixteen 7 = .ok (.istore_n 1, 1) := by decide +kernel
theorem dX14_sixteen_8 : decode cX14_sixteen 8 = .ok (.aload_n 0, 1) := by decide +kernel
theorem dX14_sixteen_9 : decode cX14_sixteen 9 = .ok (.getfield 25, 3) := by decide +kernel
theorem dX14_sixteen_12 : decode cX14_sixteen 12 = .ok (.invokevirtual 108, 3) := by decide +kernel
theorem dX14_sixteen_15 : decode cX14_sixteen 15 = .ok (.astore_n 2, 1) := by decide +kernel
theorem dX14_sixteen_16 : decode cX14_sixteen 16 = .ok (.aload_n 2, 1) := by decide +kernel
theorem dX14_sixteen_17 : decode cX14_sixteen 17 = .ok (.invokeinterface 112 1, 5) := by decide +kernel
theorem dX14_sixteen_22 : decode cX14_sixteen 22 = .ok (.ifCond .eq 50, 3) := by decide +kernel
theorem dX14_sixteen_72 : decode cX14_sixteen 72 = .ok (.ldc 221, 2) := by decide +kernel
theorem dX14_sixteen_74 : decode cX14_sixteen 74 = .ok (.iload_n 1, 1) := by decide +kernel
theorem dX14_sixteen_75 : decode cX14_sixteen 75 = .ok (.isub, 1) := by decide +kernel
theorem dX14_sixteen_76 : decode cX14_sixteen 76 = .ok (.ireturn, 1) := by decide +kernel
set_option maxRecDepth 20000 in
theorem ggX14_stuffed_Jx4a65c_iterator_32c93 : GoodIn wsX14_stuffed wsJx4a65c_iterator_32c93 := goodIn_r _ [8, 9, 10, 11, 12, 13, 14, 15, 16, 17, 18, 19, 20, 21, 22, 62, 63, 64, 65, 66, 67, 68] (by decide +kernel) (by decide +kernel)
set_option maxRecDepth 20000 in
theorem gX14_stuffed_Jx4a65c_iterator_32c93 : GoodIn wsX14_stuffed (wsV RX14 108 RJx4a65c yJx4a65c_iterator_32c93 wsJx4a65c_iterator_32c93) := goodIn_app (goodIn_of _ (by decide +kernel)) ggX14_stuffed_Jx4a65c_iterator_32c93
set_option maxRecDepth 20000 in
theorem ggX14_stuffed_Jx35411_hasNext_aae02 : GoodIn wsX14_stuffed wsJx35411_hasNext_aae02 := goodIn_r _ [26, 27, 15, 62, 63, 64, 65, 66, 67, 68] (by decide +kernel) (by decide +kernel)
set_option maxRecDepth 20000 in
theorem gX14_stuffed_Jx35411_hasNext_aae02_f112Jx35411 : GoodIn wsX14_stuffed (va_wsF RX14 112 RJx35411 ⟨"java/util/Iterator", "hasNext", "()Z"⟩ yJx35411_hasNext_aae02 wsJx35411_hasNext_aae02) := goodIn_app (goodIn_of _ (by decide +kernel)) ggX14_stuffed_Jx35411_hasNext_aae02
theorem dX14_stuffed_0 : decode cX14_stuffed 0 = .ok (.aload_n 0, 1) := by decide +kernel
theorem dX14_stuffed_1 : decode cX14_stuffed 1 = .ok (.iconst 0, 1) := by decide +kernel
theorem dX14_stuffed_2 : decode cX14_stuffed 2 = .ok (.putfield 61, 3) := by decide +kernel
theorem dX14_stuffed_5 : decode cX14_stuffed 5 = .ok (.iconst 0, 1) := by decide +kernel
theorem dX14_stuffed_6 : decode cX14_stuffed 6 = .ok (.istore_n 1, 1) := by decide +kernel
theorem dX14_stuffed_7 : decode cX14_stuffed 7 = .ok (.iconst 0, 1) := by decide +kernel
theorem dX14_stuffed_8 : decode cX14_stuffed 8 = .ok (.istore_n 2, 1) := by decide +kernel
theorem dX14_stuffed_9 : decode cX14_stuffed 9 = .ok (.aload_n 0, 1) := by decide +kernel
theorem dX14_stuffed_10 : decode cX14_stuffed 10 = .ok (.getfield 25, 3) := by decide +kernel
theorem dX14_stuffed_13 : decode cX14_stuffed 13 = .ok (.invokevirtual 108, 3) := by decide +kernel
theorem dX14_stuffed_16 : decode cX14_stuffed 16 = .ok (.astore_n 3, 1) := by decide +kernel
theorem dX14_stuffed_17 : decode cX14_stuffed 17 = .ok (.aload_n 3, 1) := by decide +kernel
theorem dX14_stuffed_18 : decode cX14_stuffed 18 = .ok (.invokeinterface 112 1, 5) := by decide +kernel
theorem dX14_stuffed_23 : decode cX14_stuffed 23 = .ok (.ifCond .eq 84, 3) := by decide +kernel
theorem dX14_stuffed_107 : decode cX14_stuffed 107 = .ok (.iload_n 1, 1) := by decide +kernel
theorem dX14_stuffed_108 : decode cX14_stuffed 108 = .ok (.ireturn, 1) := by decide +kernel
theorem dX14_reservedIn_0 : decode cX14_reservedIn 0 = .ok (.iconst 0, 1) := by decide +kernel
theorem dX14_reservedIn_1 : decode cX14_reservedIn 1 = .ok (.istore_n 3, 1) := by decide +kernel
theorem dX14_reservedIn_2 : decode cX14_reservedIn 2 = .ok (.aload_n 0, 1) := by decide +kernel
theorem dX14_reservedIn_3 : decode cX14_reservedIn 3 = .ok (.getfield 18, 3) := by decide +kernel
theorem dX14_reservedIn_6 : decode cX14_reservedIn 6 = .ok (.astore 4, 2) := by decide +kernel
theorem dX14_reservedIn_8 : decode cX14_reservedIn 8 = .ok (.aload 4, 2) := by decide +kernel
theorem dX14_reservedIn_10 : decode cX14_reservedIn 10 = .ok (.arraylength, 1) := by decide +kernel
theorem dX14_reservedIn_11 : decode cX14_reservedIn 11 = .ok (.istore 5, 2) := by decide +kernel
theorem dX14_reservedIn_13 : decode cX14_reservedIn 13 = .ok (.iconst 0, 1) := by decide +kernel
theorem dX14_reservedIn_14 : decode cX14_reservedIn 14 = .ok (.istore 6, 2) := by decide +kernel
theorem dX14_reservedIn_16 : decode cX14_reservedIn 16 = .ok (.iload 6, 2) := by decide +kernel
theorem dX14_reservedIn_18 : decode cX14_reservedIn 18 = .ok (.iload 5, 2) := by decide +kernel
theorem dX14_reservedIn_20 : decode cX14_reservedIn 20 = .ok (.if_icmp .ge 147, 3) := by decide +kernel
theorem dX14_reservedIn_23 : decode cX14_reservedIn 23 = .ok (.aload 4, 2) := by decide +kernel
theorem dX14_reservedIn_25 : decode cX14_reservedIn 25 = .ok (.iload 6, 2) := by decide +kernel
theorem dX14_reservedIn_27 : decode cX14_reservedIn 27 = .ok (.aaload, 1) := by decide +kernel
theorem dX14_reservedIn_28 : decode cX14_reservedIn 28 = .ok (.astore 7, 2) := by decide +kernel
theorem dX14_reservedIn_30 : decode cX14_reservedIn 30 = .ok (.aload 7, 2) := by decide +kernel
theorem dX14_reservedIn_32 : decode cX14_reservedIn 32 = .ok (.ifnull 129, 3) := by decide +kernel
theorem dX14_reservedIn_161 : decode cX14_reservedIn 161 = .ok (.iinc 6 1, 3) := by decide +kernel
theorem dX14_reservedIn_164 : decode cX14_reservedIn 164 = .ok (.goto (-148), 3) := by decide +kernel
theorem dX14_reservedIn_167 : decode cX14_reservedIn 167 = .ok (.iload_n 3, 1) := by decide +kernel
theorem dX14_reservedIn_168 : decode cX14_reservedIn 168 = .ok (.ireturn, 1) := by decide +kernel
set_option maxRecDepth 20000 in
theorem ggX14_isEnd_X14_isDevice : GoodIn wsX14_isEnd wsX14_isDevice := goodIn_r _ [7, 1, 8, 9, 10, 11, 12, 13, 14, 15, 6, 16, 34, 35, 36, 37, 38, 39, 40, 41, 42, 43, 44, 45, 46, 47, 48, 49, 50, 51, 52, 69, 70, 71] (by decide +kernel) (by decide +kernel)
set_option maxRecDepth 20000 in
theorem gX14_isEnd_X14_isDevice : GoodIn wsX14_isEnd (wsV RX14 72 RX14 yX14_isDevice wsX14_isDevice) := goodIn_app (goodIn_of _ (by decide +kernel)) ggX14_isEnd_X14_isDevice
set_option maxRecDepth 20000 in
theorem ggX14_isEnd_X14_in : GoodIn wsX14_isEnd wsX14_in := goodIn_r _ [16] (by decide +kernel) (by decide +kernel)
set_option maxRecDepth 20000 in
theorem gX14_isEnd_X14_in : GoodIn wsX14_isEnd (va_wsS RX14 68 yX14_in wsX14_in) := goodIn_app (goodIn_of _ (by decide +kernel)) ggX14_isEnd_X14_in
set_option maxRecDepth 20000 in
theorem ggX14_isEnd_Jx4a65c_get_915e3 : GoodIn wsX14_isEnd wsJx4a65c_get_915e3 := goodIn_r _ [20, 13, 21, 22, 23, 24, 25, 26, 27, 28, 29, 30, 31, 11, 32, 33, 69, 70, 71] (by decide +kernel) (by decide +kernel)
set_option maxRecDepth 20000 in
theorem gX14_isEnd_Jx4a65c_get_915e3 : GoodIn wsX14_isEnd (wsV RX14 76 RJx4a65c yJx4a65c_get_915e3 wsJx4a65c_get_915e3) := goodIn_app (goodIn_of _ (by decide +kernel)) ggX14_isEnd_Jx4a65c_get_915e3
theorem dX14_isEnd_0 : decode cX14_isEnd 0 = .ok (.aload_n 0, 1) := by decide +kernel
theorem dX14_isEnd_1 : decode cX14_isEnd 1 = .ok (.iload_n 1, 1) := by decide +kernel
theorem dX14_isEnd_2 : decode cX14_isEnd 2 = .ok (.invokevirtual 72, 3) := by decide +kernel
theorem dX14_isEnd_5 : decode cX14_isEnd 5 = .ok (.ifCond .eq 35, 3) := by decide +kernel
theorem dX14_isEnd_8 : decode cX14_isEnd 8 = .ok (.iload_n 2, 1) := by decide +kernel
theorem dX14_isEnd_9 : decode cX14_isEnd 9 = .ok (.iconst 1, 1) := by decide +kernel
theorem dX14_isEnd_10 : decode cX14_isEnd 10 = .ok (.iconst 3, 1) := by decide +kernel
theorem dX14_isEnd_11 : decode cX14_isEnd 11 = .ok (.invokestatic 68, 3) := by decide +kernel
theorem dX14_isEnd_14 : decode cX14_isEnd 14 = .ok (.ifCond .eq 26, 3) := by decide +kernel

