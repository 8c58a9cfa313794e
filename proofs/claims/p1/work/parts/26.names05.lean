theorem dX14_plug_20 : decode cX14_plug 20 = .ok (.getfield 10, 3) := by decide +kernel
theorem dX14_plug_23 : decode cX14_plug 23 = .ok (.iload_n 2, 1) := by decide +kernel
theorem dX14_plug_24 : decode cX14_plug 24 = .ok (.invokevirtual 76, 3) := by decide +kernel
theorem dX14_plug_27 : decode cX14_plug 27 = .ok (.checkcast 48, 3) := by decide +kernel
theorem dX14_plug_30 : decode cX14_plug 30 = .ok (.getfield 105, 3) := by decide +kernel
theorem dX14_plug_33 : decode cX14_plug 33 = .ok (.iconst 1, 1) := by decide +kernel
theorem dX14_plug_34 : decode cX14_plug 34 = .ok (.isub, 1) := by decide +kernel
theorem dX14_plug_35 : decode cX14_plug 35 = .ok (.invokestatic 68, 3) := by decide +kernel
theorem dX14_plug_38 : decode cX14_plug 38 = .ok (.ifCond .ne 7, 3) := by decide +kernel
theorem dX14_plug_41 : decode cX14_plug 41 = .ok (.iconst 1, 1) := by decide +kernel
theorem dX14_plug_42 : decode cX14_plug 42 = .ok (.goto 4, 3) := by decide +kernel
theorem dX14_plug_45 : decode cX14_plug 45 = .ok (.iconst 0, 1) := by decide +kernel
theorem dX14_plug_46 : decode cX14_plug 46 = .ok (.putfield 61, 3) := by decide +kernel
theorem dX14_plug_49 : decode cX14_plug 49 = .ok (.aload_n 0, 1) := by decide +kernel
theorem dX14_plug_50 : decode cX14_plug 50 = .ok (.getfield 61, 3) := by decide +kernel
theorem dX14_plug_53 : decode cX14_plug 53 = .ok (.ifCond .le 5, 3) := by decide +kernel
theorem dX14_plug_56 : decode cX14_plug 56 = .ok (.iconst 0, 1) := by decide +kernel
theorem dX14_plug_57 : decode cX14_plug 57 = .ok (.ireturn, 1) := by decide +kernel
theorem dX14_plug_58 : decode cX14_plug 58 = .ok (.iconst 0, 1) := by decide +kernel
theorem dX14_plug_59 : decode cX14_plug 59 = .ok (.istore 4, 2) := by decide +kernel
theorem dX14_plug_61 : decode cX14_plug 61 = .ok (.aload_n 0, 1) := by decide +kernel
theorem dX14_plug_62 : decode cX14_plug 62 = .ok (.getfield 10, 3) := by decide +kernel
theorem dX14_plug_65 : decode cX14_plug 65 = .ok (.invokevirtual 108, 3) := by decide +kernel
theorem dX14_plug_68 : decode cX14_plug 68 = .ok (.astore 5, 2) := by decide +kernel
theorem dX14_plug_70 : decode cX14_plug 70 = .ok (.aload 5, 2) := by decide +kernel
theorem dX14_plug_72 : decode cX14_plug 72 = .ok (.invokeinterface 112 1, 5) := by decide +kernel
theorem dX14_plug_77 : decode cX14_plug 77 = .ok (.ifCond .eq 48, 3) := by decide +kernel
theorem dX14_plug_80 : decode cX14_plug 80 = .ok (.aload 5, 2) := by decide +kernel
theorem dX14_plug_82 : decode cX14_plug 82 = .ok (.invokeinterface 118 1, 5) := by decide +kernel
theorem dX14_plug_87 : decode cX14_plug 87 = .ok (.checkcast 48, 3) := by decide +kernel
theorem dX14_plug_90 : decode cX14_plug 90 = .ok (.astore 6, 2) := by decide +kernel
theorem dX14_plug_92 : decode cX14_plug 92 = .ok (.iload 4, 2) := by decide +kernel
theorem dX14_plug_94 : decode cX14_plug 94 = .ok (.ifCond .ne 21, 3) := by decide +kernel
theorem dX14_plug_97 : decode cX14_plug 97 = .ok (.aload 6, 2) := by decide +kernel
theorem dX14_plug_99 : decode cX14_plug 99 = .ok (.getfield 80, 3) := by decide +kernel
theorem dX14_plug_102 : decode cX14_plug 102 = .ok (.iload_n 2, 1) := by decide +kernel
theorem dX14_plug_103 : decode cX14_plug 103 = .ok (.if_icmp .ne 16, 3) := by decide +kernel
theorem dX14_plug_106 : decode cX14_plug 106 = .ok (.aload 6, 2) := by decide +kernel
theorem dX14_plug_108 : decode cX14_plug 108 = .ok (.getfield 122, 3) := by decide +kernel
theorem dX14_plug_111 : decode cX14_plug 111 = .ok (.iload_n 3, 1) := by decide +kernel
theorem dX14_plug_112 : decode cX14_plug 112 = .ok (.if_icmp .ne 7, 3) := by decide +kernel
theorem dX14_plug_115 : decode cX14_plug 115 = .ok (.iconst 1, 1) := by decide +kernel
theorem dX14_plug_116 : decode cX14_plug 116 = .ok (.goto 4, 3) := by decide +kernel
theorem dX14_plug_119 : decode cX14_plug 119 = .ok (.iconst 0, 1) := by decide +kernel
theorem dX14_plug_120 : decode cX14_plug 120 = .ok (.istore 4, 2) := by decide +kernel
theorem dX14_plug_122 : decode cX14_plug 122 = .ok (.goto (-52), 3) := by decide +kernel
theorem dX14_plug_125 : decode cX14_plug 125 = .ok (.aload_n 0, 1) := by decide +kernel
theorem dX14_plug_126 : decode cX14_plug 126 = .ok (.getfield 10, 3) := by decide +kernel
theorem dX14_plug_129 : decode cX14_plug 129 = .ok (.iload_n 2, 1) := by decide +kernel
theorem dX14_plug_130 : decode cX14_plug 130 = .ok (.invokevirtual 76, 3) := by decide +kernel
theorem dX14_plug_133 : decode cX14_plug 133 = .ok (.checkcast 48, 3) := by decide +kernel
theorem dX14_plug_136 : decode cX14_plug 136 = .ok (.getfield 53, 3) := by decide +kernel
theorem dX14_plug_139 : decode cX14_plug 139 = .ok (.istore 5, 2) := by decide +kernel
theorem dX14_plug_141 : decode cX14_plug 141 = .ok (.iload 5, 2) := by decide +kernel
theorem dX14_plug_143 : decode cX14_plug 143 = .ok (.bipush 117, 2) := by decide +kernel
theorem dX14_plug_145 : decode cX14_plug 145 = .ok (.if_icmp .eq 17, 3) := by decide +kernel
theorem dX14_plug_148 : decode cX14_plug 148 = .ok (.iload 5, 2) := by decide +kernel
theorem dX14_plug_150 : decode cX14_plug 150 = .ok (.bipush 115, 2) := by decide +kernel
theorem dX14_plug_152 : decode cX14_plug 152 = .ok (.if_icmp .eq 10, 3) := by decide +kernel
theorem dX14_plug_155 : decode cX14_plug 155 = .ok (.iload 5, 2) := by decide +kernel
theorem dX14_plug_157 : decode cX14_plug 157 = .ok (.bipush 120, 2) := by decide +kernel
theorem dX14_plug_159 : decode cX14_plug 159 = .ok (.if_icmp .ne 7, 3) := by decide +kernel
theorem dX14_plug_162 : decode cX14_plug 162 = .ok (.iconst 1, 1) := by decide +kernel
theorem dX14_plug_163 : decode cX14_plug 163 = .ok (.goto 4, 3) := by decide +kernel
theorem dX14_plug_166 : decode cX14_plug 166 = .ok (.iconst 0, 1) := by decide +kernel
theorem dX14_plug_167 : decode cX14_plug 167 = .ok (.istore 6, 2) := by decide +kernel
theorem dX14_plug_169 : decode cX14_plug 169 = .ok (.aload_n 0, 1) := by decide +kernel
theorem dX14_plug_170 : decode cX14_plug 170 = .ok (.aload_n 0, 1) := by decide +kernel
theorem dX14_plug_171 : decode cX14_plug 171 = .ok (.iload_n 1, 1) := by decide +kernel
theorem dX14_plug_172 : decode cX14_plug 172 = .ok (.invokevirtual 93, 3) := by decide +kernel
theorem dX14_plug_175 : decode cX14_plug 175 = .ok (.ifCond .ne 22, 3) := by decide +kernel
theorem dX14_plug_178 : decode cX14_plug 178 = .ok (.iload 6, 2) := by decide +kernel
theorem dX14_plug_180 : decode cX14_plug 180 = .ok (.ifCond .ne 17, 3) := by decide +kernel
theorem dX14_plug_183 : decode cX14_plug 183 = .ok (.iload 4, 2) := by decide +kernel
theorem dX14_plug_185 : decode cX14_plug 185 = .ok (.ifCond .ne 12, 3) := by decide +kernel
theorem dX14_plug_188 : decode cX14_plug 188 = .ok (.aload_n 0, 1) := by decide +kernel
theorem dX14_plug_189 : decode cX14_plug 189 = .ok (.iload_n 2, 1) := by decide +kernel
theorem dX14_plug_190 : decode cX14_plug 190 = .ok (.invokevirtual 125, 3) := by decide +kernel
theorem dX14_plug_193 : decode cX14_plug 193 = .ok (.iconst 5, 1) := by decide +kernel
theorem dX14_plug_194 : decode cX14_plug 194 = .ok (.if_icmp .ne 7, 3) := by decide +kernel
theorem dX14_plug_197 : decode cX14_plug 197 = .ok (.iconst 2, 1) := by decide +kernel
theorem dX14_plug_198 : decode cX14_plug 198 = .ok (.goto 4, 3) := by decide +kernel
theorem dX14_plug_201 : decode cX14_plug 201 = .ok (.iconst 0, 1) := by decide +kernel
theorem dX14_plug_202 : decode cX14_plug 202 = .ok (.putfield 61, 3) := by decide +kernel
theorem dX14_plug_205 : decode cX14_plug 205 = .ok (.aload_n 0, 1) := by decide +kernel
theorem dX14_plug_206 : decode cX14_plug 206 = .ok (.getfield 61, 3) := by decide +kernel
theorem dX14_plug_209 : decode cX14_plug 209 = .ok (.ifCond .le 5, 3) := by decide +kernel
theorem dX14_plug_212 : decode cX14_plug 212 = .ok (.iconst 0, 1) := by decide +kernel
theorem dX14_plug_213 : decode cX14_plug 213 = .ok (.ireturn, 1) := by decide +kernel
theorem dX14_plug_214 : decode cX14_plug 214 = .ok (.aload_n 0, 1) := by decide +kernel
theorem dX14_plug_215 : decode cX14_plug 215 = .ok (.getfield 10, 3) := by decide +kernel
theorem dX14_plug_218 : decode cX14_plug 218 = .ok (.iload_n 1, 1) := by decide +kernel
theorem dX14_plug_219 : decode cX14_plug 219 = .ok (.invokevirtual 76, 3) := by decide +kernel
theorem dX14_plug_222 : decode cX14_plug 222 = .ok (.checkcast 48, 3) := by decide +kernel
theorem dX14_plug_225 : decode cX14_plug 225 = .ok (.astore 7, 2) := by decide +kernel
theorem dX14_plug_227 : decode cX14_plug 227 = .ok (.aload 7, 2) := by decide +kernel
theorem dX14_plug_229 : decode cX14_plug 229 = .ok (.iload_n 2, 1) := by decide +kernel
theorem dX14_plug_230 : decode cX14_plug 230 = .ok (.putfield 80, 3) := by decide +kernel
theorem dX14_plug_233 : decode cX14_plug 233 = .ok (.aload 7, 2) := by decide +kernel
theorem dX14_plug_235 : decode cX14_plug 235 = .ok (.iload_n 3, 1) := by decide +kernel
theorem dX14_plug_236 : decode cX14_plug 236 = .ok (.putfield 122, 3) := by decide +kernel
theorem dX14_plug_239 : decode cX14_plug 239 = .ok (.aload 7, 2) := by decide +kernel
theorem dX14_plug_241 : decode cX14_plug 241 = .ok (.bipush 110, 2) := by decide +kernel
theorem dX14_plug_243 : decode cX14_plug 243 = .ok (.putfield 53, 3) := by decide +kernel
theorem dX14_plug_246 : decode cX14_plug 246 = .ok (.aload_n 0, 1) := by decide +kernel
theorem dX14_plug_247 : decode cX14_plug 247 = .ok (.iload_n 1, 1) := by decide +kernel
theorem dX14_plug_248 : decode cX14_plug 248 = .ok (.invokevirtual 125, 3) := by decide +kernel
theorem dX14_plug_251 : decode cX14_plug 251 = .ok (.ireturn, 1) := by decide +kernel
set_option maxRecDepth 20000 in
theorem ggX14_unplugs_Jx4a65c_size_8abf5 : GoodIn wsX14_unplugs wsJx4a65c_size_8abf5 := goodIn_r _ [9, 10, 158, 159, 160] (by decide +kernel) (by decide +kernel)
set_option maxRecDepth 20000 in
theorem gX14_unplugs_Jx4a65c_size_8abf5 : GoodIn wsX14_unplugs (wsV RX14 64 RJx4a65c yJx4a65c_size_8abf5 wsJx4a65c_size_8abf5) := goodIn_app (goodIn_of _ (by decide +kernel)) ggX14_unplugs_Jx4a65c_size_8abf5
set_option maxRecDepth 20000 in
theorem ggX14_unplugs_X14_isPlugged : GoodIn wsX14_unplugs wsX14_isPlugged := goodIn_r _ [15, 1, 4, 16, 17, 18, 8, 19, 10, 20, 21, 22, 23, 24, 25, 26, 27, 28, 29, 30, 31, 32, 113, 114, 115, 116, 117, 118, 119, 120, 121, 122, 123, 124, 125, 126, 127, 128, 129, 130, 131, 142, 143, 144, 145, 146, 147, 148, 149, 150, 151, 152, 153, 154, 155, 156, 157, 158, 159, 160] (by decide +kernel) (by decide +kernel)
set_option maxRecDepth 20000 in
theorem gX14_unplugs_X14_isPlugged : GoodIn wsX14_unplugs (wsV RX14 93 RX14 yX14_isPlugged wsX14_isPlugged) := goodIn_app (goodIn_of _ (by decide +kernel)) ggX14_unplugs_X14_isPlugged
set_option maxRecDepth 20000 in
theorem ggX14_unplugs_X14_isBelow : GoodIn wsX14_unplugs wsX14_isBelow := goodIn_r _ [36, 1, 4, 16, 17, 18, 8, 19, 10, 20, 21, 22, 23, 24, 25, 26, 27, 28, 29, 30, 31, 32, 113, 114, 115, 116, 117, 118, 119, 120, 121, 122, 123, 124, 125, 126, 127, 128, 129, 130, 131, 142, 143, 144, 145, 146, 147, 148, 149, 150, 151, 152, 153, 154, 155, 156, 157, 158, 159, 160] (by decide +kernel) (by decide +kernel)
set_option maxRecDepth 20000 in
theorem gX14_unplugs_X14_isBelow : GoodIn wsX14_unplugs (wsV RX14 129 RX14 yX14_isBelow wsX14_isBelow) := goodIn_app (goodIn_of _ (by decide +kernel)) ggX14_unplugs_X14_isBelow
set_option maxRecDepth 20000 in
theorem ggX14_unplugs_X14_closes : GoodIn wsX14_unplugs wsX14_closes := goodIn_ca (goodIn_r _ [40, 3, 5, 6, 7, 8, 9, 10, 41, 42, 43, 14, 44, 45, 46, 47, 48, 49, 50, 51, 52, 53, 54, 32, 20, 21, 22, 23, 24, 25, 26, 27, 55, 56, 57, 58, 59, 60, 61, 62, 63, 64, 65, 66, 67, 68, 69, 70, 71, 72, 73, 74, 75, 76, 77, 78, 79, 80, 81, 82, 83, 84, 85, 86, 87, 88, 89, 90, 91, 92, 93, 94, 95, 96, 97, 98, 99, 100, 101, 102, 103, 104, 105, 106, 107, 108, 109, 110, 111, 112, 113, 114, 115, 116, 117, 118, 119, 120, 121, 122, 123, 124, 125, 126, 127, 128, 129, 130, 131, 132, 133, 134, 135, 136, 137, 138, 139, 140, 141, 158, 159, 160, 161, 162, 163, 164, 165] (by decide +kernel) (by decide +kernel)) (goodIn_sub (fun _ h => List.mem_cons_of_mem _ (List.mem_append_right _ h)) (by decide +kernel))
set_option maxRecDepth 20000 in
theorem gX14_unplugs_X14_closes : GoodIn wsX14_unplugs (wsV RX14 136 RX14 yX14_closes wsX14_closes) := goodIn_app (goodIn_of _ (by decide +kernel)) ggX14_unplugs_X14_closes
set_option maxRecDepth 20000 in
theorem ggX14_unplugs_Jx4a65c_get_915e3 : GoodIn wsX14_unplugs wsJx4a65c_get_915e3 := goodIn_r _ [19, 10, 20, 21, 22, 23, 24, 25, 26, 27, 28, 29, 30, 8, 31, 32, 158, 159, 160] (by decide +kernel) (by decide +kernel)
set_option maxRecDepth 20000 in
theorem gX14_unplugs_Jx4a65c_get_915e3 : GoodIn wsX14_unplugs (wsV RX14 76 RJx4a65c yJx4a65c_get_915e3 wsJx4a65c_get_915e3) := goodIn_app (goodIn_of _ (by decide +kernel)) ggX14_unplugs_Jx4a65c_get_915e3
theorem dX14_unplugs_0 : decode cX14_unplugs 0 = .ok (.aload_n 0, 1) := by decide +kernel
theorem dX14_unplugs_1 : decode cX14_unplugs 1 = .ok (.getfield 10, 3) := by decide +kernel
theorem dX14_unplugs_4 : decode cX14_unplugs 4 = .ok (.invokevirtual 64, 3) := by decide +kernel
theorem dX14_unplugs_7 : decode cX14_unplugs 7 = .ok (.newarray .boolean, 2) := by decide +kernel
theorem dX14_unplugs_9 : decode cX14_unplugs 9 = .ok (.astore_n 3, 1) := by decide +kernel
theorem dX14_unplugs_10 : decode cX14_unplugs 10 = .ok (.iconst 0, 1) := by decide +kernel
theorem dX14_unplugs_11 : decode cX14_unplugs 11 = .ok (.istore 4, 2) := by decide +kernel
theorem dX14_unplugs_13 : decode cX14_unplugs 13 = .ok (.iconst 0, 1) := by decide +kernel
theorem dX14_unplugs_14 : decode cX14_unplugs 14 = .ok (.istore 5, 2) := by decide +kernel
theorem dX14_unplugs_16 : decode cX14_unplugs 16 = .ok (.iload 5, 2) := by decide +kernel
theorem dX14_unplugs_18 : decode cX14_unplugs 18 = .ok (.aload_n 3, 1) := by decide +kernel
theorem dX14_unplugs_19 : decode cX14_unplugs 19 = .ok (.arraylength, 1) := by decide +kernel
theorem dX14_unplugs_20 : decode cX14_unplugs 20 = .ok (.if_icmp .ge 64, 3) := by decide +kernel
theorem dX14_unplugs_23 : decode cX14_unplugs 23 = .ok (.aload_n 3, 1) := by decide +kernel
theorem dX14_unplugs_24 : decode cX14_unplugs 24 = .ok (.iload 5, 2) := by decide +kernel
theorem dX14_unplugs_26 : decode cX14_unplugs 26 = .ok (.aload_n 0, 1) := by decide +kernel
theorem dX14_unplugs_27 : decode cX14_unplugs 27 = .ok (.iload 5, 2) := by decide +kernel
theorem dX14_unplugs_29 : decode cX14_unplugs 29 = .ok (.invokevirtual 93, 3) := by decide +kernel
theorem dX14_unplugs_32 : decode cX14_unplugs 32 = .ok (.ifCond .eq 27, 3) := by decide +kernel
theorem dX14_unplugs_35 : decode cX14_unplugs 35 = .ok (.aload_n 0, 1) := by decide +kernel
theorem dX14_unplugs_36 : decode cX14_unplugs 36 = .ok (.iload 5, 2) := by decide +kernel
theorem dX14_unplugs_38 : decode cX14_unplugs 38 = .ok (.iload_n 1, 1) := by decide +kernel
theorem dX14_unplugs_39 : decode cX14_unplugs 39 = .ok (.invokevirtual 129, 3) := by decide +kernel
theorem dX14_unplugs_42 : decode cX14_unplugs 42 = .ok (.ifCond .eq 17, 3) := by decide +kernel
theorem dX14_unplugs_45 : decode cX14_unplugs 45 = .ok (.iload_n 2, 1) := by decide +kernel
theorem dX14_unplugs_46 : decode cX14_unplugs 46 = .ok (.ifCond .ne 9, 3) := by decide +kernel
theorem dX14_unplugs_49 : decode cX14_unplugs 49 = .ok (.iload 5, 2) := by decide +kernel
theorem dX14_unplugs_51 : decode cX14_unplugs 51 = .ok (.iload_n 1, 1) := by decide +kernel
theorem dX14_unplugs_52 : decode cX14_unplugs 52 = .ok (.if_icmp .eq 7, 3) := by decide +kernel
theorem dX14_unplugs_55 : decode cX14_unplugs 55 = .ok (.iconst 1, 1) := by decide +kernel
theorem dX14_unplugs_56 : decode cX14_unplugs 56 = .ok (.goto 4, 3) := by decide +kernel
theorem dX14_unplugs_59 : decode cX14_unplugs 59 = .ok (.iconst 0, 1) := by decide +kernel
theorem dX14_unplugs_60 : decode cX14_unplugs 60 = .ok (.bastore, 1) := by decide +kernel
theorem dX14_unplugs_61 : decode cX14_unplugs 61 = .ok (.iload 4, 2) := by decide +kernel
theorem dX14_unplugs_63 : decode cX14_unplugs 63 = .ok (.aload_n 3, 1) := by decide +kernel
theorem dX14_unplugs_64 : decode cX14_unplugs 64 = .ok (.iload 5, 2) := by decide +kernel
theorem dX14_unplugs_66 : decode cX14_unplugs 66 = .ok (.baload, 1) := by decide +kernel
theorem dX14_unplugs_67 : decode cX14_unplugs 67 = .ok (.ifCond .eq 7, 3) := by decide +kernel
theorem dX14_unplugs_70 : decode cX14_unplugs 70 = .ok (.iconst 1, 1) := by decide +kernel
theorem dX14_unplugs_71 : decode cX14_unplugs 71 = .ok (.goto 4, 3) := by decide +kernel
theorem dX14_unplugs_74 : decode cX14_unplugs 74 = .ok (.iconst 0, 1) := by decide +kernel
theorem dX14_unplugs_75 : decode cX14_unplugs 75 = .ok (.iadd, 1) := by decide +kernel
theorem dX14_unplugs_76 : decode cX14_unplugs 76 = .ok (.istore 4, 2) := by decide +kernel
theorem dX14_unplugs_78 : decode cX14_unplugs 78 = .ok (.iinc 5 1, 3) := by decide +kernel
theorem dX14_unplugs_81 : decode cX14_unplugs 81 = .ok (.goto (-65), 3) := by decide +kernel
theorem dX14_unplugs_84 : decode cX14_unplugs 84 = .ok (.iconst 0, 1) := by decide +kernel
theorem dX14_unplugs_85 : decode cX14_unplugs 85 = .ok (.istore 5, 2) := by decide +kernel
theorem dX14_unplugs_87 : decode cX14_unplugs 87 = .ok (.iload 5, 2) := by decide +kernel
theorem dX14_unplugs_89 : decode cX14_unplugs 89 = .ok (.bipush 12, 2) := by decide +kernel
theorem dX14_unplugs_91 : decode cX14_unplugs 91 = .ok (.if_icmp .ge 44, 3) := by decide +kernel
theorem dX14_unplugs_94 : decode cX14_unplugs 94 = .ok (.aload_n 0, 1) := by decide +kernel
theorem dX14_unplugs_95 : decode cX14_unplugs 95 = .ok (.getfield 18, 3) := by decide +kernel
theorem dX14_unplugs_98 : decode cX14_unplugs 98 = .ok (.iload 5, 2) := by decide +kernel
theorem dX14_unplugs_100 : decode cX14_unplugs 100 = .ok (.aaload, 1) := by decide +kernel
theorem dX14_unplugs_101 : decode cX14_unplugs 101 = .ok (.ifnull 28, 3) := by decide +kernel
theorem dX14_unplugs_104 : decode cX14_unplugs 104 = .ok (.aload_n 3, 1) := by decide +kernel
theorem dX14_unplugs_105 : decode cX14_unplugs 105 = .ok (.aload_n 0, 1) := by decide +kernel
theorem dX14_unplugs_106 : decode cX14_unplugs 106 = .ok (.getfield 18, 3) := by decide +kernel
theorem dX14_unplugs_109 : decode cX14_unplugs 109 = .ok (.iload 5, 2) := by decide +kernel
theorem dX14_unplugs_111 : decode cX14_unplugs 111 = .ok (.aaload, 1) := by decide +kernel
theorem dX14_unplugs_112 : decode cX14_unplugs 112 = .ok (.getfield 133, 3) := by decide +kernel
theorem dX14_unplugs_115 : decode cX14_unplugs 115 = .ok (.baload, 1) := by decide +kernel
theorem dX14_unplugs_116 : decode cX14_unplugs 116 = .ok (.ifCond .eq 13, 3) := by decide +kernel
theorem dX14_unplugs_119 : decode cX14_unplugs 119 = .ok (.aload_n 0, 1) := by decide +kernel
theorem dX14_unplugs_120 : decode cX14_unplugs 120 = .ok (.iload 5, 2) := by decide +kernel
theorem dX14_unplugs_122 : decode cX14_unplugs 122 = .ok (.bipush 103, 2) := by decide +kernel
theorem dX14_unplugs_124 : decode cX14_unplugs 124 = .ok (.invokevirtual 136, 3) := by decide +kernel
theorem dX14_unplugs_127 : decode cX14_unplugs 127 = .ok (.istore 6, 2) := by decide +kernel
theorem dX14_unplugs_129 : decode cX14_unplugs 129 = .ok (.iinc 5 1, 3) := by decide +kernel
theorem dX14_unplugs_132 : decode cX14_unplugs 132 = .ok (.goto (-45), 3) := by decide +kernel
theorem dX14_unplugs_135 : decode cX14_unplugs 135 = .ok (.iconst 0, 1) := by decide +kernel
theorem dX14_unplugs_136 : decode cX14_unplugs 136 = .ok (.istore 5, 2) := by decide +kernel
theorem dX14_unplugs_138 : decode cX14_unplugs 138 = .ok (.iload 5, 2) := by decide +kernel
theorem dX14_unplugs_140 : decode cX14_unplugs 140 = .ok (.aload_n 3, 1) := by decide +kernel
theorem dX14_unplugs_141 : decode cX14_unplugs 141 = .ok (.arraylength, 1) := by decide +kernel
theorem dX14_unplugs_142 : decode cX14_unplugs 142 = .ok (.if_icmp .ge 61, 3) := by decide +kernel
theorem dX14_unplugs_145 : decode cX14_unplugs 145 = .ok (.aload_n 3, 1) := by decide +kernel
theorem dX14_unplugs_146 : decode cX14_unplugs 146 = .ok (.iload 5, 2) := by decide +kernel
theorem dX14_unplugs_148 : decode cX14_unplugs 148 = .ok (.baload, 1) := by decide +kernel
theorem dX14_unplugs_149 : decode cX14_unplugs 149 = .ok (.ifCond .eq 48, 3) := by decide +kernel
theorem dX14_unplugs_152 : decode cX14_unplugs 152 = .ok (.aload_n 0, 1) := by decide +kernel
theorem dX14_unplugs_153 : decode cX14_unplugs 153 = .ok (.getfield 10, 3) := by decide +kernel
theorem dX14_unplugs_156 : decode cX14_unplugs 156 = .ok (.iload 5, 2) := by decide +kernel
theorem dX14_unplugs_158 : decode cX14_unplugs 158 = .ok (.invokevirtual 76, 3) := by decide +kernel
theorem dX14_unplugs_161 : decode cX14_unplugs 161 = .ok (.checkcast 48, 3) := by decide +kernel
theorem dX14_unplugs_164 : decode cX14_unplugs 164 = .ok (.astore 6, 2) := by decide +kernel
theorem dX14_unplugs_166 : decode cX14_unplugs 166 = .ok (.aload 6, 2) := by decide +kernel
theorem dX14_unplugs_168 : decode cX14_unplugs 168 = .ok (.bipush 117, 2) := by decide +kernel
theorem dX14_unplugs_170 : decode cX14_unplugs 170 = .ok (.putfield 53, 3) := by decide +kernel
theorem dX14_unplugs_173 : decode cX14_unplugs 173 = .ok (.aload 6, 2) := by decide +kernel
theorem dX14_unplugs_175 : decode cX14_unplugs 175 = .ok (.iconst (-1), 1) := by decide +kernel
theorem dX14_unplugs_176 : decode cX14_unplugs 176 = .ok (.putfield 80, 3) := by decide +kernel
theorem dX14_unplugs_179 : decode cX14_unplugs 179 = .ok (.aload 6, 2) := by decide +kernel
theorem dX14_unplugs_181 : decode cX14_unplugs 181 = .ok (.iconst 0, 1) := by decide +kernel
theorem dX14_unplugs_182 : decode cX14_unplugs 182 = .ok (.putfield 140, 3) := by decide +kernel
theorem dX14_unplugs_185 : decode cX14_unplugs 185 = .ok (.aload 6, 2) := by decide +kernel
theorem dX14_unplugs_187 : decode cX14_unplugs 187 = .ok (.iconst (-1), 1) := by decide +kernel
theorem dX14_unplugs_188 : decode cX14_unplugs 188 = .ok (.putfield 143, 3) := by decide +kernel
theorem dX14_unplugs_191 : decode cX14_unplugs 191 = .ok (.aload 6, 2) := by decide +kernel
theorem dX14_unplugs_193 : decode cX14_unplugs 193 = .ok (.iconst 0, 1) := by decide +kernel
theorem dX14_unplugs_194 : decode cX14_unplugs 194 = .ok (.putfield 146, 3) := by decide +kernel
theorem dX14_unplugs_197 : decode cX14_unplugs 197 = .ok (.iinc 5 1, 3) := by decide +kernel
theorem dX14_unplugs_200 : decode cX14_unplugs 200 = .ok (.goto (-62), 3) := by decide +kernel
theorem dX14_unplugs_203 : decode cX14_unplugs 203 = .ok (.iload 4, 2) := by decide +kernel
theorem dX14_unplugs_205 : decode cX14_unplugs 205 = .ok (.ireturn, 1) := by decide +kernel
set_option maxRecDepth 20000 in
theorem ggX14_isOther_X14_isDevice : GoodIn wsX14_isOther wsX14_isDevice := goodIn_r _ [5, 6, 7, 8, 9, 10, 11, 12, 13, 14, 4, 15, 16, 17, 18, 19, 20, 21, 22, 23, 24, 25, 26, 27, 28, 29, 30, 31, 32, 33, 34, 35, 36, 37] (by decide +kernel) (by decide +kernel)
set_option maxRecDepth 20000 in
theorem gX14_isOther_X14_isDevice : GoodIn wsX14_isOther (wsV RX14 72 RX14 yX14_isDevice wsX14_isDevice) := goodIn_app (goodIn_of _ (by decide +kernel)) ggX14_isOther_X14_isDevice
theorem dX14_isOther_0 : decode cX14_isOther 0 = .ok (.iload_n 1, 1) := by decide +kernel
theorem dX14_isOther_1 : decode cX14_isOther 1 = .ok (.ifCond .eq 15, 3) := by decide +kernel
theorem dX14_isOther_4 : decode cX14_isOther 4 = .ok (.aload_n 0, 1) := by decide +kernel
theorem dX14_isOther_5 : decode cX14_isOther 5 = .ok (.iload_n 1, 1) := by decide +kernel
theorem dX14_isOther_6 : decode cX14_isOther 6 = .ok (.invokevirtual 72, 3) := by decide +kernel
theorem dX14_isOther_9 : decode cX14_isOther 9 = .ok (.ifCond .eq 7, 3) := by decide +kernel
theorem dX14_isOther_12 : decode cX14_isOther 12 = .ok (.iconst 1, 1) := by decide +kernel
theorem dX14_isOther_13 : decode cX14_isOther 13 = .ok (.goto 4, 3) := by decide +kernel
theorem dX14_isOther_16 : decode cX14_isOther 16 = .ok (.iconst 0, 1) := by decide +kernel
theorem dX14_isOther_17 : decode cX14_isOther 17 = .ok (.ireturn, 1) := by decide +kernel
set_option maxRecDepth 20000 in
theorem ggX14_unplug_X14_isOther : GoodIn wsX14_unplug wsX14_isOther := goodIn_r _ [6, 7, 8, 9, 5, 10, 11, 12, 13, 14, 15, 16, 17, 18, 19, 20, 129, 130, 131, 132, 133, 134, 135, 136, 137, 138, 139, 140, 141, 142, 143, 144, 145, 146, 147, 148, 149, 150] (by decide +kernel) (by decide +kernel)
set_option maxRecDepth 20000 in
theorem gX14_unplug_X14_isOther : GoodIn wsX14_unplug (wsV RX14 149 RX14 yX14_isOther wsX14_isOther) := goodIn_app (goodIn_of _ (by decide +kernel)) ggX14_unplug_X14_isOther
set_option maxRecDepth 20000 in
theorem ggX14_unplug_X14_isPlugged : GoodIn wsX14_unplug wsX14_isPlugged := goodIn_r _ [24, 11, 25, 26, 27, 28, 15, 29, 17, 30, 31, 32, 33, 34, 35, 36, 37, 38, 39, 40, 41, 42, 129, 130, 131, 132, 133, 134, 135, 136, 137, 138, 139, 140, 141, 142, 143, 144, 145, 146, 147, 151, 152, 153, 154, 155, 156, 157, 158, 159, 160, 161, 162, 163, 164, 165, 166, 148, 149, 150] (by decide +kernel) (by decide +kernel)
set_option maxRecDepth 20000 in
theorem gX14_unplug_X14_isPlugged : GoodIn wsX14_unplug (wsV RX14 93 RX14 yX14_isPlugged wsX14_isPlugged) := goodIn_app (goodIn_of _ (by decide +kernel)) ggX14_unplug_X14_isPlugged
set_option maxRecDepth 20000 in
theorem ggX14_unplug_X14_unplugs : GoodIn wsX14_unplug wsX14_unplugs := goodIn_ca (goodIn_r _ [46, 11, 47, 48, 25, 12, 13, 14, 15, 16, 17, 21, 22, 23, 5, 24, 26, 27, 28, 29, 30, 31, 32, 33, 34, 35, 36, 37, 38, 39, 40, 41, 42, 49, 50, 51, 52, 53, 54, 55, 56, 57, 58, 59, 60, 61, 62, 63, 64, 65, 66, 67, 68, 69, 70, 71, 72, 73, 74, 75, 76, 77, 78, 79, 80, 81, 82, 83, 84, 85, 86, 87, 88, 89, 90, 91, 92, 93, 94, 95, 96, 97, 98, 99, 100, 101, 102, 103, 104, 105, 106, 107, 108, 109, 110, 111, 112, 113, 114, 115, 116, 117, 118, 119, 120, 121, 122, 123, 124, 125, 126, 127, 128, 129, 130, 131, 132, 133, 134, 135, 136, 137, 138, 139, 140, 141, 142, 143, 144, 145, 146, 147, 167, 168, 169, 170, 171, 172, 173, 174, 175, 176, 151, 152, 153, 154, 155, 156, 157, 158, 159, 160, 161, 162, 163, 164, 165, 166, 148, 149, 150, 177, 178, 179, 180, 181] (by decide +kernel) (by decide +kernel)) (goodIn_sub (fun _ h => List.mem_cons_of_mem _ (List.mem_append_right _ h)) (by decide +kernel))
set_option maxRecDepth 20000 in
theorem gX14_unplug_X14_unplugs : GoodIn wsX14_unplug (wsV RX14 152 RX14 yX14_unplugs wsX14_unplugs) := goodIn_app (goodIn_of _ (by decide +kernel)) ggX14_unplug_X14_unplugs
theorem dX14_unplug_0 : decode cX14_unplug 0 = .ok (.aload_n 0, 1) := by decide +kernel
theorem dX14_unplug_1 : decode cX14_unplug 1 = .ok (.aload_n 0, 1) := by decide +kernel
theorem dX14_unplug_2 : decode cX14_unplug 2 = .ok (.iload_n 1, 1) := by decide +kernel
theorem dX14_unplug_3 : decode cX14_unplug 3 = .ok (.invokevirtual 149, 3) := by decide +kernel
theorem dX14_unplug_6 : decode cX14_unplug 6 = .ok (.ifCond .ne 7, 3) := by decide +kernel
theorem dX14_unplug_9 : decode cX14_unplug 9 = .ok (.iconst 1, 1) := by decide +kernel
theorem dX14_unplug_10 : decode cX14_unplug 10 = .ok (.goto 16, 3) := by decide +kernel
theorem dX14_unplug_13 : decode cX14_unplug 13 = .ok (.aload_n 0, 1) := by decide +kernel
theorem dX14_unplug_14 : decode cX14_unplug 14 = .ok (.iload_n 1, 1) := by decide +kernel
theorem dX14_unplug_15 : decode cX14_unplug 15 = .ok (.invokevirtual 93, 3) := by decide +kernel
theorem dX14_unplug_18 : decode cX14_unplug 18 = .ok (.ifCond .ne 7, 3) := by decide +kernel
theorem dX14_unplug_21 : decode cX14_unplug 21 = .ok (.iconst 2, 1) := by decide +kernel
theorem dX14_unplug_22 : decode cX14_unplug 22 = .ok (.goto 4, 3) := by decide +kernel
theorem dX14_unplug_25 : decode cX14_unplug 25 = .ok (.iconst 0, 1) := by decide +kernel
theorem dX14_unplug_26 : decode cX14_unplug 26 = .ok (.putfield 61, 3) := by decide +kernel
theorem dX14_unplug_29 : decode cX14_unplug 29 = .ok (.aload_n 0, 1) := by decide +kernel
theorem dX14_unplug_30 : decode cX14_unplug 30 = .ok (.getfield 61, 3) := by decide +kernel
theorem dX14_unplug_33 : decode cX14_unplug 33 = .ok (.ifCond .le 7, 3) := by decide +kernel
theorem dX14_unplug_36 : decode cX14_unplug 36 = .ok (.iconst 0, 1) := by decide +kernel
theorem dX14_unplug_37 : decode cX14_unplug 37 = .ok (.goto 9, 3) := by decide +kernel
theorem dX14_unplug_40 : decode cX14_unplug 40 = .ok (.aload_n 0, 1) := by decide +kernel
theorem dX14_unplug_41 : decode cX14_unplug 41 = .ok (.iload_n 1, 1) := by decide +kernel
theorem dX14_unplug_42 : decode cX14_unplug 42 = .ok (.iconst 1, 1) := by decide +kernel
theorem dX14_unplug_43 : decode cX14_unplug 43 = .ok (.invokevirtual 152, 3) := by decide +kernel
theorem dX14_unplug_46 : decode cX14_unplug 46 = .ok (.ireturn, 1) := by decide +kernel
set_option maxRecDepth 20000 in
theorem ggX14_stateOf_X14_noDevice : GoodIn wsX14_stateOf wsX14_noDevice := goodIn_r _ [7, 8, 9, 10, 11, 6, 12, 1, 13, 14, 15, 16, 17, 18, 19, 20, 21, 39, 40, 41, 42, 43, 44, 45, 46, 47, 48, 49, 50, 51, 52, 53, 54, 55, 56, 57, 74, 75, 76] (by decide +kernel) (by decide +kernel)
set_option maxRecDepth 20000 in
theorem gX14_stateOf_X14_noDevice : GoodIn wsX14_stateOf (wsV RX14 90 RX14 yX14_noDevice wsX14_noDevice) := goodIn_app (goodIn_of _ (by decide +kernel)) ggX14_stateOf_X14_noDevice
set_option maxRecDepth 20000 in
theorem ggX14_stateOf_Jx4a65c_get_915e3 : GoodIn wsX14_stateOf wsJx4a65c_get_915e3 := goodIn_r _ [25, 18, 26, 27, 28, 29, 30, 31, 32, 33, 34, 35, 36, 16, 37, 38, 74, 75, 76] (by decide +kernel) (by decide +kernel)
set_option maxRecDepth 20000 in
theorem gX14_stateOf_Jx4a65c_get_915e3 : GoodIn wsX14_stateOf (wsV RX14 76 RJx4a65c yJx4a65c_get_915e3 wsJx4a65c_get_915e3) := goodIn_app (goodIn_of _ (by decide +kernel)) ggX14_stateOf_Jx4a65c_get_915e3
theorem dX14_stateOf_0 : decode cX14_stateOf 0 = .ok (.aload_n 0, 1) := by decide +kernel
theorem dX14_stateOf_1 : decode cX14_stateOf 1 = .ok (.iload_n 1, 1) := by decide +kernel
theorem dX14_stateOf_2 : decode cX14_stateOf 2 = .ok (.invokevirtual 90, 3) := by decide +kernel
theorem dX14_stateOf_5 : decode cX14_stateOf 5 = .ok (.ifCond .eq 8, 3) := by decide +kernel
theorem dX14_stateOf_8 : decode cX14_stateOf 8 = .ok (.bipush 32, 2) := by decide +kernel
theorem dX14_stateOf_10 : decode cX14_stateOf 10 = .ok (.goto 17, 3) := by decide +kernel
theorem dX14_stateOf_13 : decode cX14_stateOf 13 = .ok (.aload_n 0, 1) := by decide +kernel
theorem dX14_stateOf_14 : decode cX14_stateOf 14 = .ok (.getfield 10, 3) := by decide +kernel
theorem dX14_stateOf_17 : decode cX14_stateOf 17 = .ok (.iload_n 1, 1) := by decide +kernel
theorem dX14_stateOf_18 : decode cX14_stateOf 18 = .ok (.invokevirtual 76, 3) := by decide +kernel
theorem dX14_stateOf_21 : decode cX14_stateOf 21 = .ok (.checkcast 48, 3) := by decide +kernel
theorem dX14_stateOf_24 : decode cX14_stateOf 24 = .ok (.getfield 53, 3) := by decide +kernel
theorem dX14_stateOf_27 : decode cX14_stateOf 27 = .ok (.ireturn, 1) := by decide +kernel
set_option maxRecDepth 20000 in
theorem ggX14_hubOf_X14_noDevice : GoodIn wsX14_hubOf wsX14_noDevice := goodIn_r _ [7, 8, 9, 10, 11, 6, 12, 1, 13, 14, 15, 16, 17, 18, 19, 20, 21, 39, 40, 41, 42, 43, 44, 45, 46, 47, 48, 49, 50, 51, 52, 53, 54, 55, 56, 57, 74, 75, 76] (by decide +kernel) (by decide +kernel)
set_option maxRecDepth 20000 in
theorem gX14_hubOf_X14_noDevice : GoodIn wsX14_hubOf (wsV RX14 90 RX14 yX14_noDevice wsX14_noDevice) := goodIn_app (goodIn_of _ (by decide +kernel)) ggX14_hubOf_X14_noDevice
set_option maxRecDepth 20000 in
theorem ggX14_hubOf_Jx4a65c_get_915e3 : GoodIn wsX14_hubOf wsJx4a65c_get_915e3 := goodIn_r _ [25, 18, 26, 27, 28, 29, 30, 31, 32, 33, 34, 35, 36, 16, 37, 38, 74, 75, 76] (by decide +kernel) (by decide +kernel)
set_option maxRecDepth 20000 in
theorem gX14_hubOf_Jx4a65c_get_915e3 : GoodIn wsX14_hubOf (wsV RX14 76 RJx4a65c yJx4a65c_get_915e3 wsJx4a65c_get_915e3) := goodIn_app (goodIn_of _ (by decide +kernel)) ggX14_hubOf_Jx4a65c_get_915e3
theorem dX14_hubOf_0 : decode cX14_hubOf 0 = .ok (.aload_n 0, 1) := by decide +kernel
theorem dX14_hubOf_1 : decode cX14_hubOf 1 = .ok (.iload_n 1, 1) := by decide +kernel
theorem dX14_hubOf_2 : decode cX14_hubOf 2 = .ok (.invokevirtual 90, 3) := by decide +kernel
theorem dX14_hubOf_5 : decode cX14_hubOf 5 = .ok (.ifCond .eq 7, 3) := by decide +kernel
theorem dX14_hubOf_8 : decode cX14_hubOf 8 = .ok (.iconst 0, 1) := by decide +kernel
theorem dX14_hubOf_9 : decode cX14_hubOf 9 = .ok (.goto 17, 3) := by decide +kernel
theorem dX14_hubOf_12 : decode cX14_hubOf 12 = .ok (.aload_n 0, 1) := by decide +kernel
theorem dX14_hubOf_13 : decode cX14_hubOf 13 = .ok (.getfield 10, 3) := by decide +kernel
theorem dX14_hubOf_16 : decode cX14_hubOf 16 = .ok (.iload_n 1, 1) := by decide +kernel
theorem dX14_hubOf_17 : decode cX14_hubOf 17 = .ok (.invokevirtual 76, 3) := by decide +kernel
theorem dX14_hubOf_20 : decode cX14_hubOf 20 = .ok (.checkcast 48, 3) := by decide +kernel
theorem dX14_hubOf_23 : decode cX14_hubOf 23 = .ok (.getfield 80, 3) := by decide +kernel
theorem dX14_hubOf_26 : decode cX14_hubOf 26 = .ok (.ireturn, 1) := by decide +kernel
set_option maxRecDepth 20000 in
theorem ggX14_depthOf_X14_noDevice : GoodIn wsX14_depthOf wsX14_noDevice := goodIn_r _ [5, 6, 7, 8, 9, 4, 10, 11, 12, 13, 14, 15, 16, 17, 18, 19, 20, 47, 48, 49, 50, 51, 52, 53, 54, 55, 56, 57, 58, 59, 60, 61, 62, 63, 64, 65, 66, 67, 68] (by decide +kernel) (by decide +kernel)
set_option maxRecDepth 20000 in
theorem gX14_depthOf_X14_noDevice : GoodIn wsX14_depthOf (wsV RX14 90 RX14 yX14_noDevice wsX14_noDevice) := goodIn_app (goodIn_of _ (by decide +kernel)) ggX14_depthOf_X14_noDevice
set_option maxRecDepth 20000 in
theorem ggX14_depthOf_X14_isPlugged : GoodIn wsX14_depthOf wsX14_isPlugged := goodIn_r _ [24, 11, 25, 26, 27, 28, 15, 29, 17, 30, 31, 32, 33, 34, 35, 36, 37, 38, 39, 40, 41, 42, 47, 48, 49, 50, 51, 52, 53, 54, 55, 56, 57, 58, 59, 60, 61, 62, 63, 64, 65, 69, 70, 71, 72, 73, 74, 75, 76, 77, 78, 79, 80, 81, 82, 83, 84, 66, 67, 68] (by decide +kernel) (by decide +kernel)
set_option maxRecDepth 20000 in
theorem gX14_depthOf_X14_isPlugged : GoodIn wsX14_depthOf (wsV RX14 93 RX14 yX14_isPlugged wsX14_isPlugged) := goodIn_app (goodIn_of _ (by decide +kernel)) ggX14_depthOf_X14_isPlugged
set_option maxRecDepth 20000 in
theorem ggX14_depthOf_X14_depth : GoodIn wsX14_depthOf wsX14_depth := goodIn_r _ [46, 11, 25, 26, 27, 28, 15, 29, 17, 30, 31, 32, 33, 34, 35, 36, 37, 38, 39, 40, 41, 42, 47, 48, 49, 50, 51, 52, 53, 54, 55, 56, 57, 58, 59, 60, 61, 62, 63, 64, 65, 69, 70, 71, 72, 73, 74, 75, 76, 77, 78, 79, 80, 81, 82, 83, 84, 66, 67, 68] (by decide +kernel) (by decide +kernel)
set_option maxRecDepth 20000 in
theorem gX14_depthOf_X14_depth : GoodIn wsX14_depthOf (wsV RX14 125 RX14 yX14_depth wsX14_depth) := goodIn_app (goodIn_of _ (by decide +kernel)) ggX14_depthOf_X14_depth
theorem dX14_depthOf_0 : decode cX14_depthOf 0 = .ok (.aload_n 0, 1) := by decide +kernel
theorem dX14_depthOf_1 : decode cX14_depthOf 1 = .ok (.iload_n 1, 1) := by decide +kernel
theorem dX14_depthOf_2 : decode cX14_depthOf 2 = .ok (.invokevirtual 90, 3) := by decide +kernel
theorem dX14_depthOf_5 : decode cX14_depthOf 5 = .ok (.ifCond .eq 7, 3) := by decide +kernel
theorem dX14_depthOf_8 : decode cX14_depthOf 8 = .ok (.iconst 0, 1) := by decide +kernel
theorem dX14_depthOf_9 : decode cX14_depthOf 9 = .ok (.goto 20, 3) := by decide +kernel
theorem dX14_depthOf_12 : decode cX14_depthOf 12 = .ok (.aload_n 0, 1) := by decide +kernel
theorem dX14_depthOf_13 : decode cX14_depthOf 13 = .ok (.iload_n 1, 1) := by decide +kernel
theorem dX14_depthOf_14 : decode cX14_depthOf 14 = .ok (.invokevirtual 93, 3) := by decide +kernel
theorem dX14_depthOf_17 : decode cX14_depthOf 17 = .ok (.ifCond .eq 11, 3) := by decide +kernel
theorem dX14_depthOf_20 : decode cX14_depthOf 20 = .ok (.aload_n 0, 1) := by decide +kernel
theorem dX14_depthOf_21 : decode cX14_depthOf 21 = .ok (.iload_n 1, 1) := by decide +kernel
theorem dX14_depthOf_22 : decode cX14_depthOf 22 = .ok (.invokevirtual 125, 3) := by decide +kernel
theorem dX14_depthOf_25 : decode cX14_depthOf 25 = .ok (.goto 4, 3) := by decide +kernel
theorem dX14_depthOf_28 : decode cX14_depthOf 28 = .ok (.iconst (-1), 1) := by decide +kernel
theorem dX14_depthOf_29 : decode cX14_depthOf 29 = .ok (.ireturn, 1) := by decide +kernel
set_option maxRecDepth 20000 in
theorem ggX14_speedOf_X14_noDevice : GoodIn wsX14_speedOf wsX14_noDevice := goodIn_r _ [5, 6, 7, 8, 9, 4, 10, 11, 12, 13, 14, 15, 16, 17, 18, 19, 20, 43, 44, 45, 46, 47, 48, 49, 50, 51, 52, 53, 54, 55, 56, 57, 58, 59, 60, 61, 62, 63, 64] (by decide +kernel) (by decide +kernel)
set_option maxRecDepth 20000 in
theorem gX14_speedOf_X14_noDevice : GoodIn wsX14_speedOf (wsV RX14 90 RX14 yX14_noDevice wsX14_noDevice) := goodIn_app (goodIn_of _ (by decide +kernel)) ggX14_speedOf_X14_noDevice
set_option maxRecDepth 20000 in
theorem ggX14_speedOf_X14_runs : GoodIn wsX14_speedOf wsX14_runs := goodIn_r _ [24, 11, 25, 26, 27, 28, 15, 29, 17, 30, 31, 32, 33, 34, 35, 36, 37, 38, 39, 40, 41, 42, 43, 44, 45, 46, 47, 48, 49, 50, 51, 52, 53, 54, 55, 56, 57, 58, 59, 60, 61, 65, 66, 67, 68, 69, 70, 71, 72, 73, 74, 75, 76, 77, 78, 79, 80, 62, 63, 64] (by decide +kernel) (by decide +kernel)
set_option maxRecDepth 20000 in
theorem gX14_speedOf_X14_runs : GoodIn wsX14_speedOf (wsV RX14 86 RX14 yX14_runs wsX14_runs) := goodIn_app (goodIn_of _ (by decide +kernel)) ggX14_speedOf_X14_runs
theorem dX14_speedOf_0 : decode cX14_speedOf 0 = .ok (.aload_n 0, 1) := by decide +kernel
theorem dX14_speedOf_1 : decode cX14_speedOf 1 = .ok (.iload_n 1, 1) := by decide +kernel
theorem dX14_speedOf_2 : decode cX14_speedOf 2 = .ok (.invokevirtual 90, 3) := by decide +kernel
theorem dX14_speedOf_5 : decode cX14_speedOf 5 = .ok (.ifCond .eq 8, 3) := by decide +kernel
theorem dX14_speedOf_8 : decode cX14_speedOf 8 = .ok (.bipush 32, 2) := by decide +kernel
theorem dX14_speedOf_10 : decode cX14_speedOf 10 = .ok (.goto 8, 3) := by decide +kernel
theorem dX14_speedOf_13 : decode cX14_speedOf 13 = .ok (.aload_n 0, 1) := by decide +kernel
theorem dX14_speedOf_14 : decode cX14_speedOf 14 = .ok (.iload_n 1, 1) := by decide +kernel
theorem dX14_speedOf_15 : decode cX14_speedOf 15 = .ok (.invokevirtual 86, 3) := by decide +kernel
theorem dX14_speedOf_18 : decode cX14_speedOf 18 = .ok (.ireturn, 1) := by decide +kernel
set_option maxRecDepth 20000 in
theorem ggX14_translator_X14_noDevice : GoodIn wsX14_translator wsX14_noDevice := goodIn_r _ [6, 1, 7, 8, 9, 5, 10, 11, 12, 13, 14, 15, 16, 17, 18, 19, 20, 51, 52, 53, 54, 55, 56, 57, 58, 59, 60, 61, 62, 63, 64, 65, 66, 67, 68, 69, 70, 71, 72] (by decide +kernel) (by decide +kernel)
set_option maxRecDepth 20000 in
theorem gX14_translator_X14_noDevice : GoodIn wsX14_translator (wsV RX14 90 RX14 yX14_noDevice wsX14_noDevice) := goodIn_app (goodIn_of _ (by decide +kernel)) ggX14_translator_X14_noDevice
set_option maxRecDepth 20000 in
theorem ggX14_translator_X14_isPlugged : GoodIn wsX14_translator wsX14_isPlugged := goodIn_r _ [24, 11, 25, 26, 27, 28, 15, 29, 17, 30, 31, 32, 33, 34, 35, 36, 37, 38, 39, 40, 41, 42, 51, 52, 53, 54, 55, 56, 57, 58, 59, 60, 61, 62, 63, 64, 65, 66, 67, 68, 69, 73, 74, 75, 76, 77, 78, 79, 80, 81, 82, 83, 84, 85, 86, 87, 88, 70, 71, 72] (by decide +kernel) (by decide +kernel)
set_option maxRecDepth 20000 in
theorem gX14_translator_X14_isPlugged : GoodIn wsX14_translator (wsV RX14 93 RX14 yX14_isPlugged wsX14_isPlugged) := goodIn_app (goodIn_of _ (by decide +kernel)) ggX14_translator_X14_isPlugged
set_option maxRecDepth 20000 in
theorem ggX14_translator_X14_translatorOf : GoodIn wsX14_translator wsX14_translatorOf := goodIn_r _ [46, 11, 25, 26, 27, 28, 15, 29, 17, 30, 31, 32, 33, 34, 35, 36, 37, 38, 39, 40, 41, 42, 47, 48, 49, 5, 50, 51, 52, 53, 54, 55, 56, 57, 58, 59, 60, 61, 62, 63, 64, 65, 66, 67, 68, 69, 73, 74, 75, 76, 77, 78, 79, 80, 81, 82, 83, 84, 85, 86, 87, 88, 70, 71, 72] (by decide +kernel) (by decide +kernel)
set_option maxRecDepth 20000 in
theorem gX14_translator_X14_translatorOf : GoodIn wsX14_translator (wsV RX14 156 RX14 yX14_translatorOf wsX14_translatorOf) := goodIn_app (goodIn_of _ (by decide +kernel)) ggX14_translator_X14_translatorOf
theorem dX14_translator_0 : decode cX14_translator 0 = .ok (.aload_n 0, 1) := by decide +kernel
theorem dX14_translator_1 : decode cX14_translator 1 = .ok (.iload_n 1, 1) := by decide +kernel
theorem dX14_translator_2 : decode cX14_translator 2 = .ok (.invokevirtual 90, 3) := by decide +kernel
theorem dX14_translator_5 : decode cX14_translator 5 = .ok (.ifCond .eq 5, 3) := by decide +kernel
theorem dX14_translator_8 : decode cX14_translator 8 = .ok (.iconst 0, 1) := by decide +kernel
theorem dX14_translator_9 : decode cX14_translator 9 = .ok (.ireturn, 1) := by decide +kernel
theorem dX14_translator_10 : decode cX14_translator 10 = .ok (.aload_n 0, 1) := by decide +kernel
theorem dX14_translator_11 : decode cX14_translator 11 = .ok (.iload_n 1, 1) := by decide +kernel
theorem dX14_translator_12 : decode cX14_translator 12 = .ok (.ifCond .eq 11, 3) := by decide +kernel
theorem dX14_translator_15 : decode cX14_translator 15 = .ok (.aload_n 0, 1) := by decide +kernel
theorem dX14_translator_16 : decode cX14_translator 16 = .ok (.iload_n 1, 1) := by decide +kernel
theorem dX14_translator_17 : decode cX14_translator 17 = .ok (.invokevirtual 93, 3) := by decide +kernel
theorem dX14_translator_20 : decode cX14_translator 20 = .ok (.ifCond .ne 7, 3) := by decide +kernel
theorem dX14_translator_23 : decode cX14_translator 23 = .ok (.iconst 2, 1) := by decide +kernel
theorem dX14_translator_24 : decode cX14_translator 24 = .ok (.goto 4, 3) := by decide +kernel
theorem dX14_translator_27 : decode cX14_translator 27 = .ok (.iconst 0, 1) := by decide +kernel
theorem dX14_translator_28 : decode cX14_translator 28 = .ok (.putfield 61, 3) := by decide +kernel
theorem dX14_translator_31 : decode cX14_translator 31 = .ok (.aload_n 0, 1) := by decide +kernel
theorem dX14_translator_32 : decode cX14_translator 32 = .ok (.getfield 61, 3) := by decide +kernel
theorem dX14_translator_35 : decode cX14_translator 35 = .ok (.ifCond .le 7, 3) := by decide +kernel
theorem dX14_translator_38 : decode cX14_translator 38 = .ok (.iconst 0, 1) := by decide +kernel
theorem dX14_translator_39 : decode cX14_translator 39 = .ok (.goto 8, 3) := by decide +kernel
theorem dX14_translator_42 : decode cX14_translator 42 = .ok (.aload_n 0, 1) := by decide +kernel
theorem dX14_translator_43 : decode cX14_translator 43 = .ok (.iload_n 1, 1) := by decide +kernel
theorem dX14_translator_44 : decode cX14_translator 44 = .ok (.invokevirtual 156, 3) := by decide +kernel
theorem dX14_translator_47 : decode cX14_translator 47 = .ok (.ireturn, 1) := by decide +kernel
set_option maxRecDepth 20000 in
theorem ggX14_addressOf_X14_noDevice : GoodIn wsX14_addressOf wsX14_noDevice := goodIn_r _ [7, 8, 9, 10, 11, 6, 12, 1, 13, 14, 15, 16, 17, 18, 19, 20, 21, 39, 40, 41, 42, 43, 44, 45, 46, 47, 48, 49, 50, 51, 52, 53, 54, 55, 56, 57, 74, 75, 76] (by decide +kernel) (by decide +kernel)
set_option maxRecDepth 20000 in
theorem gX14_addressOf_X14_noDevice : GoodIn wsX14_addressOf (wsV RX14 90 RX14 yX14_noDevice wsX14_noDevice) := goodIn_app (goodIn_of _ (by decide +kernel)) ggX14_addressOf_X14_noDevice
set_option maxRecDepth 20000 in
theorem ggX14_addressOf_Jx4a65c_get_915e3 : GoodIn wsX14_addressOf wsJx4a65c_get_915e3 := goodIn_r _ [25, 18, 26, 27, 28, 29, 30, 31, 32, 33, 34, 35, 36, 16, 37, 38, 74, 75, 76] (by decide +kernel) (by decide +kernel)
set_option maxRecDepth 20000 in
theorem gX14_addressOf_Jx4a65c_get_915e3 : GoodIn wsX14_addressOf (wsV RX14 76 RJx4a65c yJx4a65c_get_915e3 wsJx4a65c_get_915e3) := goodIn_app (goodIn_of _ (by decide +kernel)) ggX14_addressOf_Jx4a65c_get_915e3
theorem dX14_addressOf_0 : decode cX14_addressOf 0 = .ok (.aload_n 0, 1) := by decide +kernel
theorem dX14_addressOf_1 : decode cX14_addressOf 1 = .ok (.iload_n 1, 1) := by decide +kernel
theorem dX14_addressOf_2 : decode cX14_addressOf 2 = .ok (.invokevirtual 90, 3) := by decide +kernel
theorem dX14_addressOf_5 : decode cX14_addressOf 5 = .ok (.ifCond .eq 7, 3) := by decide +kernel
theorem dX14_addressOf_8 : decode cX14_addressOf 8 = .ok (.iconst 0, 1) := by decide +kernel
theorem dX14_addressOf_9 : decode cX14_addressOf 9 = .ok (.goto 17, 3) := by decide +kernel
theorem dX14_addressOf_12 : decode cX14_addressOf 12 = .ok (.aload_n 0, 1) := by decide +kernel
theorem dX14_addressOf_13 : decode cX14_addressOf 13 = .ok (.getfield 10, 3) := by decide +kernel
theorem dX14_addressOf_16 : decode cX14_addressOf 16 = .ok (.iload_n 1, 1) := by decide +kernel
theorem dX14_addressOf_17 : decode cX14_addressOf 17 = .ok (.invokevirtual 76, 3) := by decide +kernel
theorem dX14_addressOf_20 : decode cX14_addressOf 20 = .ok (.checkcast 48, 3) := by decide +kernel
theorem dX14_addressOf_23 : decode cX14_addressOf 23 = .ok (.getfield 140, 3) := by decide +kernel
theorem dX14_addressOf_26 : decode cX14_addressOf 26 = .ok (.ireturn, 1) := by decide +kernel
set_option maxRecDepth 20000 in
theorem ggX14_given_Jx4a65c_get_915e3 : GoodIn wsX14_given wsJx4a65c_get_915e3 := goodIn_r _ [7, 8, 9, 10, 11, 12, 13, 14, 15, 16, 17, 18, 19, 6, 20, 21, 57, 58, 59] (by decide +kernel) (by decide +kernel)
set_option maxRecDepth 20000 in
theorem gX14_given_Jx4a65c_get_915e3 : GoodIn wsX14_given (wsV RX14 76 RJx4a65c yJx4a65c_get_915e3 wsJx4a65c_get_915e3) := goodIn_app (goodIn_of _ (by decide +kernel)) ggX14_given_Jx4a65c_get_915e3
theorem dX14_given_0 : decode cX14_given 0 = .ok (.aload_n 0, 1) := by decide +kernel
theorem dX14_given_1 : decode cX14_given 1 = .ok (.getfield 10, 3) := by decide +kernel
theorem dX14_given_4 : decode cX14_given 4 = .ok (.aload_n 1, 1) := by decide +kernel
theorem dX14_given_5 : decode cX14_given 5 = .ok (.getfield 80, 3) := by decide +kernel
theorem dX14_given_8 : decode cX14_given 8 = .ok (.invokevirtual 76, 3) := by decide +kernel
theorem dX14_given_11 : decode cX14_given 11 = .ok (.checkcast 48, 3) := by decide +kernel
theorem dX14_given_14 : decode cX14_given 14 = .ok (.getfield 159, 3) := by decide +kernel
theorem dX14_given_17 : decode cX14_given 17 = .ok (.ifCond .eq 7, 3) := by decide +kernel
theorem dX14_given_20 : decode cX14_given 20 = .ok (.iconst 5, 1) := by decide +kernel
theorem dX14_given_21 : decode cX14_given 21 = .ok (.goto 4, 3) := by decide +kernel
theorem dX14_given_24 : decode cX14_given 24 = .ok (.iconst 1, 1) := by decide +kernel
theorem dX14_given_25 : decode cX14_given 25 = .ok (.ireturn, 1) := by decide +kernel
theorem dX14_controls_0 : decode cX14_controls 0 = .ok (.iconst 0, 1) := by decide +kernel
theorem dX14_controls_1 : decode cX14_controls 1 = .ok (.istore_n 2, 1) := by decide +kernel
theorem dX14_controls_2 : decode cX14_controls 2 = .ok (.iload_n 2, 1) := by decide +kernel
theorem dX14_controls_3 : decode cX14_controls 3 = .ok (.iconst 5, 1) := by decide +kernel
theorem dX14_controls_4 : decode cX14_controls 4 = .ok (.if_icmp .ge 92, 3) := by decide +kernel
theorem dX14_controls_7 : decode cX14_controls 7 = .ok (.iconst 0, 1) := by decide +kernel
theorem dX14_controls_8 : decode cX14_controls 8 = .ok (.istore_n 3, 1) := by decide +kernel
theorem dX14_controls_9 : decode cX14_controls 9 = .ok (.iconst 0, 1) := by decide +kernel
theorem dX14_controls_10 : decode cX14_controls 10 = .ok (.istore 4, 2) := by decide +kernel
theorem dX14_controls_12 : decode cX14_controls 12 = .ok (.iload 4, 2) := by decide +kernel
theorem dX14_controls_14 : decode cX14_controls 14 = .ok (.ifCond .ne 69, 3) := by decide +kernel
theorem dX14_controls_17 : decode cX14_controls 17 = .ok (.iload_n 3, 1) := by decide +kernel
theorem dX14_controls_18 : decode cX14_controls 18 = .ok (.iconst 3, 1) := by decide +kernel
theorem dX14_controls_19 : decode cX14_controls 19 = .ok (.if_icmp .ge 64, 3) := by decide +kernel
theorem dX14_controls_22 : decode cX14_controls 22 = .ok (.aload_n 0, 1) := by decide +kernel
theorem dX14_controls_23 : decode cX14_controls 23 = .ok (.dup, 1) := by decide +kernel
theorem dX14_controls_24 : decode cX14_controls 24 = .ok (.getfield 163, 3) := by decide +kernel
theorem dX14_controls_27 : decode cX14_controls 27 = .ok (.iconst 1, 1) := by decide +kernel
theorem dX14_controls_28 : decode cX14_controls 28 = .ok (.iadd, 1) := by decide +kernel
theorem dX14_controls_29 : decode cX14_controls 29 = .ok (.putfield 163, 3) := by decide +kernel
theorem dX14_controls_32 : decode cX14_controls 32 = .ok (.aload_n 1, 1) := by decide +kernel
theorem dX14_controls_33 : decode cX14_controls 33 = .ok (.getfield 166, 3) := by decide +kernel
theorem dX14_controls_36 : decode cX14_controls 36 = .ok (.iconst 0, 1) := by decide +kernel
theorem dX14_controls_37 : decode cX14_controls 37 = .ok (.iaload, 1) := by decide +kernel
theorem dX14_controls_38 : decode cX14_controls 38 = .ok (.ifCond .ne 7, 3) := by decide +kernel
theorem dX14_controls_41 : decode cX14_controls 41 = .ok (.iconst 1, 1) := by decide +kernel
theorem dX14_controls_42 : decode cX14_controls 42 = .ok (.goto 4, 3) := by decide +kernel
theorem dX14_controls_45 : decode cX14_controls 45 = .ok (.iconst 0, 1) := by decide +kernel
theorem dX14_controls_46 : decode cX14_controls 46 = .ok (.istore 4, 2) := by decide +kernel
theorem dX14_controls_48 : decode cX14_controls 48 = .ok (.aload_n 1, 1) := by decide +kernel
theorem dX14_controls_49 : decode cX14_controls 49 = .ok (.getfield 166, 3) := by decide +kernel
theorem dX14_controls_52 : decode cX14_controls 52 = .ok (.iconst 0, 1) := by decide +kernel
theorem dX14_controls_53 : decode cX14_controls 53 = .ok (.dup2, 1) := by decide +kernel
theorem dX14_controls_54 : decode cX14_controls 54 = .ok (.iaload, 1) := by decide +kernel
theorem dX14_controls_55 : decode cX14_controls 55 = .ok (.iload 4, 2) := by decide +kernel
theorem dX14_controls_57 : decode cX14_controls 57 = .ok (.ifCond .eq 7, 3) := by decide +kernel
theorem dX14_controls_60 : decode cX14_controls 60 = .ok (.iconst 0, 1) := by decide +kernel
theorem dX14_controls_61 : decode cX14_controls 61 = .ok (.goto 4, 3) := by decide +kernel
theorem dX14_controls_64 : decode cX14_controls 64 = .ok (.iconst 1, 1) := by decide +kernel
theorem dX14_controls_65 : decode cX14_controls 65 = .ok (.isub, 1) := by decide +kernel
theorem dX14_controls_66 : decode cX14_controls 66 = .ok (.iastore, 1) := by decide +kernel
theorem dX14_controls_67 : decode cX14_controls 67 = .ok (.iload_n 3, 1) := by decide +kernel
theorem dX14_controls_68 : decode cX14_controls 68 = .ok (.iload 4, 2) := by decide +kernel
theorem dX14_controls_70 : decode cX14_controls 70 = .ok (.ifCond .eq 7, 3) := by decide +kernel
theorem dX14_controls_73 : decode cX14_controls 73 = .ok (.iconst 0, 1) := by decide +kernel
theorem dX14_controls_74 : decode cX14_controls 74 = .ok (.goto 4, 3) := by decide +kernel
theorem dX14_controls_77 : decode cX14_controls 77 = .ok (.iconst 1, 1) := by decide +kernel
theorem dX14_controls_78 : decode cX14_controls 78 = .ok (.iadd, 1) := by decide +kernel
theorem dX14_controls_79 : decode cX14_controls 79 = .ok (.istore_n 3, 1) := by decide +kernel
theorem dX14_controls_80 : decode cX14_controls 80 = .ok (.goto (-68), 3) := by decide +kernel
theorem dX14_controls_83 : decode cX14_controls 83 = .ok (.iload 4, 2) := by decide +kernel
theorem dX14_controls_85 : decode cX14_controls 85 = .ok (.ifCond .ne 5, 3) := by decide +kernel
theorem dX14_controls_88 : decode cX14_controls 88 = .ok (.iconst 0, 1) := by decide +kernel
theorem dX14_controls_89 : decode cX14_controls 89 = .ok (.ireturn, 1) := by decide +kernel
theorem dX14_controls_90 : decode cX14_controls 90 = .ok (.iinc 2 1, 3) := by decide +kernel
theorem dX14_controls_93 : decode cX14_controls 93 = .ok (.goto (-91), 3) := by decide +kernel
theorem dX14_controls_96 : decode cX14_controls 96 = .ok (.iconst 1, 1) := by decide +kernel
theorem dX14_controls_97 : decode cX14_controls 97 = .ok (.ireturn, 1) := by decide +kernel
set_option maxRecDepth 20000 in
theorem ggX14_freeAddress_Jx4a65c_iterator_32c93 : GoodIn wsX14_freeAddress wsJx4a65c_iterator_32c93 := goodIn_r _ [7, 8, 9, 10, 11, 12, 13, 14, 15, 16, 17, 18, 19, 20, 21, 71, 72, 73, 74, 75, 76, 77] (by decide +kernel) (by decide +kernel)
set_option maxRecDepth 20000 in
theorem gX14_freeAddress_Jx4a65c_iterator_32c93 : GoodIn wsX14_freeAddress (wsV RX14 108 RJx4a65c yJx4a65c_iterator_32c93 wsJx4a65c_iterator_32c93) := goodIn_app (goodIn_of _ (by decide +kernel)) ggX14_freeAddress_Jx4a65c_iterator_32c93
set_option maxRecDepth 20000 in
theorem ggX14_freeAddress_Jx35411_hasNext_aae02 : GoodIn wsX14_freeAddress wsJx35411_hasNext_aae02 := goodIn_r _ [25, 26, 14, 71, 72, 73, 74, 75, 76, 77] (by decide +kernel) (by decide +kernel)
set_option maxRecDepth 20000 in
theorem gX14_freeAddress_Jx35411_hasNext_aae02_f112Jx35411 : GoodIn wsX14_freeAddress (va_wsF RX14 112 RJx35411 ⟨"java/util/Iterator", "hasNext", "()Z"⟩ yJx35411_hasNext_aae02 wsJx35411_hasNext_aae02) := goodIn_app (goodIn_of _ (by decide +kernel)) ggX14_freeAddress_Jx35411_hasNext_aae02
set_option maxRecDepth 20000 in
theorem ggX14_freeAddress_Jx35411_next_0502b : GoodIn wsX14_freeAddress wsJx35411_next_0502b := goodIn_r _ [30, 26, 14, 31, 18, 32, 33, 34, 10, 35, 19, 20, 21, 71, 72, 73, 74, 75, 76, 77] (by decide +kernel) (by decide +kernel)
set_option maxRecDepth 20000 in
theorem gX14_freeAddress_Jx35411_next_0502b_f118Jx35411 : GoodIn wsX14_freeAddress (va_wsF RX14 118 RJx35411 ⟨"java/util/Iterator", "next", "()Ljava/lang/Object;"⟩ yJx35411_next_0502b wsJx35411_next_0502b) := goodIn_app (goodIn_of _ (by decide +kernel)) ggX14_freeAddress_Jx35411_next_0502b
theorem dX14_freeAddress_0 : decode cX14_freeAddress 0 = .ok (.iconst 1, 1) := by decide +kernel
theorem dX14_freeAddress_1 : decode cX14_freeAddress 1 = .ok (.istore_n 1, 1) := by decide +kernel
theorem dX14_freeAddress_2 : decode cX14_freeAddress 2 = .ok (.iconst 0, 1) := by decide +kernel
theorem dX14_freeAddress_3 : decode cX14_freeAddress 3 = .ok (.istore_n 2, 1) := by decide +kernel
theorem dX14_freeAddress_4 : decode cX14_freeAddress 4 = .ok (.iload_n 2, 1) := by decide +kernel
theorem dX14_freeAddress_5 : decode cX14_freeAddress 5 = .ok (.ifCond .ne 70, 3) := by decide +kernel
theorem dX14_freeAddress_8 : decode cX14_freeAddress 8 = .ok (.iconst 1, 1) := by decide +kernel
theorem dX14_freeAddress_9 : decode cX14_freeAddress 9 = .ok (.istore_n 2, 1) := by decide +kernel
theorem dX14_freeAddress_10 : decode cX14_freeAddress 10 = .ok (.aload_n 0, 1) := by decide +kernel
theorem dX14_freeAddress_11 : decode cX14_freeAddress 11 = .ok (.getfield 10, 3) := by decide +kernel
theorem dX14_freeAddress_14 : decode cX14_freeAddress 14 = .ok (.invokevirtual 108, 3) := by decide +kernel
theorem dX14_freeAddress_17 : decode cX14_freeAddress 17 = .ok (.astore_n 3, 1) := by decide +kernel
theorem dX14_freeAddress_18 : decode cX14_freeAddress 18 = .ok (.aload_n 3, 1) := by decide +kernel
theorem dX14_freeAddress_19 : decode cX14_freeAddress 19 = .ok (.invokeinterface 112 1, 5) := by decide +kernel
theorem dX14_freeAddress_24 : decode cX14_freeAddress 24 = .ok (.ifCond .eq 36, 3) := by decide +kernel
theorem dX14_freeAddress_27 : decode cX14_freeAddress 27 = .ok (.aload_n 3, 1) := by decide +kernel
theorem dX14_freeAddress_28 : decode cX14_freeAddress 28 = .ok (.invokeinterface 118 1, 5) := by decide +kernel
theorem dX14_freeAddress_33 : decode cX14_freeAddress 33 = .ok (.checkcast 48, 3) := by decide +kernel
theorem dX14_freeAddress_36 : decode cX14_freeAddress 36 = .ok (.astore 4, 2) := by decide +kernel
theorem dX14_freeAddress_38 : decode cX14_freeAddress 38 = .ok (.iload_n 2, 1) := by decide +kernel
theorem dX14_freeAddress_39 : decode cX14_freeAddress 39 = .ok (.ifCond .eq 16, 3) := by decide +kernel
theorem dX14_freeAddress_42 : decode cX14_freeAddress 42 = .ok (.aload 4, 2) := by decide +kernel
theorem dX14_freeAddress_44 : decode cX14_freeAddress 44 = .ok (.getfield 140, 3) := by decide +kernel
theorem dX14_freeAddress_47 : decode cX14_freeAddress 47 = .ok (.iload_n 1, 1) := by decide +kernel
theorem dX14_freeAddress_48 : decode cX14_freeAddress 48 = .ok (.if_icmp .eq 7, 3) := by decide +kernel
theorem dX14_freeAddress_51 : decode cX14_freeAddress 51 = .ok (.iconst 1, 1) := by decide +kernel
theorem dX14_freeAddress_52 : decode cX14_freeAddress 52 = .ok (.goto 4, 3) := by decide +kernel
theorem dX14_freeAddress_55 : decode cX14_freeAddress 55 = .ok (.iconst 0, 1) := by decide +kernel
theorem dX14_freeAddress_56 : decode cX14_freeAddress 56 = .ok (.istore_n 2, 1) := by decide +kernel
theorem dX14_freeAddress_57 : decode cX14_freeAddress 57 = .ok (.goto (-39), 3) := by decide +kernel
theorem dX14_freeAddress_60 : decode cX14_freeAddress 60 = .ok (.iload_n 1, 1) := by decide +kernel
theorem dX14_freeAddress_61 : decode cX14_freeAddress 61 = .ok (.iload_n 2, 1) := by decide +kernel
theorem dX14_freeAddress_62 : decode cX14_freeAddress 62 = .ok (.ifCond .eq 7, 3) := by decide +kernel
theorem dX14_freeAddress_65 : decode cX14_freeAddress 65 = .ok (.iconst 0, 1) := by decide +kernel
theorem dX14_freeAddress_66 : decode cX14_freeAddress 66 = .ok (.goto 4, 3) := by decide +kernel
theorem dX14_freeAddress_69 : decode cX14_freeAddress 69 = .ok (.iconst 1, 1) := by decide +kernel
theorem dX14_freeAddress_70 : decode cX14_freeAddress 70 = .ok (.iadd, 1) := by decide +kernel
theorem dX14_freeAddress_71 : decode cX14_freeAddress 71 = .ok (.istore_n 1, 1) := by decide +kernel
theorem dX14_freeAddress_72 : decode cX14_freeAddress 72 = .ok (.goto (-68), 3) := by decide +kernel
theorem dX14_freeAddress_75 : decode cX14_freeAddress 75 = .ok (.iload_n 1, 1) := by decide +kernel
theorem dX14_freeAddress_76 : decode cX14_freeAddress 76 = .ok (.ireturn, 1) := by decide +kernel
set_option maxRecDepth 20000 in
theorem ggX14_driverFor_Jx4a65c_size_8abf5 : GoodIn wsX14_driverFor wsJx4a65c_size_8abf5 := goodIn_r _ [7, 8, 61, 62, 63] (by decide +kernel) (by decide +kernel)
set_option maxRecDepth 20000 in
theorem gX14_driverFor_Jx4a65c_size_8abf5 : GoodIn wsX14_driverFor (wsV RX14 64 RJx4a65c yJx4a65c_size_8abf5 wsJx4a65c_size_8abf5) := goodIn_app (goodIn_of _ (by decide +kernel)) ggX14_driverFor_Jx4a65c_size_8abf5
set_option maxRecDepth 20000 in
theorem ggX14_driverFor_Jx4a65c_get_915e3 : GoodIn wsX14_driverFor wsJx4a65c_get_915e3 := goodIn_r _ [12, 8, 13, 14, 15, 16, 17, 18, 19, 20, 21, 22, 23, 6, 24, 25, 61, 62, 63] (by decide +kernel) (by decide +kernel)
set_option maxRecDepth 20000 in
theorem gX14_driverFor_Jx4a65c_get_915e3 : GoodIn wsX14_driverFor (wsV RX14 76 RJx4a65c yJx4a65c_get_915e3 wsJx4a65c_get_915e3) := goodIn_app (goodIn_of _ (by decide +kernel)) ggX14_driverFor_Jx4a65c_get_915e3
theorem dX14_driverFor_0 : decode cX14_driverFor 0 = .ok (.iconst (-1), 1) := by decide +kernel
theorem dX14_driverFor_1 : decode cX14_driverFor 1 = .ok (.istore_n 2, 1) := by decide +kernel
theorem dX14_driverFor_2 : decode cX14_driverFor 2 = .ok (.iconst 0, 1) := by decide +kernel
theorem dX14_driverFor_3 : decode cX14_driverFor 3 = .ok (.istore_n 3, 1) := by decide +kernel
theorem dX14_driverFor_4 : decode cX14_driverFor 4 = .ok (.iload_n 3, 1) := by decide +kernel
theorem dX14_driverFor_5 : decode cX14_driverFor 5 = .ok (.iconst 2, 1) := by decide +kernel
theorem dX14_driverFor_6 : decode cX14_driverFor 6 = .ok (.if_icmp .ge 126, 3) := by decide +kernel
theorem dX14_driverFor_9 : decode cX14_driverFor 9 = .ok (.aload_n 0, 1) := by decide +kernel
theorem dX14_driverFor_10 : decode cX14_driverFor 10 = .ok (.getfield 22, 3) := by decide +kernel
theorem dX14_driverFor_13 : decode cX14_driverFor 13 = .ok (.invokevirtual 64, 3) := by decide +kernel
theorem dX14_driverFor_16 : decode cX14_driverFor 16 = .ok (.iconst 1, 1) := by decide +kernel
theorem dX14_driverFor_17 : decode cX14_driverFor 17 = .ok (.isub, 1) := by decide +kernel
theorem dX14_driverFor_18 : decode cX14_driverFor 18 = .ok (.istore 4, 2) := by decide +kernel
theorem dX14_driverFor_20 : decode cX14_driverFor 20 = .ok (.iload 4, 2) := by decide +kernel
theorem dX14_driverFor_22 : decode cX14_driverFor 22 = .ok (.ifCond .lt 104, 3) := by decide +kernel
theorem dX14_driverFor_25 : decode cX14_driverFor 25 = .ok (.iload_n 3, 1) := by decide +kernel
theorem dX14_driverFor_26 : decode cX14_driverFor 26 = .ok (.ifCond .eq 25, 3) := by decide +kernel
theorem dX14_driverFor_29 : decode cX14_driverFor 29 = .ok (.iload_n 2, 1) := by decide +kernel
theorem dX14_driverFor_30 : decode cX14_driverFor 30 = .ok (.iconst (-1), 1) := by decide +kernel
theorem dX14_driverFor_31 : decode cX14_driverFor 31 = .ok (.if_icmp .eq 20, 3) := by decide +kernel
theorem dX14_driverFor_34 : decode cX14_driverFor 34 = .ok (.aload_n 0, 1) := by decide +kernel
theorem dX14_driverFor_35 : decode cX14_driverFor 35 = .ok (.getfield 22, 3) := by decide +kernel
theorem dX14_driverFor_38 : decode cX14_driverFor 38 = .ok (.iload_n 2, 1) := by decide +kernel
theorem dX14_driverFor_39 : decode cX14_driverFor 39 = .ok (.invokevirtual 76, 3) := by decide +kernel
theorem dX14_driverFor_42 : decode cX14_driverFor 42 = .ok (.checkcast 169, 3) := by decide +kernel
theorem dX14_driverFor_45 : decode cX14_driverFor 45 = .ok (.iconst 1, 1) := by decide +kernel
theorem dX14_driverFor_46 : decode cX14_driverFor 46 = .ok (.iaload, 1) := by decide +kernel
theorem dX14_driverFor_47 : decode cX14_driverFor 47 = .ok (.iconst (-1), 1) := by decide +kernel
theorem dX14_driverFor_48 : decode cX14_driverFor 48 = .ok (.if_icmp .ne 78, 3) := by decide +kernel
theorem dX14_driverFor_51 : decode cX14_driverFor 51 = .ok (.aload_n 0, 1) := by decide +kernel
theorem dX14_driverFor_52 : decode cX14_driverFor 52 = .ok (.getfield 22, 3) := by decide +kernel
theorem dX14_driverFor_55 : decode cX14_driverFor 55 = .ok (.iload 4, 2) := by decide +kernel
theorem dX14_driverFor_57 : decode cX14_driverFor 57 = .ok (.invokevirtual 76, 3) := by decide +kernel
theorem dX14_driverFor_60 : decode cX14_driverFor 60 = .ok (.checkcast 169, 3) := by decide +kernel
theorem dX14_driverFor_63 : decode cX14_driverFor 63 = .ok (.astore 5, 2) := by decide +kernel
theorem dX14_driverFor_65 : decode cX14_driverFor 65 = .ok (.aload 5, 2) := by decide +kernel
theorem dX14_driverFor_67 : decode cX14_driverFor 67 = .ok (.iconst 0, 1) := by decide +kernel
theorem dX14_driverFor_68 : decode cX14_driverFor 68 = .ok (.iaload, 1) := by decide +kernel
theorem dX14_driverFor_69 : decode cX14_driverFor 69 = .ok (.aload_n 1, 1) := by decide +kernel
theorem dX14_driverFor_70 : decode cX14_driverFor 70 = .ok (.getfield 170, 3) := by decide +kernel
theorem dX14_driverFor_73 : decode cX14_driverFor 73 = .ok (.bipush 10, 2) := by decide +kernel
theorem dX14_driverFor_75 : decode cX14_driverFor 75 = .ok (.idiv, 1) := by decide +kernel
theorem dX14_driverFor_76 : decode cX14_driverFor 76 = .ok (.if_icmp .ne 29, 3) := by decide +kernel
theorem dX14_driverFor_79 : decode cX14_driverFor 79 = .ok (.aload 5, 2) := by decide +kernel
theorem dX14_driverFor_81 : decode cX14_driverFor 81 = .ok (.iconst 1, 1) := by decide +kernel
theorem dX14_driverFor_82 : decode cX14_driverFor 82 = .ok (.iaload, 1) := by decide +kernel
theorem dX14_driverFor_83 : decode cX14_driverFor 83 = .ok (.iload_n 3, 1) := by decide +kernel
theorem dX14_driverFor_84 : decode cX14_driverFor 84 = .ok (.ifCond .ne 13, 3) := by decide +kernel
theorem dX14_driverFor_87 : decode cX14_driverFor 87 = .ok (.aload_n 1, 1) := by decide +kernel
theorem dX14_driverFor_88 : decode cX14_driverFor 88 = .ok (.getfield 170, 3) := by decide +kernel
theorem dX14_driverFor_91 : decode cX14_driverFor 91 = .ok (.bipush 10, 2) := by decide +kernel
theorem dX14_driverFor_93 : decode cX14_driverFor 93 = .ok (.irem, 1) := by decide +kernel
theorem dX14_driverFor_94 : decode cX14_driverFor 94 = .ok (.goto 4, 3) := by decide +kernel
theorem dX14_driverFor_97 : decode cX14_driverFor 97 = .ok (.iconst (-1), 1) := by decide +kernel
theorem dX14_driverFor_98 : decode cX14_driverFor 98 = .ok (.if_icmp .ne 7, 3) := by decide +kernel
theorem dX14_driverFor_101 : decode cX14_driverFor 101 = .ok (.iconst 1, 1) := by decide +kernel
theorem dX14_driverFor_102 : decode cX14_driverFor 102 = .ok (.goto 4, 3) := by decide +kernel
theorem dX14_driverFor_105 : decode cX14_driverFor 105 = .ok (.iconst 0, 1) := by decide +kernel
theorem dX14_driverFor_106 : decode cX14_driverFor 106 = .ok (.istore 6, 2) := by decide +kernel
theorem dX14_driverFor_108 : decode cX14_driverFor 108 = .ok (.iload 6, 2) := by decide +kernel
theorem dX14_driverFor_110 : decode cX14_driverFor 110 = .ok (.ifCond .eq 8, 3) := by decide +kernel
theorem dX14_driverFor_113 : decode cX14_driverFor 113 = .ok (.iload 4, 2) := by decide +kernel
theorem dX14_driverFor_115 : decode cX14_driverFor 115 = .ok (.goto 4, 3) := by decide +kernel
theorem dX14_driverFor_118 : decode cX14_driverFor 118 = .ok (.iload_n 2, 1) := by decide +kernel
theorem dX14_driverFor_119 : decode cX14_driverFor 119 = .ok (.istore_n 2, 1) := by decide +kernel
theorem dX14_driverFor_120 : decode cX14_driverFor 120 = .ok (.iinc 4 (-1), 3) := by decide +kernel
theorem dX14_driverFor_123 : decode cX14_driverFor 123 = .ok (.goto (-103), 3) := by decide +kernel
theorem dX14_driverFor_126 : decode cX14_driverFor 126 = .ok (.iinc 3 1, 3) := by decide +kernel
theorem dX14_driverFor_129 : decode cX14_driverFor 129 = .ok (.goto (-125), 3) := by decide +kernel
theorem dX14_driverFor_132 : decode cX14_driverFor 132 = .ok (.iload_n 2, 1) := by decide +kernel
theorem dX14_driverFor_133 : decode cX14_driverFor 133 = .ok (.ireturn, 1) := by decide +kernel
set_option maxRecDepth 20000 in
theorem ggX14_look_Jx4a65c_size_8abf5 : GoodIn wsX14_look wsJx4a65c_size_8abf5 := goodIn_r _ [8, 9, 211, 212, 213] (by decide +kernel) (by decide +kernel)
set_option maxRecDepth 20000 in
theorem gX14_look_Jx4a65c_size_8abf5 : GoodIn wsX14_look (wsV RX14 64 RJx4a65c yJx4a65c_size_8abf5 wsJx4a65c_size_8abf5) := goodIn_app (goodIn_of _ (by decide +kernel)) ggX14_look_Jx4a65c_size_8abf5
set_option maxRecDepth 20000 in
theorem ggX14_look_Jx4a65c_get_915e3 : GoodIn wsX14_look wsJx4a65c_get_915e3 := goodIn_r _ [13, 9, 14, 15, 16, 17, 18, 19, 20, 21, 22, 23, 24, 7, 25, 26, 211, 212, 213] (by decide +kernel) (by decide +kernel)
set_option maxRecDepth 20000 in
theorem gX14_look_Jx4a65c_get_915e3 : GoodIn wsX14_look (wsV RX14 76 RJx4a65c yJx4a65c_get_915e3 wsJx4a65c_get_915e3) := goodIn_app (goodIn_of _ (by decide +kernel)) ggX14_look_Jx4a65c_get_915e3
set_option maxRecDepth 20000 in
theorem ggX14_look_X14_depth : GoodIn wsX14_look wsX14_depth := goodIn_r _ [31, 1, 2, 10, 11, 12, 7, 13, 9, 14, 15, 16, 17, 18, 19, 20, 21, 22, 23, 24, 25, 26, 176, 177, 178, 179, 180, 181, 182, 183, 184, 185, 186, 187, 188, 189, 190, 191, 192, 193, 194, 195, 196, 197, 198, 199, 200, 201, 202, 203, 204, 205, 206, 207, 208, 209, 210, 211, 212, 213] (by decide +kernel) (by decide +kernel)
set_option maxRecDepth 20000 in
theorem gX14_look_X14_depth : GoodIn wsX14_look (wsV RX14 125 RX14 yX14_depth wsX14_depth) := goodIn_app (goodIn_of _ (by decide +kernel)) ggX14_look_X14_depth
set_option maxRecDepth 20000 in
theorem ggX14_look_X14_raises : GoodIn wsX14_look wsX14_raises := goodIn_r _ [35, 3, 176, 177, 178, 179, 180, 181, 182, 183, 184, 185, 186, 187, 188, 189, 190, 191, 192, 193, 194] (by decide +kernel) (by decide +kernel)
set_option maxRecDepth 20000 in
theorem gX14_look_X14_raises : GoodIn wsX14_look (wsV RX14 173 RX14 yX14_raises wsX14_raises) := goodIn_app (goodIn_of _ (by decide +kernel)) ggX14_look_X14_raises
set_option maxRecDepth 20000 in
theorem ggX14_look_X14_controls : GoodIn wsX14_look wsX14_controls := goodIn_ca (goodIn_r _ [39, 40, 176, 177, 178, 179, 180, 181, 182, 183, 184, 185, 186, 187, 188, 189, 190, 191, 192, 193, 194, 195, 196, 197, 198, 199, 200, 201, 202, 203, 204, 205, 206, 207, 208, 209, 210] (by decide +kernel) (by decide +kernel)) (goodIn_sub (fun _ h => List.mem_cons_of_mem _ (List.mem_append_right _ h)) (by decide +kernel))
set_option maxRecDepth 20000 in
theorem gX14_look_X14_controls : GoodIn wsX14_look (wsV RX14 176 RX14 yX14_controls wsX14_controls) := goodIn_app (goodIn_of _ (by decide +kernel)) ggX14_look_X14_controls
set_option maxRecDepth 20000 in
theorem ggX14_look_X14_unplugs : GoodIn wsX14_look wsX14_unplugs := goodIn_ca (goodIn_r _ [44, 1, 45, 46, 2, 4, 5, 6, 7, 8, 9, 47, 48, 49, 30, 50, 10, 11, 12, 13, 14, 15, 16, 17, 18, 19, 20, 21, 22, 23, 24, 25, 26, 51, 52, 53, 54, 55, 56, 57, 58, 59, 60, 61, 62, 63, 64, 65, 66, 67, 68, 69, 70, 71, 72, 73, 74, 75, 76, 77, 78, 79, 80, 81, 82, 83, 84, 85, 86, 87, 88, 89, 90, 91, 92, 93, 94, 95, 96, 97, 98, 99, 100, 101, 102, 103, 104, 105, 106, 107, 108, 109, 110, 111, 112, 113, 114, 115, 116, 117, 118, 119, 120, 121, 122, 123, 124, 125, 126, 127, 128, 129, 130, 176, 177, 178, 179, 180, 181, 182, 183, 184, 185, 186, 187, 188, 189, 190, 191, 192, 193, 194, 214, 215, 216, 217, 218, 219, 220, 221, 222, 223, 195, 196, 197, 198, 199, 200, 201, 202, 203, 204, 205, 206, 207, 208, 209, 210, 211, 212, 213, 224, 225, 226, 227, 228] (by decide +kernel) (by decide +kernel)) (goodIn_sub (fun _ h => List.mem_cons_of_mem _ (List.mem_append_right _ h)) (by decide +kernel))
set_option maxRecDepth 20000 in
theorem gX14_look_X14_unplugs : GoodIn wsX14_look (wsV RX14 152 RX14 yX14_unplugs wsX14_unplugs) := goodIn_app (goodIn_of _ (by decide +kernel)) ggX14_look_X14_unplugs
set_option maxRecDepth 20000 in
theorem ggX14_look_X14_freeAddress : GoodIn wsX14_look wsX14_freeAddress := goodIn_r _ [134, 1, 2, 135, 136, 137, 7, 138, 139, 140, 141, 142, 143, 144, 145, 146, 147, 148, 149, 150, 78, 151, 152, 153, 154, 155, 156, 157, 158, 159, 160, 161, 162, 163, 164, 165, 176, 177, 178, 179, 180, 181, 182, 183, 184, 185, 186, 187, 188, 189, 190, 191, 192, 193, 194, 195, 196, 197, 198, 199, 200, 201, 202, 203, 204, 205, 206, 207, 208, 209, 210, 229, 230, 231, 232, 211, 212, 213] (by decide +kernel) (by decide +kernel)
set_option maxRecDepth 20000 in
theorem gX14_look_X14_freeAddress : GoodIn wsX14_look (wsV RX14 183 RX14 yX14_freeAddress wsX14_freeAddress) := goodIn_app (goodIn_of _ (by decide +kernel)) ggX14_look_X14_freeAddress
set_option maxRecDepth 20000 in
theorem ggX14_look_X14_given : GoodIn wsX14_look wsX14_given := goodIn_r _ [169, 1, 2, 10, 11, 12, 7, 13, 9, 14, 15, 16, 17, 18, 19, 20, 21, 22, 23, 24, 25, 26, 176, 177, 178, 179, 180, 181, 182, 183, 184, 185, 186, 187, 188, 189, 190, 191, 192, 193, 194, 195, 196, 197, 198, 199, 200, 201, 202, 203, 204, 205, 206, 207, 208, 209, 210, 211, 212, 213] (by decide +kernel) (by decide +kernel)
set_option maxRecDepth 20000 in
theorem gX14_look_X14_given : GoodIn wsX14_look (wsV RX14 189 RX14 yX14_given wsX14_given) := goodIn_app (goodIn_of _ (by decide +kernel)) ggX14_look_X14_given
set_option maxRecDepth 20000 in
theorem ggX14_look_X14_driverFor : GoodIn wsX14_look wsX14_driverFor := goodIn_ca (goodIn_r _ [173, 174, 175, 4, 5, 6, 7, 8, 9, 10, 11, 12, 13, 14, 15, 16, 17, 18, 19, 20, 21, 22, 23, 24, 25, 26, 176, 177, 178, 179, 180, 181, 182, 183, 184, 185, 186, 187, 188, 189, 190, 191, 192, 193, 194, 195, 196, 197, 198, 199, 200, 201, 202, 203, 204, 205, 206, 207, 208, 209, 210, 211, 212, 213] (by decide +kernel) (by decide +kernel)) (goodIn_sub (fun _ h => List.mem_cons_of_mem _ (List.mem_append_right _ h)) (by decide +kernel))
set_option maxRecDepth 20000 in
theorem gX14_look_X14_driverFor : GoodIn wsX14_look (wsV RX14 193 RX14 yX14_driverFor wsX14_driverFor) := goodIn_app (goodIn_of _ (by decide +kernel)) ggX14_look_X14_driverFor
theorem dX14_look_0 : decode cX14_look 0 = .ok (.iconst (-1), 1) := by decide +kernel
theorem dX14_look_1 : decode cX14_look 1 = .ok (.istore_n 1, 1) := by decide +kernel
theorem dX14_look_2 : decode cX14_look 2 = .ok (.iconst 1, 1) := by decide +kernel
theorem dX14_look_3 : decode cX14_look 3 = .ok (.istore_n 2, 1) := by decide +kernel
theorem dX14_look_4 : decode cX14_look 4 = .ok (.iload_n 2, 1) := by decide +kernel
theorem dX14_look_5 : decode cX14_look 5 = .ok (.aload_n 0, 1) := by decide +kernel
theorem dX14_look_6 : decode cX14_look 6 = .ok (.getfield 10, 3) := by decide +kernel
theorem dX14_look_9 : decode cX14_look 9 = .ok (.invokevirtual 64, 3) := by decide +kernel
theorem dX14_look_12 : decode cX14_look 12 = .ok (.if_icmp .ge 88, 3) := by decide +kernel
theorem dX14_look_15 : decode cX14_look 15 = .ok (.aload_n 0, 1) := by decide +kernel
theorem dX14_look_16 : decode cX14_look 16 = .ok (.getfield 10, 3) := by decide +kernel
theorem dX14_look_19 : decode cX14_look 19 = .ok (.iload_n 2, 1) := by decide +kernel
theorem dX14_look_20 : decode cX14_look 20 = .ok (.invokevirtual 76, 3) := by decide +kernel
theorem dX14_look_23 : decode cX14_look 23 = .ok (.checkcast 48, 3) := by decide +kernel
theorem dX14_look_26 : decode cX14_look 26 = .ok (.astore_n 3, 1) := by decide +kernel
theorem dX14_look_27 : decode cX14_look 27 = .ok (.aload_n 3, 1) := by decide +kernel
theorem dX14_look_28 : decode cX14_look 28 = .ok (.getfield 53, 3) := by decide +kernel
theorem dX14_look_31 : decode cX14_look 31 = .ok (.bipush 110, 2) := by decide +kernel
theorem dX14_look_33 : decode cX14_look 33 = .ok (.if_icmp .ne 29, 3) := by decide +kernel
theorem dX14_look_36 : decode cX14_look 36 = .ok (.aload_n 0, 1) := by decide +kernel
theorem dX14_look_37 : decode cX14_look 37 = .ok (.getfield 10, 3) := by decide +kernel
theorem dX14_look_40 : decode cX14_look 40 = .ok (.aload_n 3, 1) := by decide +kernel
theorem dX14_look_41 : decode cX14_look 41 = .ok (.getfield 80, 3) := by decide +kernel
theorem dX14_look_44 : decode cX14_look 44 = .ok (.invokevirtual 76, 3) := by decide +kernel
theorem dX14_look_47 : decode cX14_look 47 = .ok (.checkcast 48, 3) := by decide +kernel
theorem dX14_look_50 : decode cX14_look 50 = .ok (.getfield 53, 3) := by decide +kernel
theorem dX14_look_53 : decode cX14_look 53 = .ok (.bipush 99, 2) := by decide +kernel
theorem dX14_look_55 : decode cX14_look 55 = .ok (.if_icmp .ne 7, 3) := by decide +kernel
theorem dX14_look_58 : decode cX14_look 58 = .ok (.iconst 1, 1) := by decide +kernel
theorem dX14_look_59 : decode cX14_look 59 = .ok (.goto 4, 3) := by decide +kernel
theorem dX14_look_62 : decode cX14_look 62 = .ok (.iconst 0, 1) := by decide +kernel
theorem dX14_look_63 : decode cX14_look 63 = .ok (.istore 4, 2) := by decide +kernel
theorem dX14_look_65 : decode cX14_look 65 = .ok (.iload 4, 2) := by decide +kernel
theorem dX14_look_67 : decode cX14_look 67 = .ok (.ifCond .eq 25, 3) := by decide +kernel
theorem dX14_look_70 : decode cX14_look 70 = .ok (.iload_n 1, 1) := by decide +kernel
theorem dX14_look_71 : decode cX14_look 71 = .ok (.iconst (-1), 1) := by decide +kernel
theorem dX14_look_72 : decode cX14_look 72 = .ok (.if_icmp .eq 16, 3) := by decide +kernel
theorem dX14_look_75 : decode cX14_look 75 = .ok (.aload_n 0, 1) := by decide +kernel
theorem dX14_look_76 : decode cX14_look 76 = .ok (.iload_n 2, 1) := by decide +kernel
theorem dX14_look_77 : decode cX14_look 77 = .ok (.invokevirtual 125, 3) := by decide +kernel
theorem dX14_look_80 : decode cX14_look 80 = .ok (.aload_n 0, 1) := by decide +kernel
theorem dX14_look_81 : decode cX14_look 81 = .ok (.iload_n 1, 1) := by decide +kernel
theorem dX14_look_82 : decode cX14_look 82 = .ok (.invokevirtual 125, 3) := by decide +kernel
theorem dX14_look_85 : decode cX14_look 85 = .ok (.if_icmp .ge 7, 3) := by decide +kernel
theorem dX14_look_88 : decode cX14_look 88 = .ok (.iload_n 2, 1) := by decide +kernel
theorem dX14_look_89 : decode cX14_look 89 = .ok (.goto 4, 3) := by decide +kernel
theorem dX14_look_92 : decode cX14_look 92 = .ok (.iload_n 1, 1) := by decide +kernel
theorem dX14_look_93 : decode cX14_look 93 = .ok (.istore_n 1, 1) := by decide +kernel
theorem dX14_look_94 : decode cX14_look 94 = .ok (.iinc 2 1, 3) := by decide +kernel
theorem dX14_look_97 : decode cX14_look 97 = .ok (.goto (-93), 3) := by decide +kernel
theorem dX14_look_100 : decode cX14_look 100 = .ok (.iload_n 1, 1) := by decide +kernel
theorem dX14_look_101 : decode cX14_look 101 = .ok (.iconst (-1), 1) := by decide +kernel
theorem dX14_look_102 : decode cX14_look 102 = .ok (.if_icmp .ne 9, 3) := by decide +kernel
theorem dX14_look_105 : decode cX14_look 105 = .ok (.aload_n 0, 1) := by decide +kernel
theorem dX14_look_106 : decode cX14_look 106 = .ok (.iconst 1, 1) := by decide +kernel
theorem dX14_look_107 : decode cX14_look 107 = .ok (.invokevirtual 173, 3) := by decide +kernel
theorem dX14_look_110 : decode cX14_look 110 = .ok (.ireturn, 1) := by decide +kernel
theorem dX14_look_111 : decode cX14_look 111 = .ok (.aload_n 0, 1) := by decide +kernel
theorem dX14_look_112 : decode cX14_look 112 = .ok (.iconst 0, 1) := by decide +kernel
theorem dX14_look_113 : decode cX14_look 113 = .ok (.putfield 61, 3) := by decide +kernel
theorem dX14_look_116 : decode cX14_look 116 = .ok (.aload_n 0, 1) := by decide +kernel
theorem dX14_look_117 : decode cX14_look 117 = .ok (.getfield 10, 3) := by decide +kernel
theorem dX14_look_120 : decode cX14_look 120 = .ok (.iload_n 1, 1) := by decide +kernel
theorem dX14_look_121 : decode cX14_look 121 = .ok (.invokevirtual 76, 3) := by decide +kernel
theorem dX14_look_124 : decode cX14_look 124 = .ok (.checkcast 48, 3) := by decide +kernel
theorem dX14_look_127 : decode cX14_look 127 = .ok (.astore_n 2, 1) := by decide +kernel
theorem dX14_look_128 : decode cX14_look 128 = .ok (.aload_n 0, 1) := by decide +kernel
theorem dX14_look_129 : decode cX14_look 129 = .ok (.aload_n 2, 1) := by decide +kernel
theorem dX14_look_130 : decode cX14_look 130 = .ok (.invokevirtual 176, 3) := by decide +kernel
theorem dX14_look_133 : decode cX14_look 133 = .ok (.ifCond .ne 28, 3) := by decide +kernel
theorem dX14_look_136 : decode cX14_look 136 = .ok (.aload_n 2, 1) := by decide +kernel
theorem dX14_look_137 : decode cX14_look 137 = .ok (.bipush 120, 2) := by decide +kernel
theorem dX14_look_139 : decode cX14_look 139 = .ok (.putfield 53, 3) := by decide +kernel
theorem dX14_look_142 : decode cX14_look 142 = .ok (.aload_n 2, 1) := by decide +kernel
theorem dX14_look_143 : decode cX14_look 143 = .ok (.dup, 1) := by decide +kernel
theorem dX14_look_144 : decode cX14_look 144 = .ok (.getfield 180, 3) := by decide +kernel
theorem dX14_look_147 : decode cX14_look 147 = .ok (.iconst 1, 1) := by decide +kernel
theorem dX14_look_148 : decode cX14_look 148 = .ok (.iadd, 1) := by decide +kernel
theorem dX14_look_149 : decode cX14_look 149 = .ok (.putfield 180, 3) := by decide +kernel
theorem dX14_look_152 : decode cX14_look 152 = .ok (.aload_n 0, 1) := by decide +kernel
theorem dX14_look_153 : decode cX14_look 153 = .ok (.iload_n 1, 1) := by decide +kernel
theorem dX14_look_154 : decode cX14_look 154 = .ok (.iconst 0, 1) := by decide +kernel
theorem dX14_look_155 : decode cX14_look 155 = .ok (.invokevirtual 152, 3) := by decide +kernel
theorem dX14_look_158 : decode cX14_look 158 = .ok (.istore_n 3, 1) := by decide +kernel
theorem dX14_look_159 : decode cX14_look 159 = .ok (.iload_n 1, 1) := by decide +kernel
theorem dX14_look_160 : decode cX14_look 160 = .ok (.ireturn, 1) := by decide +kernel
theorem dX14_look_161 : decode cX14_look 161 = .ok (.aload_n 2, 1) := by decide +kernel
theorem dX14_look_162 : decode cX14_look 162 = .ok (.aload_n 0, 1) := by decide +kernel
theorem dX14_look_163 : decode cX14_look 163 = .ok (.invokevirtual 183, 3) := by decide +kernel
theorem dX14_look_166 : decode cX14_look 166 = .ok (.putfield 140, 3) := by decide +kernel
theorem dX14_look_169 : decode cX14_look 169 = .ok (.aload_n 2, 1) := by decide +kernel
theorem dX14_look_170 : decode cX14_look 170 = .ok (.getfield 159, 3) := by decide +kernel
theorem dX14_look_173 : decode cX14_look 173 = .ok (.ifCond .ne 24, 3) := by decide +kernel
theorem dX14_look_176 : decode cX14_look 176 = .ok (.aload_n 2, 1) := by decide +kernel
theorem dX14_look_177 : decode cX14_look 177 = .ok (.getfield 186, 3) := by decide +kernel
theorem dX14_look_180 : decode cX14_look 180 = .ok (.aload_n 0, 1) := by decide +kernel
theorem dX14_look_181 : decode cX14_look 181 = .ok (.aload_n 2, 1) := by decide +kernel
theorem dX14_look_182 : decode cX14_look 182 = .ok (.invokevirtual 189, 3) := by decide +kernel
theorem dX14_look_185 : decode cX14_look 185 = .ok (.if_icmp .le 12, 3) := by decide +kernel
theorem dX14_look_188 : decode cX14_look 188 = .ok (.aload_n 2, 1) := by decide +kernel
theorem dX14_look_189 : decode cX14_look 189 = .ok (.bipush 112, 2) := by decide +kernel
theorem dX14_look_191 : decode cX14_look 191 = .ok (.putfield 53, 3) := by decide +kernel
theorem dX14_look_194 : decode cX14_look 194 = .ok (.goto 18, 3) := by decide +kernel
theorem dX14_look_197 : decode cX14_look 197 = .ok (.aload_n 2, 1) := by decide +kernel
theorem dX14_look_198 : decode cX14_look 198 = .ok (.bipush 99, 2) := by decide +kernel
theorem dX14_look_200 : decode cX14_look 200 = .ok (.putfield 53, 3) := by decide +kernel
theorem dX14_look_203 : decode cX14_look 203 = .ok (.aload_n 2, 1) := by decide +kernel
theorem dX14_look_204 : decode cX14_look 204 = .ok (.aload_n 0, 1) := by decide +kernel
theorem dX14_look_205 : decode cX14_look 205 = .ok (.aload_n 2, 1) := by decide +kernel
theorem dX14_look_206 : decode cX14_look 206 = .ok (.invokevirtual 193, 3) := by decide +kernel
theorem dX14_look_209 : decode cX14_look 209 = .ok (.putfield 143, 3) := by decide +kernel
theorem dX14_look_212 : decode cX14_look 212 = .ok (.iload_n 1, 1) := by decide +kernel
theorem dX14_look_213 : decode cX14_look 213 = .ok (.ireturn, 1) := by decide +kernel
set_option maxRecDepth 20000 in
theorem ggX14_driver_X14_in : GoodIn wsX14_driver wsX14_in := goodIn_r _ [7] (by decide +kernel) (by decide +kernel)
set_option maxRecDepth 20000 in
theorem gX14_driver_X14_in : GoodIn wsX14_driver (va_wsS RX14 68 yX14_in wsX14_in) := goodIn_app (goodIn_of _ (by decide +kernel)) ggX14_driver_X14_in
set_option maxRecDepth 20000 in
theorem ggX14_driver_Jx4a65c_size_8abf5 : GoodIn wsX14_driver wsJx4a65c_size_8abf5 := goodIn_r _ [12, 13, 87, 88, 89] (by decide +kernel) (by decide +kernel)
set_option maxRecDepth 20000 in
theorem gX14_driver_Jx4a65c_size_8abf5 : GoodIn wsX14_driver (wsV RX14 64 RJx4a65c yJx4a65c_size_8abf5 wsJx4a65c_size_8abf5) := goodIn_app (goodIn_of _ (by decide +kernel)) ggX14_driver_Jx4a65c_size_8abf5
set_option maxRecDepth 20000 in
theorem ggX14_driver_Jx4a65c_add_9ea2d : GoodIn wsX14_driver wsJx4a65c_add_9ea2d := goodIn_r _ [17, 18, 19, 20, 13, 21, 22, 23, 11, 24, 25, 26, 27, 28, 29, 30, 31, 32, 33, 34, 35, 36, 37, 38, 39, 40, 41, 42, 43, 44, 45, 46, 47, 48, 49, 50, 51, 52, 53, 54, 55, 56, 57, 58, 59, 60, 61, 62, 63, 64, 65, 66, 67, 87, 88, 89] (by decide +kernel) (by decide +kernel)
set_option maxRecDepth 20000 in
theorem gX14_driver_Jx4a65c_add_9ea2d : GoodIn wsX14_driver (wsV RX14 57 RJx4a65c yJx4a65c_add_9ea2d wsJx4a65c_add_9ea2d) := goodIn_app (goodIn_of _ (by decide +kernel)) ggX14_driver_Jx4a65c_add_9ea2d
theorem dX14_driver_0 : decode cX14_driver 0 = .ok (.aload_n 0, 1) := by decide +kernel
theorem dX14_driver_1 : decode cX14_driver 1 = .ok (.iload_n 1, 1) := by decide +kernel
theorem dX14_driver_2 : decode cX14_driver 2 = .ok (.iconst 0, 1) := by decide +kernel
theorem dX14_driver_3 : decode cX14_driver 3 = .ok (.bipush 9, 2) := by decide +kernel
theorem dX14_driver_5 : decode cX14_driver 5 = .ok (.invokestatic 68, 3) := by decide +kernel
theorem dX14_driver_8 : decode cX14_driver 8 = .ok (.ifCond .eq 13, 3) := by decide +kernel
theorem dX14_driver_11 : decode cX14_driver 11 = .ok (.iload_n 2, 1) := by decide +kernel
theorem dX14_driver_12 : decode cX14_driver 12 = .ok (.iconst (-1), 1) := by decide +kernel
theorem dX14_driver_13 : decode cX14_driver 13 = .ok (.bipush 9, 2) := by decide +kernel
theorem dX14_driver_15 : decode cX14_driver 15 = .ok (.invokestatic 68, 3) := by decide +kernel
theorem dX14_driver_18 : decode cX14_driver 18 = .ok (.ifCond .ne 7, 3) := by decide +kernel
theorem dX14_driver_21 : decode cX14_driver 21 = .ok (.iconst 1, 1) := by decide +kernel
theorem dX14_driver_22 : decode cX14_driver 22 = .ok (.goto 20, 3) := by decide +kernel
theorem dX14_driver_25 : decode cX14_driver 25 = .ok (.aload_n 0, 1) := by decide +kernel
theorem dX14_driver_26 : decode cX14_driver 26 = .ok (.getfield 22, 3) := by decide +kernel
theorem dX14_driver_29 : decode cX14_driver 29 = .ok (.invokevirtual 64, 3) := by decide +kernel
theorem dX14_driver_32 : decode cX14_driver 32 = .ok (.bipush 8, 2) := by decide +kernel
theorem dX14_driver_34 : decode cX14_driver 34 = .ok (.if_icmp .ne 7, 3) := by decide +kernel
theorem dX14_driver_37 : decode cX14_driver 37 = .ok (.iconst 2, 1) := by decide +kernel
theorem dX14_driver_38 : decode cX14_driver 38 = .ok (.goto 4, 3) := by decide +kernel
theorem dX14_driver_41 : decode cX14_driver 41 = .ok (.iconst 0, 1) := by decide +kernel
theorem dX14_driver_42 : decode cX14_driver 42 = .ok (.putfield 61, 3) := by decide +kernel
theorem dX14_driver_45 : decode cX14_driver 45 = .ok (.aload_n 0, 1) := by decide +kernel
theorem dX14_driver_46 : decode cX14_driver 46 = .ok (.getfield 61, 3) := by decide +kernel
theorem dX14_driver_49 : decode cX14_driver 49 = .ok (.ifCond .le 5, 3) := by decide +kernel
theorem dX14_driver_52 : decode cX14_driver 52 = .ok (.iconst 0, 1) := by decide +kernel
theorem dX14_driver_53 : decode cX14_driver 53 = .ok (.ireturn, 1) := by decide +kernel
theorem dX14_driver_54 : decode cX14_driver 54 = .ok (.aload_n 0, 1) := by decide +kernel
theorem dX14_driver_55 : decode cX14_driver 55 = .ok (.getfield 22, 3) := by decide +kernel
theorem dX14_driver_58 : decode cX14_driver 58 = .ok (.iconst 2, 1) := by decide +kernel
theorem dX14_driver_59 : decode cX14_driver 59 = .ok (.newarray .int, 2) := by decide +kernel
theorem dX14_driver_61 : decode cX14_driver 61 = .ok (.dup, 1) := by decide +kernel
theorem dX14_driver_62 : decode cX14_driver 62 = .ok (.iconst 0, 1) := by decide +kernel
theorem dX14_driver_63 : decode cX14_driver 63 = .ok (.iload_n 1, 1) := by decide +kernel
theorem dX14_driver_64 : decode cX14_driver 64 = .ok (.iastore, 1) := by decide +kernel
theorem dX14_driver_65 : decode cX14_driver 65 = .ok (.dup, 1) := by decide +kernel
theorem dX14_driver_66 : decode cX14_driver 66 = .ok (.iconst 1, 1) := by decide +kernel
theorem dX14_driver_67 : decode cX14_driver 67 = .ok (.iload_n 2, 1) := by decide +kernel
theorem dX14_driver_68 : decode cX14_driver 68 = .ok (.iastore, 1) := by decide +kernel
theorem dX14_driver_69 : decode cX14_driver 69 = .ok (.invokevirtual 57, 3) := by decide +kernel
theorem dX14_driver_72 : decode cX14_driver 72 = .ok (.pop, 1) := by decide +kernel
theorem dX14_driver_73 : decode cX14_driver 73 = .ok (.aload_n 0, 1) := by decide +kernel
theorem dX14_driver_74 : decode cX14_driver 74 = .ok (.getfield 22, 3) := by decide +kernel
theorem dX14_driver_77 : decode cX14_driver 77 = .ok (.invokevirtual 64, 3) := by decide +kernel
theorem dX14_driver_80 : decode cX14_driver 80 = .ok (.iconst 1, 1) := by decide +kernel
theorem dX14_driver_81 : decode cX14_driver 81 = .ok (.isub, 1) := by decide +kernel
theorem dX14_driver_82 : decode cX14_driver 82 = .ok (.ireturn, 1) := by decide +kernel
set_option maxRecDepth 20000 in
theorem ggX14_driverOf_X14_noDevice : GoodIn wsX14_driverOf wsX14_noDevice := goodIn_r _ [7, 8, 9, 10, 11, 6, 12, 1, 13, 14, 15, 16, 17, 18, 19, 20, 21, 39, 40, 41, 42, 43, 44, 45, 46, 47, 48, 49, 50, 51, 52, 53, 54, 55, 56, 57, 74, 75, 76] (by decide +kernel) (by decide +kernel)
set_option maxRecDepth 20000 in
theorem gX14_driverOf_X14_noDevice : GoodIn wsX14_driverOf (wsV RX14 90 RX14 yX14_noDevice wsX14_noDevice) := goodIn_app (goodIn_of _ (by decide +kernel)) ggX14_driverOf_X14_noDevice
set_option maxRecDepth 20000 in
theorem ggX14_driverOf_Jx4a65c_get_915e3 : GoodIn wsX14_driverOf wsJx4a65c_get_915e3 := goodIn_r _ [25, 18, 26, 27, 28, 29, 30, 31, 32, 33, 34, 35, 36, 16, 37, 38, 74, 75, 76] (by decide +kernel) (by decide +kernel)
set_option maxRecDepth 20000 in
theorem gX14_driverOf_Jx4a65c_get_915e3 : GoodIn wsX14_driverOf (wsV RX14 76 RJx4a65c yJx4a65c_get_915e3 wsJx4a65c_get_915e3) := goodIn_app (goodIn_of _ (by decide +kernel)) ggX14_driverOf_Jx4a65c_get_915e3
theorem dX14_driverOf_0 : decode cX14_driverOf 0 = .ok (.aload_n 0, 1) := by decide +kernel
theorem dX14_driverOf_1 : decode cX14_driverOf 1 = .ok (.iload_n 1, 1) := by decide +kernel
theorem dX14_driverOf_2 : decode cX14_driverOf 2 = .ok (.invokevirtual 90, 3) := by decide +kernel
theorem dX14_driverOf_5 : decode cX14_driverOf 5 = .ok (.ifCond .eq 7, 3) := by decide +kernel
theorem dX14_driverOf_8 : decode cX14_driverOf 8 = .ok (.iconst 0, 1) := by decide +kernel
theorem dX14_driverOf_9 : decode cX14_driverOf 9 = .ok (.goto 17, 3) := by decide +kernel
theorem dX14_driverOf_12 : decode cX14_driverOf 12 = .ok (.aload_n 0, 1) := by decide +kernel
theorem dX14_driverOf_13 : decode cX14_driverOf 13 = .ok (.getfield 10, 3) := by decide +kernel
theorem dX14_driverOf_16 : decode cX14_driverOf 16 = .ok (.iload_n 1, 1) := by decide +kernel
theorem dX14_driverOf_17 : decode cX14_driverOf 17 = .ok (.invokevirtual 76, 3) := by decide +kernel
theorem dX14_driverOf_20 : decode cX14_driverOf 20 = .ok (.checkcast 48, 3) := by decide +kernel
theorem dX14_driverOf_23 : decode cX14_driverOf 23 = .ok (.getfield 143, 3) := by decide +kernel
theorem dX14_driverOf_26 : decode cX14_driverOf 26 = .ok (.ireturn, 1) := by decide +kernel
set_option maxRecDepth 20000 in
theorem ggX14_draw_X14_isOther : GoodIn wsX14_draw wsX14_isOther := goodIn_r _ [8, 9, 10, 11, 7, 12, 2, 13, 14, 15, 16, 17, 18, 19, 20, 21, 39, 40, 41, 42, 43, 44, 45, 46, 47, 48, 49, 50, 51, 52, 53, 54, 55, 56, 57, 74, 75, 76] (by decide +kernel) (by decide +kernel)
set_option maxRecDepth 20000 in
theorem gX14_draw_X14_isOther : GoodIn wsX14_draw (wsV RX14 149 RX14 yX14_isOther wsX14_isOther) := goodIn_app (goodIn_of _ (by decide +kernel)) ggX14_draw_X14_isOther
set_option maxRecDepth 20000 in
theorem ggX14_draw_X14_in : GoodIn wsX14_draw wsX14_in := goodIn_r _ [21] (by decide +kernel) (by decide +kernel)
set_option maxRecDepth 20000 in
theorem gX14_draw_X14_in : GoodIn wsX14_draw (va_wsS RX14 68 yX14_in wsX14_in) := goodIn_app (goodIn_of _ (by decide +kernel)) ggX14_draw_X14_in
set_option maxRecDepth 20000 in
theorem ggX14_draw_Jx4a65c_get_915e3 : GoodIn wsX14_draw wsJx4a65c_get_915e3 := goodIn_r _ [25, 18, 26, 27, 28, 29, 30, 31, 32, 33, 34, 35, 36, 16, 37, 38, 74, 75, 76] (by decide +kernel) (by decide +kernel)
set_option maxRecDepth 20000 in
theorem gX14_draw_Jx4a65c_get_915e3 : GoodIn wsX14_draw (wsV RX14 76 RJx4a65c yJx4a65c_get_915e3 wsJx4a65c_get_915e3) := goodIn_app (goodIn_of _ (by decide +kernel)) ggX14_draw_Jx4a65c_get_915e3
theorem dX14_draw_0 : decode cX14_draw 0 = .ok (.aload_n 0, 1) := by decide +kernel
theorem dX14_draw_1 : decode cX14_draw 1 = .ok (.aload_n 0, 1) := by decide +kernel
theorem dX14_draw_2 : decode cX14_draw 2 = .ok (.iload_n 1, 1) := by decide +kernel
theorem dX14_draw_3 : decode cX14_draw 3 = .ok (.invokevirtual 149, 3) := by decide +kernel
theorem dX14_draw_6 : decode cX14_draw 6 = .ok (.ifCond .ne 7, 3) := by decide +kernel
theorem dX14_draw_9 : decode cX14_draw 9 = .ok (.iconst 1, 1) := by decide +kernel
theorem dX14_draw_10 : decode cX14_draw 10 = .ok (.goto 18, 3) := by decide +kernel
theorem dX14_draw_13 : decode cX14_draw 13 = .ok (.iload_n 2, 1) := by decide +kernel
theorem dX14_draw_14 : decode cX14_draw 14 = .ok (.iconst 0, 1) := by decide +kernel
theorem dX14_draw_15 : decode cX14_draw 15 = .ok (.bipush 9, 2) := by decide +kernel
theorem dX14_draw_17 : decode cX14_draw 17 = .ok (.invokestatic 68, 3) := by decide +kernel
theorem dX14_draw_20 : decode cX14_draw 20 = .ok (.ifCond .ne 7, 3) := by decide +kernel
theorem dX14_draw_23 : decode cX14_draw 23 = .ok (.iconst 2, 1) := by decide +kernel
theorem dX14_draw_24 : decode cX14_draw 24 = .ok (.goto 4, 3) := by decide +kernel
theorem dX14_draw_27 : decode cX14_draw 27 = .ok (.iconst 0, 1) := by decide +kernel
theorem dX14_draw_28 : decode cX14_draw 28 = .ok (.putfield 61, 3) := by decide +kernel
theorem dX14_draw_31 : decode cX14_draw 31 = .ok (.aload_n 0, 1) := by decide +kernel
theorem dX14_draw_32 : decode cX14_draw 32 = .ok (.getfield 61, 3) := by decide +kernel
theorem dX14_draw_35 : decode cX14_draw 35 = .ok (.ifCond .le 5, 3) := by decide +kernel
theorem dX14_draw_38 : decode cX14_draw 38 = .ok (.iconst 0, 1) := by decide +kernel
theorem dX14_draw_39 : decode cX14_draw 39 = .ok (.ireturn, 1) := by decide +kernel
theorem dX14_draw_40 : decode cX14_draw 40 = .ok (.aload_n 0, 1) := by decide +kernel
theorem dX14_draw_41 : decode cX14_draw 41 = .ok (.getfield 10, 3) := by decide +kernel
theorem dX14_draw_44 : decode cX14_draw 44 = .ok (.iload_n 1, 1) := by decide +kernel
theorem dX14_draw_45 : decode cX14_draw 45 = .ok (.invokevirtual 76, 3) := by decide +kernel
theorem dX14_draw_48 : decode cX14_draw 48 = .ok (.checkcast 48, 3) := by decide +kernel
theorem dX14_draw_51 : decode cX14_draw 51 = .ok (.getfield 196, 3) := by decide +kernel
theorem dX14_draw_54 : decode cX14_draw 54 = .ok (.istore_n 3, 1) := by decide +kernel
theorem dX14_draw_55 : decode cX14_draw 55 = .ok (.aload_n 0, 1) := by decide +kernel
theorem dX14_draw_56 : decode cX14_draw 56 = .ok (.getfield 10, 3) := by decide +kernel
theorem dX14_draw_59 : decode cX14_draw 59 = .ok (.iload_n 1, 1) := by decide +kernel
theorem dX14_draw_60 : decode cX14_draw 60 = .ok (.invokevirtual 76, 3) := by decide +kernel
theorem dX14_draw_63 : decode cX14_draw 63 = .ok (.checkcast 48, 3) := by decide +kernel
theorem dX14_draw_66 : decode cX14_draw 66 = .ok (.iload_n 2, 1) := by decide +kernel
theorem dX14_draw_67 : decode cX14_draw 67 = .ok (.putfield 196, 3) := by decide +kernel
theorem dX14_draw_70 : decode cX14_draw 70 = .ok (.iload_n 3, 1) := by decide +kernel
theorem dX14_draw_71 : decode cX14_draw 71 = .ok (.ireturn, 1) := by decide +kernel
set_option maxRecDepth 20000 in
theorem ggX14_sleep_X14_isOther : GoodIn wsX14_sleep wsX14_isOther := goodIn_r _ [9, 10, 11, 12, 8, 13, 1, 14, 15, 16, 17, 18, 19, 20, 21, 22, 48, 49, 50, 51, 52, 53, 54, 55, 56, 57, 58, 59, 60, 61, 62, 63, 64, 65, 66, 93, 94, 95] (by decide +kernel) (by decide +kernel)
set_option maxRecDepth 20000 in
theorem gX14_sleep_X14_isOther : GoodIn wsX14_sleep (wsV RX14 149 RX14 yX14_isOther wsX14_isOther) := goodIn_app (goodIn_of _ (by decide +kernel)) ggX14_sleep_X14_isOther
set_option maxRecDepth 20000 in
theorem ggX14_sleep_Jx4a65c_get_915e3 : GoodIn wsX14_sleep wsJx4a65c_get_915e3 := goodIn_r _ [26, 19, 27, 28, 29, 30, 31, 32, 33, 34, 35, 36, 37, 17, 38, 39, 93, 94, 95] (by decide +kernel) (by decide +kernel)
set_option maxRecDepth 20000 in
theorem gX14_sleep_Jx4a65c_get_915e3 : GoodIn wsX14_sleep (wsV RX14 76 RJx4a65c yJx4a65c_get_915e3 wsJx4a65c_get_915e3) := goodIn_app (goodIn_of _ (by decide +kernel)) ggX14_sleep_Jx4a65c_get_915e3
set_option maxRecDepth 20000 in
theorem ggX14_sleep_Jx4a65c_isEmpty_aae02 : GoodIn wsX14_sleep wsJx4a65c_isEmpty_aae02 := goodIn_r _ [43, 19, 93, 94, 95] (by decide +kernel) (by decide +kernel)
set_option maxRecDepth 20000 in
theorem gX14_sleep_Jx4a65c_isEmpty_aae02 : GoodIn wsX14_sleep (wsV RX14 202 RJx4a65c yJx4a65c_isEmpty_aae02 wsJx4a65c_isEmpty_aae02) := goodIn_app (goodIn_of _ (by decide +kernel)) ggX14_sleep_Jx4a65c_isEmpty_aae02
set_option maxRecDepth 20000 in
theorem ggX14_sleep_X14_isBelow : GoodIn wsX14_sleep wsX14_isBelow := goodIn_r _ [47, 1, 2, 23, 24, 25, 17, 26, 19, 27, 28, 29, 30, 31, 32, 33, 34, 35, 36, 37, 38, 39, 48, 49, 50, 51, 52, 53, 54, 55, 56, 57, 58, 59, 60, 61, 62, 63, 64, 65, 66, 67, 68, 69, 70, 71, 72, 73, 74, 75, 76, 77, 78, 79, 80, 81, 82, 93, 94, 95] (by decide +kernel) (by decide +kernel)
set_option maxRecDepth 20000 in
theorem gX14_sleep_X14_isBelow : GoodIn wsX14_sleep (wsV RX14 129 RX14 yX14_isBelow wsX14_isBelow) := goodIn_app (goodIn_of _ (by decide +kernel)) ggX14_sleep_X14_isBelow
set_option maxRecDepth 20000 in
theorem ggX14_sleep_Jx4a65c_size_8abf5 : GoodIn wsX14_sleep wsJx4a65c_size_8abf5 := goodIn_r _ [18, 19, 93, 94, 95] (by decide +kernel) (by decide +kernel)
set_option maxRecDepth 20000 in
theorem gX14_sleep_Jx4a65c_size_8abf5 : GoodIn wsX14_sleep (wsV RX14 64 RJx4a65c yJx4a65c_size_8abf5 wsJx4a65c_size_8abf5) := goodIn_app (goodIn_of _ (by decide +kernel)) ggX14_sleep_Jx4a65c_size_8abf5
theorem dX14_sleep_0 : decode cX14_sleep 0 = .ok (.aload_n 0, 1) := by decide +kernel
theorem dX14_sleep_1 : decode cX14_sleep 1 = .ok (.aload_n 0, 1) := by decide +kernel
theorem dX14_sleep_2 : decode cX14_sleep 2 = .ok (.iload_n 1, 1) := by decide +kernel
theorem dX14_sleep_3 : decode cX14_sleep 3 = .ok (.invokevirtual 149, 3) := by decide +kernel
theorem dX14_sleep_6 : decode cX14_sleep 6 = .ok (.ifCond .ne 7, 3) := by decide +kernel
theorem dX14_sleep_9 : decode cX14_sleep 9 = .ok (.iconst 1, 1) := by decide +kernel
theorem dX14_sleep_10 : decode cX14_sleep 10 = .ok (.goto 27, 3) := by decide +kernel
theorem dX14_sleep_13 : decode cX14_sleep 13 = .ok (.aload_n 0, 1) := by decide +kernel
theorem dX14_sleep_14 : decode cX14_sleep 14 = .ok (.getfield 10, 3) := by decide +kernel
theorem dX14_sleep_17 : decode cX14_sleep 17 = .ok (.iload_n 1, 1) := by decide +kernel
theorem dX14_sleep_18 : decode cX14_sleep 18 = .ok (.invokevirtual 76, 3) := by decide +kernel
theorem dX14_sleep_21 : decode cX14_sleep 21 = .ok (.checkcast 48, 3) := by decide +kernel
theorem dX14_sleep_24 : decode cX14_sleep 24 = .ok (.getfield 53, 3) := by decide +kernel
theorem dX14_sleep_27 : decode cX14_sleep 27 = .ok (.bipush 99, 2) := by decide +kernel
theorem dX14_sleep_29 : decode cX14_sleep 29 = .ok (.if_icmp .eq 7, 3) := by decide +kernel
theorem dX14_sleep_32 : decode cX14_sleep 32 = .ok (.iconst 2, 1) := by decide +kernel
theorem dX14_sleep_33 : decode cX14_sleep 33 = .ok (.goto 4, 3) := by decide +kernel
theorem dX14_sleep_36 : decode cX14_sleep 36 = .ok (.iconst 0, 1) := by decide +kernel
theorem dX14_sleep_37 : decode cX14_sleep 37 = .ok (.putfield 61, 3) := by decide +kernel
theorem dX14_sleep_40 : decode cX14_sleep 40 = .ok (.aload_n 0, 1) := by decide +kernel
theorem dX14_sleep_41 : decode cX14_sleep 41 = .ok (.getfield 18, 3) := by decide +kernel
theorem dX14_sleep_44 : decode cX14_sleep 44 = .ok (.astore_n 2, 1) := by decide +kernel
theorem dX14_sleep_45 : decode cX14_sleep 45 = .ok (.aload_n 2, 1) := by decide +kernel
theorem dX14_sleep_46 : decode cX14_sleep 46 = .ok (.arraylength, 1) := by decide +kernel
theorem dX14_sleep_47 : decode cX14_sleep 47 = .ok (.istore_n 3, 1) := by decide +kernel
theorem dX14_sleep_48 : decode cX14_sleep 48 = .ok (.iconst 0, 1) := by decide +kernel
theorem dX14_sleep_49 : decode cX14_sleep 49 = .ok (.istore 4, 2) := by decide +kernel
theorem dX14_sleep_51 : decode cX14_sleep 51 = .ok (.iload 4, 2) := by decide +kernel
theorem dX14_sleep_53 : decode cX14_sleep 53 = .ok (.iload_n 3, 1) := by decide +kernel
theorem dX14_sleep_54 : decode cX14_sleep 54 = .ok (.if_icmp .ge 75, 3) := by decide +kernel
theorem dX14_sleep_57 : decode cX14_sleep 57 = .ok (.aload_n 2, 1) := by decide +kernel
theorem dX14_sleep_58 : decode cX14_sleep 58 = .ok (.iload 4, 2) := by decide +kernel
theorem dX14_sleep_60 : decode cX14_sleep 60 = .ok (.aaload, 1) := by decide +kernel
theorem dX14_sleep_61 : decode cX14_sleep 61 = .ok (.astore 5, 2) := by decide +kernel
theorem dX14_sleep_63 : decode cX14_sleep 63 = .ok (.aload_n 0, 1) := by decide +kernel
theorem dX14_sleep_64 : decode cX14_sleep 64 = .ok (.getfield 61, 3) := by decide +kernel
theorem dX14_sleep_67 : decode cX14_sleep 67 = .ok (.ifCond .ne 36, 3) := by decide +kernel
theorem dX14_sleep_70 : decode cX14_sleep 70 = .ok (.aload 5, 2) := by decide +kernel
theorem dX14_sleep_72 : decode cX14_sleep 72 = .ok (.ifnull 31, 3) := by decide +kernel
theorem dX14_sleep_75 : decode cX14_sleep 75 = .ok (.aload 5, 2) := by decide +kernel
theorem dX14_sleep_77 : decode cX14_sleep 77 = .ok (.getfield 199, 3) := by decide +kernel
theorem dX14_sleep_80 : decode cX14_sleep 80 = .ok (.invokevirtual 202, 3) := by decide +kernel
theorem dX14_sleep_83 : decode cX14_sleep 83 = .ok (.ifCond .ne 20, 3) := by decide +kernel
theorem dX14_sleep_86 : decode cX14_sleep 86 = .ok (.aload_n 0, 1) := by decide +kernel
theorem dX14_sleep_87 : decode cX14_sleep 87 = .ok (.aload 5, 2) := by decide +kernel
theorem dX14_sleep_89 : decode cX14_sleep 89 = .ok (.getfield 133, 3) := by decide +kernel
theorem dX14_sleep_92 : decode cX14_sleep 92 = .ok (.iload_n 1, 1) := by decide +kernel
theorem dX14_sleep_93 : decode cX14_sleep 93 = .ok (.invokevirtual 129, 3) := by decide +kernel
theorem dX14_sleep_96 : decode cX14_sleep 96 = .ok (.ifCond .eq 7, 3) := by decide +kernel
theorem dX14_sleep_99 : decode cX14_sleep 99 = .ok (.iconst 1, 1) := by decide +kernel
theorem dX14_sleep_100 : decode cX14_sleep 100 = .ok (.goto 4, 3) := by decide +kernel
theorem dX14_sleep_103 : decode cX14_sleep 103 = .ok (.iconst 0, 1) := by decide +kernel
theorem dX14_sleep_104 : decode cX14_sleep 104 = .ok (.istore 6, 2) := by decide +kernel
theorem dX14_sleep_106 : decode cX14_sleep 106 = .ok (.aload_n 0, 1) := by decide +kernel
theorem dX14_sleep_107 : decode cX14_sleep 107 = .ok (.iload 6, 2) := by decide +kernel
theorem dX14_sleep_109 : decode cX14_sleep 109 = .ok (.ifCond .eq 7, 3) := by decide +kernel
theorem dX14_sleep_112 : decode cX14_sleep 112 = .ok (.iconst 2, 1) := by decide +kernel
theorem dX14_sleep_113 : decode cX14_sleep 113 = .ok (.goto 7, 3) := by decide +kernel
theorem dX14_sleep_116 : decode cX14_sleep 116 = .ok (.aload_n 0, 1) := by decide +kernel
theorem dX14_sleep_117 : decode cX14_sleep 117 = .ok (.getfield 61, 3) := by decide +kernel
theorem dX14_sleep_120 : decode cX14_sleep 120 = .ok (.putfield 61, 3) := by decide +kernel
theorem dX14_sleep_123 : decode cX14_sleep 123 = .ok (.iinc 4 1, 3) := by decide +kernel
theorem dX14_sleep_126 : decode cX14_sleep 126 = .ok (.goto (-75), 3) := by decide +kernel
theorem dX14_sleep_129 : decode cX14_sleep 129 = .ok (.iconst 0, 1) := by decide +kernel
theorem dX14_sleep_130 : decode cX14_sleep 130 = .ok (.istore_n 2, 1) := by decide +kernel
theorem dX14_sleep_131 : decode cX14_sleep 131 = .ok (.iconst 0, 1) := by decide +kernel
theorem dX14_sleep_132 : decode cX14_sleep 132 = .ok (.istore_n 3, 1) := by decide +kernel
theorem dX14_sleep_133 : decode cX14_sleep 133 = .ok (.iload_n 3, 1) := by decide +kernel
theorem dX14_sleep_134 : decode cX14_sleep 134 = .ok (.aload_n 0, 1) := by decide +kernel
theorem dX14_sleep_135 : decode cX14_sleep 135 = .ok (.getfield 10, 3) := by decide +kernel
theorem dX14_sleep_138 : decode cX14_sleep 138 = .ok (.invokevirtual 64, 3) := by decide +kernel
theorem dX14_sleep_141 : decode cX14_sleep 141 = .ok (.if_icmp .ge 63, 3) := by decide +kernel
theorem dX14_sleep_144 : decode cX14_sleep 144 = .ok (.aload_n 0, 1) := by decide +kernel
theorem dX14_sleep_145 : decode cX14_sleep 145 = .ok (.getfield 61, 3) := by decide +kernel
theorem dX14_sleep_148 : decode cX14_sleep 148 = .ok (.ifCond .ne 56, 3) := by decide +kernel
theorem dX14_sleep_151 : decode cX14_sleep 151 = .ok (.aload_n 0, 1) := by decide +kernel
theorem dX14_sleep_152 : decode cX14_sleep 152 = .ok (.getfield 10, 3) := by decide +kernel
theorem dX14_sleep_155 : decode cX14_sleep 155 = .ok (.iload_n 3, 1) := by decide +kernel
theorem dX14_sleep_156 : decode cX14_sleep 156 = .ok (.invokevirtual 76, 3) := by decide +kernel
theorem dX14_sleep_159 : decode cX14_sleep 159 = .ok (.checkcast 48, 3) := by decide +kernel
theorem dX14_sleep_162 : decode cX14_sleep 162 = .ok (.getfield 53, 3) := by decide +kernel
theorem dX14_sleep_165 : decode cX14_sleep 165 = .ok (.bipush 99, 2) := by decide +kernel
theorem dX14_sleep_167 : decode cX14_sleep 167 = .ok (.if_icmp .ne 31, 3) := by decide +kernel
theorem dX14_sleep_170 : decode cX14_sleep 170 = .ok (.aload_n 0, 1) := by decide +kernel
theorem dX14_sleep_171 : decode cX14_sleep 171 = .ok (.iload_n 3, 1) := by decide +kernel
theorem dX14_sleep_172 : decode cX14_sleep 172 = .ok (.iload_n 1, 1) := by decide +kernel
theorem dX14_sleep_173 : decode cX14_sleep 173 = .ok (.invokevirtual 129, 3) := by decide +kernel
theorem dX14_sleep_176 : decode cX14_sleep 176 = .ok (.ifCond .eq 22, 3) := by decide +kernel
theorem dX14_sleep_179 : decode cX14_sleep 179 = .ok (.aload_n 0, 1) := by decide +kernel
theorem dX14_sleep_180 : decode cX14_sleep 180 = .ok (.getfield 10, 3) := by decide +kernel
theorem dX14_sleep_183 : decode cX14_sleep 183 = .ok (.iload_n 3, 1) := by decide +kernel
theorem dX14_sleep_184 : decode cX14_sleep 184 = .ok (.invokevirtual 76, 3) := by decide +kernel
theorem dX14_sleep_187 : decode cX14_sleep 187 = .ok (.checkcast 48, 3) := by decide +kernel
theorem dX14_sleep_190 : decode cX14_sleep 190 = .ok (.bipush 122, 2) := by decide +kernel
theorem dX14_sleep_192 : decode cX14_sleep 192 = .ok (.putfield 53, 3) := by decide +kernel
theorem dX14_sleep_195 : decode cX14_sleep 195 = .ok (.iinc 2 1, 3) := by decide +kernel
theorem dX14_sleep_198 : decode cX14_sleep 198 = .ok (.iinc 3 1, 3) := by decide +kernel
theorem dX14_sleep_201 : decode cX14_sleep 201 = .ok (.goto (-68), 3) := by decide +kernel
theorem dX14_sleep_204 : decode cX14_sleep 204 = .ok (.iload_n 2, 1) := by decide +kernel
theorem dX14_sleep_205 : decode cX14_sleep 205 = .ok (.ireturn, 1) := by decide +kernel
set_option maxRecDepth 20000 in
theorem ggX14_wake_X14_noDevice : GoodIn wsX14_wake wsX14_noDevice := goodIn_r _ [9, 3, 10, 11, 12, 8, 13, 1, 14, 15, 16, 17, 18, 19, 20, 21, 22, 40, 41, 42, 43, 44, 45, 46, 47, 48, 49, 50, 51, 52, 53, 54, 55, 56, 57, 58, 75, 76, 77] (by decide +kernel) (by decide +kernel)
set_option maxRecDepth 20000 in
theorem gX14_wake_X14_noDevice : GoodIn wsX14_wake (wsV RX14 90 RX14 yX14_noDevice wsX14_noDevice) := goodIn_app (goodIn_of _ (by decide +kernel)) ggX14_wake_X14_noDevice
set_option maxRecDepth 20000 in
theorem ggX14_wake_Jx4a65c_get_915e3 : GoodIn wsX14_wake wsJx4a65c_get_915e3 := goodIn_r _ [26, 19, 27, 28, 29, 30, 31, 32, 33, 34, 35, 36, 37, 17, 38, 39, 75, 76, 77] (by decide +kernel) (by decide +kernel)
set_option maxRecDepth 20000 in
theorem gX14_wake_Jx4a65c_get_915e3 : GoodIn wsX14_wake (wsV RX14 76 RJx4a65c yJx4a65c_get_915e3 wsJx4a65c_get_915e3) := goodIn_app (goodIn_of _ (by decide +kernel)) ggX14_wake_Jx4a65c_get_915e3
theorem dX14_wake_0 : decode cX14_wake 0 = .ok (.aload_n 0, 1) := by decide +kernel
theorem dX14_wake_1 : decode cX14_wake 1 = .ok (.iload_n 1, 1) := by decide +kernel
theorem dX14_wake_2 : decode cX14_wake 2 = .ok (.invokevirtual 90, 3) := by decide +kernel
theorem dX14_wake_5 : decode cX14_wake 5 = .ok (.ifCond .eq 5, 3) := by decide +kernel
theorem dX14_wake_8 : decode cX14_wake 8 = .ok (.iconst 0, 1) := by decide +kernel
theorem dX14_wake_9 : decode cX14_wake 9 = .ok (.ireturn, 1) := by decide +kernel
theorem dX14_wake_10 : decode cX14_wake 10 = .ok (.aload_n 0, 1) := by decide +kernel
theorem dX14_wake_11 : decode cX14_wake 11 = .ok (.aload_n 0, 1) := by decide +kernel
theorem dX14_wake_12 : decode cX14_wake 12 = .ok (.getfield 10, 3) := by decide +kernel
theorem dX14_wake_15 : decode cX14_wake 15 = .ok (.iload_n 1, 1) := by decide +kernel
theorem dX14_wake_16 : decode cX14_wake 16 = .ok (.invokevirtual 76, 3) := by decide +kernel
theorem dX14_wake_19 : decode cX14_wake 19 = .ok (.checkcast 48, 3) := by decide +kernel
theorem dX14_wake_22 : decode cX14_wake 22 = .ok (.getfield 53, 3) := by decide +kernel
theorem dX14_wake_25 : decode cX14_wake 25 = .ok (.bipush 122, 2) := by decide +kernel
theorem dX14_wake_27 : decode cX14_wake 27 = .ok (.if_icmp .ne 7, 3) := by decide +kernel
theorem dX14_wake_30 : decode cX14_wake 30 = .ok (.iconst 0, 1) := by decide +kernel
theorem dX14_wake_31 : decode cX14_wake 31 = .ok (.goto 4, 3) := by decide +kernel
theorem dX14_wake_34 : decode cX14_wake 34 = .ok (.iconst 2, 1) := by decide +kernel
theorem dX14_wake_35 : decode cX14_wake 35 = .ok (.putfield 61, 3) := by decide +kernel
theorem dX14_wake_38 : decode cX14_wake 38 = .ok (.iconst 0, 1) := by decide +kernel
theorem dX14_wake_39 : decode cX14_wake 39 = .ok (.istore_n 2, 1) := by decide +kernel
theorem dX14_wake_40 : decode cX14_wake 40 = .ok (.iload_n 1, 1) := by decide +kernel
theorem dX14_wake_41 : decode cX14_wake 41 = .ok (.istore_n 3, 1) := by decide +kernel
theorem dX14_wake_42 : decode cX14_wake 42 = .ok (.iload_n 3, 1) := by decide +kernel
theorem dX14_wake_43 : decode cX14_wake 43 = .ok (.iconst (-1), 1) := by decide +kernel
theorem dX14_wake_44 : decode cX14_wake 44 = .ok (.if_icmp .eq 55, 3) := by decide +kernel
theorem dX14_wake_47 : decode cX14_wake 47 = .ok (.aload_n 0, 1) := by decide +kernel
theorem dX14_wake_48 : decode cX14_wake 48 = .ok (.getfield 61, 3) := by decide +kernel
theorem dX14_wake_51 : decode cX14_wake 51 = .ok (.ifCond .ne 48, 3) := by decide +kernel
theorem dX14_wake_54 : decode cX14_wake 54 = .ok (.iload_n 2, 1) := by decide +kernel
theorem dX14_wake_55 : decode cX14_wake 55 = .ok (.aload_n 0, 1) := by decide +kernel
theorem dX14_wake_56 : decode cX14_wake 56 = .ok (.getfield 10, 3) := by decide +kernel
theorem dX14_wake_59 : decode cX14_wake 59 = .ok (.iload_n 3, 1) := by decide +kernel
theorem dX14_wake_60 : decode cX14_wake 60 = .ok (.invokevirtual 76, 3) := by decide +kernel
theorem dX14_wake_63 : decode cX14_wake 63 = .ok (.checkcast 48, 3) := by decide +kernel
theorem dX14_wake_66 : decode cX14_wake 66 = .ok (.getfield 53, 3) := by decide +kernel
theorem dX14_wake_69 : decode cX14_wake 69 = .ok (.bipush 122, 2) := by decide +kernel
theorem dX14_wake_71 : decode cX14_wake 71 = .ok (.if_icmp .ne 7, 3) := by decide +kernel
theorem dX14_wake_74 : decode cX14_wake 74 = .ok (.iconst 1, 1) := by decide +kernel
theorem dX14_wake_75 : decode cX14_wake 75 = .ok (.goto 4, 3) := by decide +kernel
theorem dX14_wake_78 : decode cX14_wake 78 = .ok (.iconst 0, 1) := by decide +kernel
theorem dX14_wake_79 : decode cX14_wake 79 = .ok (.iadd, 1) := by decide +kernel
theorem dX14_wake_80 : decode cX14_wake 80 = .ok (.istore_n 2, 1) := by decide +kernel
theorem dX14_wake_81 : decode cX14_wake 81 = .ok (.aload_n 0, 1) := by decide +kernel
theorem dX14_wake_82 : decode cX14_wake 82 = .ok (.getfield 10, 3) := by decide +kernel
theorem dX14_wake_85 : decode cX14_wake 85 = .ok (.iload_n 3, 1) := by decide +kernel
theorem dX14_wake_86 : decode cX14_wake 86 = .ok (.invokevirtual 76, 3) := by decide +kernel
theorem dX14_wake_89 : decode cX14_wake 89 = .ok (.checkcast 48, 3) := by decide +kernel
theorem dX14_wake_92 : decode cX14_wake 92 = .ok (.getfield 80, 3) := by decide +kernel
theorem dX14_wake_95 : decode cX14_wake 95 = .ok (.istore_n 3, 1) := by decide +kernel
theorem dX14_wake_96 : decode cX14_wake 96 = .ok (.goto (-54), 3) := by decide +kernel
theorem dX14_wake_99 : decode cX14_wake 99 = .ok (.iload_n 1, 1) := by decide +kernel
theorem dX14_wake_100 : decode cX14_wake 100 = .ok (.istore_n 3, 1) := by decide +kernel
theorem dX14_wake_101 : decode cX14_wake 101 = .ok (.iload_n 3, 1) := by decide +kernel
theorem dX14_wake_102 : decode cX14_wake 102 = .ok (.iconst (-1), 1) := by decide +kernel
theorem dX14_wake_103 : decode cX14_wake 103 = .ok (.if_icmp .eq 83, 3) := by decide +kernel
theorem dX14_wake_106 : decode cX14_wake 106 = .ok (.aload_n 0, 1) := by decide +kernel
theorem dX14_wake_107 : decode cX14_wake 107 = .ok (.getfield 61, 3) := by decide +kernel
theorem dX14_wake_110 : decode cX14_wake 110 = .ok (.ifCond .ne 76, 3) := by decide +kernel
theorem dX14_wake_113 : decode cX14_wake 113 = .ok (.aload_n 0, 1) := by decide +kernel
theorem dX14_wake_114 : decode cX14_wake 114 = .ok (.getfield 10, 3) := by decide +kernel
theorem dX14_wake_117 : decode cX14_wake 117 = .ok (.iload_n 3, 1) := by decide +kernel
theorem dX14_wake_118 : decode cX14_wake 118 = .ok (.invokevirtual 76, 3) := by decide +kernel
theorem dX14_wake_121 : decode cX14_wake 121 = .ok (.checkcast 48, 3) := by decide +kernel
theorem dX14_wake_124 : decode cX14_wake 124 = .ok (.getfield 53, 3) := by decide +kernel
theorem dX14_wake_127 : decode cX14_wake 127 = .ok (.bipush 122, 2) := by decide +kernel
theorem dX14_wake_129 : decode cX14_wake 129 = .ok (.if_icmp .ne 39, 3) := by decide +kernel
theorem dX14_wake_132 : decode cX14_wake 132 = .ok (.aload_n 0, 1) := by decide +kernel
theorem dX14_wake_133 : decode cX14_wake 133 = .ok (.getfield 10, 3) := by decide +kernel
theorem dX14_wake_136 : decode cX14_wake 136 = .ok (.iload_n 3, 1) := by decide +kernel
theorem dX14_wake_137 : decode cX14_wake 137 = .ok (.invokevirtual 76, 3) := by decide +kernel
theorem dX14_wake_140 : decode cX14_wake 140 = .ok (.checkcast 48, 3) := by decide +kernel
theorem dX14_wake_143 : decode cX14_wake 143 = .ok (.bipush 99, 2) := by decide +kernel
theorem dX14_wake_145 : decode cX14_wake 145 = .ok (.putfield 53, 3) := by decide +kernel
theorem dX14_wake_148 : decode cX14_wake 148 = .ok (.aload_n 0, 1) := by decide +kernel
theorem dX14_wake_149 : decode cX14_wake 149 = .ok (.getfield 10, 3) := by decide +kernel
theorem dX14_wake_152 : decode cX14_wake 152 = .ok (.iload_n 3, 1) := by decide +kernel
theorem dX14_wake_153 : decode cX14_wake 153 = .ok (.invokevirtual 76, 3) := by decide +kernel
theorem dX14_wake_156 : decode cX14_wake 156 = .ok (.checkcast 48, 3) := by decide +kernel
theorem dX14_wake_159 : decode cX14_wake 159 = .ok (.aload_n 0, 1) := by decide +kernel
theorem dX14_wake_160 : decode cX14_wake 160 = .ok (.getfield 205, 3) := by decide +kernel
theorem dX14_wake_163 : decode cX14_wake 163 = .ok (.iload_n 2, 1) := by decide +kernel
theorem dX14_wake_164 : decode cX14_wake 164 = .ok (.iadd, 1) := by decide +kernel
theorem dX14_wake_165 : decode cX14_wake 165 = .ok (.putfield 146, 3) := by decide +kernel
theorem dX14_wake_168 : decode cX14_wake 168 = .ok (.aload_n 0, 1) := by decide +kernel
theorem dX14_wake_169 : decode cX14_wake 169 = .ok (.getfield 10, 3) := by decide +kernel
theorem dX14_wake_172 : decode cX14_wake 172 = .ok (.iload_n 3, 1) := by decide +kernel
theorem dX14_wake_173 : decode cX14_wake 173 = .ok (.invokevirtual 76, 3) := by decide +kernel
theorem dX14_wake_176 : decode cX14_wake 176 = .ok (.checkcast 48, 3) := by decide +kernel
theorem dX14_wake_179 : decode cX14_wake 179 = .ok (.getfield 80, 3) := by decide +kernel
theorem dX14_wake_182 : decode cX14_wake 182 = .ok (.istore_n 3, 1) := by decide +kernel
theorem dX14_wake_183 : decode cX14_wake 183 = .ok (.goto (-82), 3) := by decide +kernel
theorem dX14_wake_186 : decode cX14_wake 186 = .ok (.iload_n 2, 1) := by decide +kernel
theorem dX14_wake_187 : decode cX14_wake 187 = .ok (.ireturn, 1) := by decide +kernel
theorem dX14_check_0 : decode cX14_check 0 = .ok (.iload_n 0, 1) := by decide +kernel
theorem dX14_check_1 : decode cX14_check 1 = .ok (.iload_n 2, 1) := by decide +kernel
theorem dX14_check_2 : decode cX14_check 2 = .ok (.iconst 1, 1) := by decide +kernel
theorem dX14_check_3 : decode cX14_check 3 = .ok (.isub, 1) := by decide +kernel
theorem dX14_check_4 : decode cX14_check 4 = .ok (.ishr, 1) := by decide +kernel
theorem dX14_check_5 : decode cX14_check 5 = .ok (.iconst 1, 1) := by decide +kernel
theorem dX14_check_6 : decode cX14_check 6 = .ok (.iand, 1) := by decide +kernel
theorem dX14_check_7 : decode cX14_check 7 = .ok (.istore 4, 2) := by decide +kernel
theorem dX14_check_9 : decode cX14_check 9 = .ok (.iload_n 0, 1) := by decide +kernel
theorem dX14_check_10 : decode cX14_check 10 = .ok (.iconst 1, 1) := by decide +kernel
theorem dX14_check_11 : decode cX14_check 11 = .ok (.ishl, 1) := by decide +kernel
theorem dX14_check_12 : decode cX14_check 12 = .ok (.iconst 1, 1) := by decide +kernel
theorem dX14_check_13 : decode cX14_check 13 = .ok (.iload_n 2, 1) := by decide +kernel
theorem dX14_check_14 : decode cX14_check 14 = .ok (.ishl, 1) := by decide +kernel
theorem dX14_check_15 : decode cX14_check 15 = .ok (.iconst 1, 1) := by decide +kernel
theorem dX14_check_16 : decode cX14_check 16 = .ok (.isub, 1) := by decide +kernel
theorem dX14_check_17 : decode cX14_check 17 = .ok (.iand, 1) := by decide +kernel
theorem dX14_check_18 : decode cX14_check 18 = .ok (.istore 5, 2) := by decide +kernel
theorem dX14_check_20 : decode cX14_check 20 = .ok (.iload 4, 2) := by decide +kernel
theorem dX14_check_22 : decode cX14_check 22 = .ok (.iload_n 1, 1) := by decide +kernel
theorem dX14_check_23 : decode cX14_check 23 = .ok (.if_icmp .ne 8, 3) := by decide +kernel
theorem dX14_check_26 : decode cX14_check 26 = .ok (.iload 5, 2) := by decide +kernel
theorem dX14_check_28 : decode cX14_check 28 = .ok (.goto 7, 3) := by decide +kernel
theorem dX14_check_31 : decode cX14_check 31 = .ok (.iload 5, 2) := by decide +kernel
theorem dX14_check_33 : decode cX14_check 33 = .ok (.iload_n 3, 1) := by decide +kernel
theorem dX14_check_34 : decode cX14_check 34 = .ok (.ixor, 1) := by decide +kernel
theorem dX14_check_35 : decode cX14_check 35 = .ok (.ireturn, 1) := by decide +kernel
set_option maxRecDepth 20000 in
theorem ggX14_five_X14_in : GoodIn wsX14_five wsX14_in := goodIn_r _ [5] (by decide +kernel) (by decide +kernel)
set_option maxRecDepth 20000 in
theorem gX14_five_X14_in : GoodIn wsX14_five (va_wsS RX14 68 yX14_in wsX14_in) := goodIn_app (goodIn_of _ (by decide +kernel)) ggX14_five_X14_in
set_option maxRecDepth 20000 in
theorem ggX14_five_X14_check : GoodIn wsX14_five wsX14_check := goodIn_r _ [8] (by decide +kernel) (by decide +kernel)
set_option maxRecDepth 20000 in
theorem gX14_five_X14_check : GoodIn wsX14_five (va_wsS RX14 208 yX14_check wsX14_check) := goodIn_app (goodIn_of _ (by decide +kernel)) ggX14_five_X14_check
theorem dX14_five_0 : decode cX14_five 0 = .ok (.aload_n 0, 1) := by decide +kernel
theorem dX14_five_1 : decode cX14_five 1 = .ok (.iload_n 1, 1) := by decide +kernel
theorem dX14_five_2 : decode cX14_five 2 = .ok (.iconst 0, 1) := by decide +kernel
theorem dX14_five_3 : decode cX14_five 3 = .ok (.sipush 2047, 3) := by decide +kernel
theorem dX14_five_6 : decode cX14_five 6 = .ok (.invokestatic 68, 3) := by decide +kernel
theorem dX14_five_9 : decode cX14_five 9 = .ok (.ifCond .eq 7, 3) := by decide +kernel
theorem dX14_five_12 : decode cX14_five 12 = .ok (.iconst 0, 1) := by decide +kernel
theorem dX14_five_13 : decode cX14_five 13 = .ok (.goto 4, 3) := by decide +kernel
theorem dX14_five_16 : decode cX14_five 16 = .ok (.iconst 1, 1) := by decide +kernel
theorem dX14_five_17 : decode cX14_five 17 = .ok (.putfield 61, 3) := by decide +kernel
theorem dX14_five_20 : decode cX14_five 20 = .ok (.bipush 31, 2) := by decide +kernel
theorem dX14_five_22 : decode cX14_five 22 = .ok (.istore_n 2, 1) := by decide +kernel
theorem dX14_five_23 : decode cX14_five 23 = .ok (.iconst 0, 1) := by decide +kernel
theorem dX14_five_24 : decode cX14_five 24 = .ok (.istore_n 3, 1) := by decide +kernel
theorem dX14_five_25 : decode cX14_five 25 = .ok (.iload_n 3, 1) := by decide +kernel
theorem dX14_five_26 : decode cX14_five 26 = .ok (.bipush 11, 2) := by decide +kernel
theorem dX14_five_28 : decode cX14_five 28 = .ok (.if_icmp .ge 21, 3) := by decide +kernel
theorem dX14_five_31 : decode cX14_five 31 = .ok (.iload_n 2, 1) := by decide +kernel
theorem dX14_five_32 : decode cX14_five 32 = .ok (.iload_n 1, 1) := by decide +kernel
theorem dX14_five_33 : decode cX14_five 33 = .ok (.iload_n 3, 1) := by decide +kernel
theorem dX14_five_34 : decode cX14_five 34 = .ok (.ishr, 1) := by decide +kernel
theorem dX14_five_35 : decode cX14_five 35 = .ok (.iconst 1, 1) := by decide +kernel
theorem dX14_five_36 : decode cX14_five 36 = .ok (.iand, 1) := by decide +kernel
theorem dX14_five_37 : decode cX14_five 37 = .ok (.iconst 5, 1) := by decide +kernel
theorem dX14_five_38 : decode cX14_five 38 = .ok (.iconst 5, 1) := by decide +kernel
theorem dX14_five_39 : decode cX14_five 39 = .ok (.invokestatic 208, 3) := by decide +kernel
theorem dX14_five_42 : decode cX14_five 42 = .ok (.istore_n 2, 1) := by decide +kernel
theorem dX14_five_43 : decode cX14_five 43 = .ok (.iinc 3 1, 3) := by decide +kernel
theorem dX14_five_46 : decode cX14_five 46 = .ok (.goto (-21), 3) := by decide +kernel
theorem dX14_five_49 : decode cX14_five 49 = .ok (.aload_n 0, 1) := by decide +kernel
theorem dX14_five_50 : decode cX14_five 50 = .ok (.getfield 61, 3) := by decide +kernel
theorem dX14_five_53 : decode cX14_five 53 = .ok (.ifCond .le 7, 3) := by decide +kernel
theorem dX14_five_56 : decode cX14_five 56 = .ok (.iconst 0, 1) := by decide +kernel
theorem dX14_five_57 : decode cX14_five 57 = .ok (.goto 7, 3) := by decide +kernel
theorem dX14_five_60 : decode cX14_five 60 = .ok (.bipush 31, 2) := by decide +kernel
theorem dX14_five_62 : decode cX14_five 62 = .ok (.iload_n 2, 1) := by decide +kernel
theorem dX14_five_63 : decode cX14_five 63 = .ok (.isub, 1) := by decide +kernel
theorem dX14_five_64 : decode cX14_five 64 = .ok (.ireturn, 1) := by decide +kernel
set_option maxRecDepth 20000 in
theorem ggX14_type_X14_in : GoodIn wsX14_type wsX14_in := goodIn_r _ [6] (by decide +kernel) (by decide +kernel)
set_option maxRecDepth 20000 in
theorem gX14_type_X14_in : GoodIn wsX14_type (va_wsS RX14 68 yX14_in wsX14_in) := goodIn_app (goodIn_of _ (by decide +kernel)) ggX14_type_X14_in
set_option maxRecDepth 20000 in
theorem ggX14_type_Jx4a65c_size_8abf5 : GoodIn wsX14_type wsJx4a65c_size_8abf5 := goodIn_r _ [11, 12, 105, 106, 107] (by decide +kernel) (by decide +kernel)
set_option maxRecDepth 20000 in
theorem gX14_type_Jx4a65c_size_8abf5 : GoodIn wsX14_type (wsV RX14 64 RJx4a65c yJx4a65c_size_8abf5 wsJx4a65c_size_8abf5) := goodIn_app (goodIn_of _ (by decide +kernel)) ggX14_type_Jx4a65c_size_8abf5
set_option maxRecDepth 20000 in
theorem ggX14_type_J6_valueOf_2dffe : GoodIn wsX14_type wsJ6_valueOf_2dffe := goodIn_r _ [16, 17, 18, 19, 20, 15, 21, 22, 23, 24, 25, 26, 27, 28, 29, 30, 31, 108] (by decide +kernel) (by decide +kernel)
set_option maxRecDepth 20000 in
theorem gX14_type_J6_valueOf_2dffe : GoodIn wsX14_type (va_wsS RX14 212 yJ6_valueOf_2dffe wsJ6_valueOf_2dffe) := goodIn_app (goodIn_of _ (by decide +kernel)) ggX14_type_J6_valueOf_2dffe
set_option maxRecDepth 20000 in
theorem ggX14_type_Jx4a65c_add_9ea2d : GoodIn wsX14_type wsJx4a65c_add_9ea2d := goodIn_r _ [35, 36, 37, 38, 12, 39, 40, 41, 10, 42, 43, 44, 45, 46, 47, 48, 49, 50, 51, 52, 53, 54, 55, 56, 57, 58, 59, 60, 61, 62, 63, 64, 65, 66, 67, 68, 69, 70, 71, 72, 73, 74, 75, 76, 77, 78, 79, 80, 81, 82, 83, 84, 85, 105, 106, 107] (by decide +kernel) (by decide +kernel)
set_option maxRecDepth 20000 in
theorem gX14_type_Jx4a65c_add_9ea2d : GoodIn wsX14_type (wsV RX14 57 RJx4a65c yJx4a65c_add_9ea2d wsJx4a65c_add_9ea2d) := goodIn_app (goodIn_of _ (by decide +kernel)) ggX14_type_Jx4a65c_add_9ea2d
theorem dX14_type_0 : decode cX14_type 0 = .ok (.aload_n 0, 1) := by decide +kernel
theorem dX14_type_1 : decode cX14_type 1 = .ok (.iload_n 1, 1) := by decide +kernel
theorem dX14_type_2 : decode cX14_type 2 = .ok (.iconst 0, 1) := by decide +kernel
theorem dX14_type_3 : decode cX14_type 3 = .ok (.sipush 255, 3) := by decide +kernel
theorem dX14_type_6 : decode cX14_type 6 = .ok (.invokestatic 68, 3) := by decide +kernel
theorem dX14_type_9 : decode cX14_type 9 = .ok (.ifCond .ne 7, 3) := by decide +kernel
theorem dX14_type_12 : decode cX14_type 12 = .ok (.iconst 1, 1) := by decide +kernel
theorem dX14_type_13 : decode cX14_type 13 = .ok (.goto 20, 3) := by decide +kernel
theorem dX14_type_16 : decode cX14_type 16 = .ok (.aload_n 0, 1) := by decide +kernel
theorem dX14_type_17 : decode cX14_type 17 = .ok (.getfield 25, 3) := by decide +kernel
theorem dX14_type_20 : decode cX14_type 20 = .ok (.invokevirtual 64, 3) := by decide +kernel
theorem dX14_type_23 : decode cX14_type 23 = .ok (.bipush 16, 2) := by decide +kernel
theorem dX14_type_25 : decode cX14_type 25 = .ok (.if_icmp .ne 7, 3) := by decide +kernel
theorem dX14_type_28 : decode cX14_type 28 = .ok (.iconst 2, 1) := by decide +kernel
theorem dX14_type_29 : decode cX14_type 29 = .ok (.goto 4, 3) := by decide +kernel
theorem dX14_type_32 : decode cX14_type 32 = .ok (.iconst 0, 1) := by decide +kernel
theorem dX14_type_33 : decode cX14_type 33 = .ok (.putfield 61, 3) := by decide +kernel
theorem dX14_type_36 : decode cX14_type 36 = .ok (.aload_n 0, 1) := by decide +kernel
theorem dX14_type_37 : decode cX14_type 37 = .ok (.getfield 61, 3) := by decide +kernel
theorem dX14_type_40 : decode cX14_type 40 = .ok (.ifCond .le 5, 3) := by decide +kernel
theorem dX14_type_43 : decode cX14_type 43 = .ok (.iconst 0, 1) := by decide +kernel
theorem dX14_type_44 : decode cX14_type 44 = .ok (.ireturn, 1) := by decide +kernel
theorem dX14_type_45 : decode cX14_type 45 = .ok (.aload_n 0, 1) := by decide +kernel
theorem dX14_type_46 : decode cX14_type 46 = .ok (.getfield 25, 3) := by decide +kernel
theorem dX14_type_49 : decode cX14_type 49 = .ok (.iload_n 1, 1) := by decide +kernel
theorem dX14_type_50 : decode cX14_type 50 = .ok (.invokestatic 212, 3) := by decide +kernel
theorem dX14_type_53 : decode cX14_type 53 = .ok (.invokevirtual 57, 3) := by decide +kernel
theorem dX14_type_56 : decode cX14_type 56 = .ok (.pop, 1) := by decide +kernel
theorem dX14_type_57 : decode cX14_type 57 = .ok (.aload_n 0, 1) := by decide +kernel
theorem dX14_type_58 : decode cX14_type 58 = .ok (.getfield 25, 3) := by decide +kernel
theorem dX14_type_61 : decode cX14_type 61 = .ok (.invokevirtual 64, 3) := by decide +kernel
theorem dX14_type_64 : decode cX14_type 64 = .ok (.ireturn, 1) := by decide +kernel
set_option maxRecDepth 20000 in
theorem ggX14_wipe_Jx4a65c_size_8abf5 : GoodIn wsX14_wipe wsJx4a65c_size_8abf5 := goodIn_r _ [7, 8, 35, 36, 37] (by decide +kernel) (by decide +kernel)
set_option maxRecDepth 20000 in
theorem gX14_wipe_Jx4a65c_size_8abf5 : GoodIn wsX14_wipe (wsV RX14 64 RJx4a65c yJx4a65c_size_8abf5 wsJx4a65c_size_8abf5) := goodIn_app (goodIn_of _ (by decide +kernel)) ggX14_wipe_Jx4a65c_size_8abf5
set_option maxRecDepth 20000 in
theorem ggX14_wipe_Jx4a65c_clear_da8c8 : GoodIn wsX14_wipe wsJx4a65c_clear_da8c8 := goodIn_r _ [12, 13, 14, 15, 8, 35, 36, 37] (by decide +kernel) (by decide +kernel)
set_option maxRecDepth 20000 in
theorem gX14_wipe_Jx4a65c_clear_da8c8 : GoodIn wsX14_wipe (wsV RX14 218 RJx4a65c yJx4a65c_clear_da8c8 wsJx4a65c_clear_da8c8) := goodIn_app (goodIn_of _ (by decide +kernel)) ggX14_wipe_Jx4a65c_clear_da8c8
theorem dX14_wipe_0 : decode cX14_wipe 0 = .ok (.aload_n 0, 1) := by decide +kernel
theorem dX14_wipe_1 : decode cX14_wipe 1 = .ok (.iconst 0, 1) := by decide +kernel
theorem dX14_wipe_2 : decode cX14_wipe 2 = .ok (.putfield 61, 3) := by decide +kernel
theorem dX14_wipe_5 : decode cX14_wipe 5 = .ok (.aload_n 0, 1) := by decide +kernel
theorem dX14_wipe_6 : decode cX14_wipe 6 = .ok (.getfield 25, 3) := by decide +kernel
theorem dX14_wipe_9 : decode cX14_wipe 9 = .ok (.invokevirtual 64, 3) := by decide +kernel
theorem dX14_wipe_12 : decode cX14_wipe 12 = .ok (.istore_n 1, 1) := by decide +kernel
theorem dX14_wipe_13 : decode cX14_wipe 13 = .ok (.aload_n 0, 1) := by decide +kernel
theorem dX14_wipe_14 : decode cX14_wipe 14 = .ok (.getfield 25, 3) := by decide +kernel
theorem dX14_wipe_17 : decode cX14_wipe 17 = .ok (.invokevirtual 218, 3) := by decide +kernel
theorem dX14_wipe_20 : decode cX14_wipe 20 = .ok (.iload_n 1, 1) := by decide +kernel
theorem dX14_wipe_21 : decode cX14_wipe 21 = .ok (.ireturn, 1) := by decide +kernel
set_option maxRecDepth 20000 in
theorem ggX14_sixteen_Jx4a65c_iterator_32c93 : GoodIn wsX14_sixteen wsJx4a65c_iterator_32c93 := goodIn_r _ [10, 11, 12, 13, 14, 15, 16, 17, 18, 19, 20, 21, 22, 23, 24, 68, 69, 70, 71, 72, 73, 74] (by decide +kernel) (by decide +kernel)
set_option maxRecDepth 20000 in
theorem gX14_sixteen_Jx4a65c_iterator_32c93 : GoodIn wsX14_sixteen (wsV RX14 108 RJx4a65c yJx4a65c_iterator_32c93 wsJx4a65c_iterator_32c93) := goodIn_app (goodIn_of _ (by decide +kernel)) ggX14_sixteen_Jx4a65c_iterator_32c93
set_option maxRecDepth 20000 in
theorem ggX14_sixteen_Jx35411_hasNext_aae02 : GoodIn wsX14_sixteen wsJx35411_hasNext_aae02 := goodIn_r _ [28, 29, 17, 68, 69, 70, 71, 72, 73, 74] (by decide +kernel) (by decide +kernel)
set_option maxRecDepth 20000 in
theorem gX14_sixteen_Jx35411_hasNext_aae02_f112Jx35411 : GoodIn wsX14_sixteen (va_wsF RX14 112 RJx35411 ⟨"java/util/Iterator", "hasNext", "()Z"⟩ yJx35411_hasNext_aae02 wsJx35411_hasNext_aae02) := goodIn_app (goodIn_of _ (by decide +kernel)) ggX14_sixteen_Jx35411_hasNext_aae02
set_option maxRecDepth 20000 in
theorem ggX14_sixteen_Jx35411_next_0502b : GoodIn wsX14_sixteen wsJx35411_next_0502b := goodIn_r _ [33, 29, 17, 34, 21, 35, 36, 37, 13, 38, 22, 23, 24, 68, 69, 70, 71, 72, 73, 74] (by decide +kernel) (by decide +kernel)
set_option maxRecDepth 20000 in
theorem gX14_sixteen_Jx35411_next_0502b_f118Jx35411 : GoodIn wsX14_sixteen (va_wsF RX14 118 RJx35411 ⟨"java/util/Iterator", "next", "()Ljava/lang/Object;"⟩ yJx35411_next_0502b wsJx35411_next_0502b) := goodIn_app (goodIn_of _ (by decide +kernel)) ggX14_sixteen_Jx35411_next_0502b
set_option maxRecDepth 20000 in
theorem ggX14_sixteen_J6_intValue_8abf5 : GoodIn wsX14_sixteen wsJ6_intValue_8abf5 := goodIn_r _ [43, 44, 75] (by decide +kernel) (by decide +kernel)
set_option maxRecDepth 20000 in
theorem gX14_sixteen_J6_intValue_8abf5 : GoodIn wsX14_sixteen (wsV RX14 222 RJ6 yJ6_intValue_8abf5 wsJ6_intValue_8abf5) := goodIn_app (goodIn_of _ (by decide +kernel)) ggX14_sixteen_J6_intValue_8abf5
set_option maxRecDepth 20000 in
theorem ggX14_sixteen_X14_check : GoodIn wsX14_sixteen wsX14_check := goodIn_r _ [48] (by decide +kernel) (by decide +kernel)
set_option maxRecDepth 20000 in
theorem gX14_sixteen_X14_check : GoodIn wsX14_sixteen (va_wsS RX14 208 yX14_check wsX14_check) := goodIn_app (goodIn_of _ (by decide +kernel)) ggX14_sixteen_X14_check
theorem dX14_sixteen_0 : decode cX14_sixteen 0 = .ok (.aload_n 0, 1) := by decide +kernel
theorem dX14_sixteen_1 : decode cX14_sixteen 1 = .ok (.iconst 0, 1) := by decide +kernel
theorem dX14_sixteen_2 : decode cX14_sixteen 2 = .ok (.putfield 61, 3) := by decide +kernel
theorem dX14_sixteen_5 : decode cX14_sixteen 5 = .ok (.ldc 221, 2) := by decide +kernel
theorem dX14_sixteen_7 : decode cX14_sixteen 7 = .ok (.istore_n 1, 1) := by decide +kernel
theorem dX14_sixteen_8 : decode cX14_sixteen 8 = .ok (.aload_n 0, 1) := by decide +kernel
theorem dX14_sixteen_9 : decode cX14_sixteen 9 = .ok (.getfield 25, 3) := by decide +kernel
theorem dX14_sixteen_12 : decode cX14_sixteen 12 = .ok (.invokevirtual 108, 3) := by decide +kernel
theorem dX14_sixteen_15 : decode cX14_sixteen 15 = .ok (.astore_n 2, 1) := by decide +kernel
theorem dX14_sixteen_16 : decode cX14_sixteen 16 = .ok (.aload_n 2, 1) := by decide +kernel
theorem dX14_sixteen_17 : decode cX14_sixteen 17 = .ok (.invokeinterface 112 1, 5) := by decide +kernel
theorem dX14_sixteen_22 : decode cX14_sixteen 22 = .ok (.ifCond .eq 50, 3) := by decide +kernel
theorem dX14_sixteen_25 : decode cX14_sixteen 25 = .ok (.aload_n 2, 1) := by decide +kernel
theorem dX14_sixteen_26 : decode cX14_sixteen 26 = .ok (.invokeinterface 118 1, 5) := by decide +kernel
theorem dX14_sixteen_31 : decode cX14_sixteen 31 = .ok (.checkcast 213, 3) := by decide +kernel
theorem dX14_sixteen_34 : decode cX14_sixteen 34 = .ok (.invokevirtual 222, 3) := by decide +kernel
theorem dX14_sixteen_37 : decode cX14_sixteen 37 = .ok (.istore_n 3, 1) := by decide +kernel
theorem dX14_sixteen_38 : decode cX14_sixteen 38 = .ok (.iconst 0, 1) := by decide +kernel
theorem dX14_sixteen_39 : decode cX14_sixteen 39 = .ok (.istore 4, 2) := by decide +kernel
theorem dX14_sixteen_41 : decode cX14_sixteen 41 = .ok (.iload 4, 2) := by decide +kernel
theorem dX14_sixteen_43 : decode cX14_sixteen 43 = .ok (.bipush 8, 2) := by decide +kernel
theorem dX14_sixteen_45 : decode cX14_sixteen 45 = .ok (.if_icmp .ge 24, 3) := by decide +kernel
theorem dX14_sixteen_48 : decode cX14_sixteen 48 = .ok (.iload_n 1, 1) := by decide +kernel
theorem dX14_sixteen_49 : decode cX14_sixteen 49 = .ok (.iload_n 3, 1) := by decide +kernel
theorem dX14_sixteen_50 : decode cX14_sixteen 50 = .ok (.iload 4, 2) := by decide +kernel
theorem dX14_sixteen_52 : decode cX14_sixteen 52 = .ok (.ishr, 1) := by decide +kernel
theorem dX14_sixteen_53 : decode cX14_sixteen 53 = .ok (.iconst 1, 1) := by decide +kernel
theorem dX14_sixteen_54 : decode cX14_sixteen 54 = .ok (.iand, 1) := by decide +kernel
theorem dX14_sixteen_55 : decode cX14_sixteen 55 = .ok (.bipush 16, 2) := by decide +kernel
theorem dX14_sixteen_57 : decode cX14_sixteen 57 = .ok (.ldc 225, 2) := by decide +kernel
theorem dX14_sixteen_59 : decode cX14_sixteen 59 = .ok (.invokestatic 208, 3) := by decide +kernel
theorem dX14_sixteen_62 : decode cX14_sixteen 62 = .ok (.istore_n 1, 1) := by decide +kernel
theorem dX14_sixteen_63 : decode cX14_sixteen 63 = .ok (.iinc 4 1, 3) := by decide +kernel
theorem dX14_sixteen_66 : decode cX14_sixteen 66 = .ok (.goto (-25), 3) := by decide +kernel
theorem dX14_sixteen_69 : decode cX14_sixteen 69 = .ok (.goto (-53), 3) := by decide +kernel
theorem dX14_sixteen_72 : decode cX14_sixteen 72 = .ok (.ldc 221, 2) := by decide +kernel
theorem dX14_sixteen_74 : decode cX14_sixteen 74 = .ok (.iload_n 1, 1) := by decide +kernel
theorem dX14_sixteen_75 : decode cX14_sixteen 75 = .ok (.isub, 1) := by decide +kernel
theorem dX14_sixteen_76 : decode cX14_sixteen 76 = .ok (.ireturn, 1) := by decide +kernel
set_option maxRecDepth 20000 in
theorem ggX14_stuffed_Jx4a65c_iterator_32c93 : GoodIn wsX14_stuffed wsJx4a65c_iterator_32c93 := goodIn_r _ [8, 9, 10, 11, 12, 13, 14, 15, 16, 17, 18, 19, 20, 21, 22, 62, 63, 64, 65, 66, 67, 68] (by decide +kernel) (by decide +kernel)
set_option maxRecDepth 20000 in
theorem gX14_stuffed_Jx4a65c_iterator_32c93 : GoodIn wsX14_stuffed (wsV RX14 108 RJx4a65c yJx4a65c_iterator_32c93 wsJx4a65c_iterator_32c93) := goodIn_app (goodIn_of _ (by decide +kernel)) ggX14_stuffed_Jx4a65c_iterator_32c93
set_option maxRecDepth 20000 in
theorem ggX14_stuffed_Jx35411_hasNext_aae02 : GoodIn wsX14_stuffed wsJx35411_hasNext_aae02 := goodIn_r _ [26, 27, 15, 62, 63, 64, 65, 66, 67, 68] (by decide +kernel) (by decide +kernel)
set_option maxRecDepth 20000 in
theorem gX14_stuffed_Jx35411_hasNext_aae02_f112Jx35411 : GoodIn wsX14_stuffed (va_wsF RX14 112 RJx35411 ⟨"java/util/Iterator", "hasNext", "()Z"⟩ yJx35411_hasNext_aae02 wsJx35411_hasNext_aae02) := goodIn_app (goodIn_of _ (by decide +kernel)) ggX14_stuffed_Jx35411_hasNext_aae02
set_option maxRecDepth 20000 in
theorem ggX14_stuffed_Jx35411_next_0502b : GoodIn wsX14_stuffed wsJx35411_next_0502b := goodIn_r _ [31, 27, 15, 32, 19, 33, 34, 35, 11, 36, 20, 21, 22, 62, 63, 64, 65, 66, 67, 68] (by decide +kernel) (by decide +kernel)
set_option maxRecDepth 20000 in
theorem gX14_stuffed_Jx35411_next_0502b_f118Jx35411 : GoodIn wsX14_stuffed (va_wsF RX14 118 RJx35411 ⟨"java/util/Iterator", "next", "()Ljava/lang/Object;"⟩ yJx35411_next_0502b wsJx35411_next_0502b) := goodIn_app (goodIn_of _ (by decide +kernel)) ggX14_stuffed_Jx35411_next_0502b
set_option maxRecDepth 20000 in
theorem ggX14_stuffed_J6_intValue_8abf5 : GoodIn wsX14_stuffed wsJ6_intValue_8abf5 := goodIn_r _ [41, 42, 69] (by decide +kernel) (by decide +kernel)
set_option maxRecDepth 20000 in
theorem gX14_stuffed_J6_intValue_8abf5 : GoodIn wsX14_stuffed (wsV RX14 222 RJ6 yJ6_intValue_8abf5 wsJ6_intValue_8abf5) := goodIn_app (goodIn_of _ (by decide +kernel)) ggX14_stuffed_J6_intValue_8abf5
theorem dX14_stuffed_0 : decode cX14_stuffed 0 = .ok (.aload_n 0, 1) := by decide +kernel
theorem dX14_stuffed_1 : decode cX14_stuffed 1 = .ok (.iconst 0, 1) := by decide +kernel
theorem dX14_stuffed_2 : decode cX14_stuffed 2 = .ok (.putfield 61, 3) := by decide +kernel
theorem dX14_stuffed_5 : decode cX14_stuffed 5 = .ok (.iconst 0, 1) := by decide +kernel
theorem dX14_stuffed_6 : decode cX14_stuffed 6 = .ok (.istore_n 1, 1) := by decide +kernel
theorem dX14_stuffed_7 : decode cX14_stuffed 7 = .ok (.iconst 0, 1) := by decide +kernel
theorem dX14_stuffed_8 : decode cX14_stuffed 8 = .ok (.istore_n 2, 1) := by decide +kernel
theorem dX14_stuffed_9 : decode cX14_stuffed 9 = .ok (.aload_n 0, 1) := by decide +kernel
theorem dX14_stuffed_10 : decode cX14_stuffed 10 = .ok (.getfield 25, 3) := by decide +kernel
theorem dX14_stuffed_13 : decode cX14_stuffed 13 = .ok (.invokevirtual 108, 3) := by decide +kernel
theorem dX14_stuffed_16 : decode cX14_stuffed 16 = .ok (.astore_n 3, 1) := by decide +kernel
theorem dX14_stuffed_17 : decode cX14_stuffed 17 = .ok (.aload_n 3, 1) := by decide +kernel
theorem dX14_stuffed_18 : decode cX14_stuffed 18 = .ok (.invokeinterface 112 1, 5) := by decide +kernel
theorem dX14_stuffed_23 : decode cX14_stuffed 23 = .ok (.ifCond .eq 84, 3) := by decide +kernel
theorem dX14_stuffed_26 : decode cX14_stuffed 26 = .ok (.aload_n 3, 1) := by decide +kernel
theorem dX14_stuffed_27 : decode cX14_stuffed 27 = .ok (.invokeinterface 118 1, 5) := by decide +kernel
theorem dX14_stuffed_32 : decode cX14_stuffed 32 = .ok (.checkcast 213, 3) := by decide +kernel
theorem dX14_stuffed_35 : decode cX14_stuffed 35 = .ok (.invokevirtual 222, 3) := by decide +kernel
theorem dX14_stuffed_38 : decode cX14_stuffed 38 = .ok (.istore 4, 2) := by decide +kernel
theorem dX14_stuffed_40 : decode cX14_stuffed 40 = .ok (.iconst 0, 1) := by decide +kernel
theorem dX14_stuffed_41 : decode cX14_stuffed 41 = .ok (.istore 5, 2) := by decide +kernel
theorem dX14_stuffed_43 : decode cX14_stuffed 43 = .ok (.iload 5, 2) := by decide +kernel
theorem dX14_stuffed_45 : decode cX14_stuffed 45 = .ok (.bipush 8, 2) := by decide +kernel
theorem dX14_stuffed_47 : decode cX14_stuffed 47 = .ok (.if_icmp .ge 57, 3) := by decide +kernel
theorem dX14_stuffed_50 : decode cX14_stuffed 50 = .ok (.iinc 1 1, 3) := by decide +kernel
theorem dX14_stuffed_53 : decode cX14_stuffed 53 = .ok (.iload 4, 2) := by decide +kernel
theorem dX14_stuffed_55 : decode cX14_stuffed 55 = .ok (.iload 5, 2) := by decide +kernel
theorem dX14_stuffed_57 : decode cX14_stuffed 57 = .ok (.ishr, 1) := by decide +kernel
theorem dX14_stuffed_58 : decode cX14_stuffed 58 = .ok (.iconst 1, 1) := by decide +kernel
theorem dX14_stuffed_59 : decode cX14_stuffed 59 = .ok (.iand, 1) := by decide +kernel
theorem dX14_stuffed_60 : decode cX14_stuffed 60 = .ok (.iconst 1, 1) := by decide +kernel
theorem dX14_stuffed_61 : decode cX14_stuffed 61 = .ok (.if_icmp .ne 9, 3) := by decide +kernel
theorem dX14_stuffed_64 : decode cX14_stuffed 64 = .ok (.iload_n 2, 1) := by decide +kernel
theorem dX14_stuffed_65 : decode cX14_stuffed 65 = .ok (.iconst 1, 1) := by decide +kernel
theorem dX14_stuffed_66 : decode cX14_stuffed 66 = .ok (.iadd, 1) := by decide +kernel
theorem dX14_stuffed_67 : decode cX14_stuffed 67 = .ok (.goto 4, 3) := by decide +kernel
theorem dX14_stuffed_70 : decode cX14_stuffed 70 = .ok (.iconst 0, 1) := by decide +kernel
theorem dX14_stuffed_71 : decode cX14_stuffed 71 = .ok (.istore_n 2, 1) := by decide +kernel
theorem dX14_stuffed_72 : decode cX14_stuffed 72 = .ok (.iload_n 1, 1) := by decide +kernel
theorem dX14_stuffed_73 : decode cX14_stuffed 73 = .ok (.iload_n 2, 1) := by decide +kernel
theorem dX14_stuffed_74 : decode cX14_stuffed 74 = .ok (.bipush 6, 2) := by decide +kernel
theorem dX14_stuffed_76 : decode cX14_stuffed 76 = .ok (.if_icmp .ne 7, 3) := by decide +kernel
theorem dX14_stuffed_79 : decode cX14_stuffed 79 = .ok (.iconst 1, 1) := by decide +kernel
theorem dX14_stuffed_80 : decode cX14_stuffed 80 = .ok (.goto 4, 3) := by decide +kernel
theorem dX14_stuffed_83 : decode cX14_stuffed 83 = .ok (.iconst 0, 1) := by decide +kernel
theorem dX14_stuffed_84 : decode cX14_stuffed 84 = .ok (.iadd, 1) := by decide +kernel
theorem dX14_stuffed_85 : decode cX14_stuffed 85 = .ok (.istore_n 1, 1) := by decide +kernel
theorem dX14_stuffed_86 : decode cX14_stuffed 86 = .ok (.iload_n 2, 1) := by decide +kernel
theorem dX14_stuffed_87 : decode cX14_stuffed 87 = .ok (.bipush 6, 2) := by decide +kernel
theorem dX14_stuffed_89 : decode cX14_stuffed 89 = .ok (.if_icmp .ne 7, 3) := by decide +kernel
theorem dX14_stuffed_92 : decode cX14_stuffed 92 = .ok (.iconst 0, 1) := by decide +kernel
theorem dX14_stuffed_93 : decode cX14_stuffed 93 = .ok (.goto 4, 3) := by decide +kernel
theorem dX14_stuffed_96 : decode cX14_stuffed 96 = .ok (.iload_n 2, 1) := by decide +kernel
theorem dX14_stuffed_97 : decode cX14_stuffed 97 = .ok (.istore_n 2, 1) := by decide +kernel
theorem dX14_stuffed_98 : decode cX14_stuffed 98 = .ok (.iinc 5 1, 3) := by decide +kernel
theorem dX14_stuffed_101 : decode cX14_stuffed 101 = .ok (.goto (-58), 3) := by decide +kernel
theorem dX14_stuffed_104 : decode cX14_stuffed 104 = .ok (.goto (-87), 3) := by decide +kernel
theorem dX14_stuffed_107 : decode cX14_stuffed 107 = .ok (.iload_n 1, 1) := by decide +kernel
theorem dX14_stuffed_108 : decode cX14_stuffed 108 = .ok (.ireturn, 1) := by decide +kernel
theorem dX14_hostCost_0 : decode cX14_hostCost 0 = .ok (.iconst 2, 1) := by decide +kernel
theorem dX14_hostCost_1 : decode cX14_hostCost 1 = .ok (.iload_n 0, 1) := by decide +kernel
theorem dX14_hostCost_2 : decode cX14_hostCost 2 = .ok (.iadd, 1) := by decide +kernel
theorem dX14_hostCost_3 : decode cX14_hostCost 3 = .ok (.ireturn, 1) := by decide +kernel
set_option maxRecDepth 20000 in
theorem ggX14_hubCost_X14_runs : GoodIn wsX14_hubCost wsX14_runs := goodIn_r _ [5, 6, 7, 8, 9, 10, 11, 12, 13, 14, 15, 16, 17, 18, 19, 20, 21, 22, 23, 24, 25, 26, 27, 28, 29, 30, 31, 32, 33, 34, 35, 36, 37, 38, 39, 40, 41, 42, 43, 44, 45, 46, 47, 48, 49, 50, 51, 52, 53, 54, 55, 56, 57, 58, 59, 60, 61, 62, 63, 64] (by decide +kernel) (by decide +kernel)
set_option maxRecDepth 20000 in
theorem gX14_hubCost_X14_runs : GoodIn wsX14_hubCost (wsV RX14 86 RX14 yX14_runs wsX14_runs) := goodIn_app (goodIn_of _ (by decide +kernel)) ggX14_hubCost_X14_runs
theorem dX14_hubCost_0 : decode cX14_hubCost 0 = .ok (.aload_n 0, 1) := by decide +kernel
theorem dX14_hubCost_1 : decode cX14_hubCost 1 = .ok (.iload_n 1, 1) := by decide +kernel
theorem dX14_hubCost_2 : decode cX14_hubCost 2 = .ok (.invokevirtual 86, 3) := by decide +kernel
theorem dX14_hubCost_5 : decode cX14_hubCost 5 = .ok (.istore_n 3, 1) := by decide +kernel
theorem dX14_hubCost_6 : decode cX14_hubCost 6 = .ok (.iload_n 3, 1) := by decide +kernel
theorem dX14_hubCost_7 : decode cX14_hubCost 7 = .ok (.bipush 104, 2) := by decide +kernel
theorem dX14_hubCost_9 : decode cX14_hubCost 9 = .ok (.if_icmp .ne 7, 3) := by decide +kernel
theorem dX14_hubCost_12 : decode cX14_hubCost 12 = .ok (.iconst 0, 1) := by decide +kernel
theorem dX14_hubCost_13 : decode cX14_hubCost 13 = .ok (.goto 24, 3) := by decide +kernel
theorem dX14_hubCost_16 : decode cX14_hubCost 16 = .ok (.iload_n 3, 1) := by decide +kernel
theorem dX14_hubCost_17 : decode cX14_hubCost 17 = .ok (.bipush 102, 2) := by decide +kernel
theorem dX14_hubCost_19 : decode cX14_hubCost 19 = .ok (.if_icmp .ne 11, 3) := by decide +kernel
theorem dX14_hubCost_22 : decode cX14_hubCost 22 = .ok (.iconst 4, 1) := by decide +kernel
theorem dX14_hubCost_23 : decode cX14_hubCost 23 = .ok (.iconst 2, 1) := by decide +kernel
theorem dX14_hubCost_24 : decode cX14_hubCost 24 = .ok (.iload_n 2, 1) := by decide +kernel
theorem dX14_hubCost_25 : decode cX14_hubCost 25 = .ok (.imul, 1) := by decide +kernel
theorem dX14_hubCost_26 : decode cX14_hubCost 26 = .ok (.iadd, 1) := by decide +kernel
theorem dX14_hubCost_27 : decode cX14_hubCost 27 = .ok (.goto 10, 3) := by decide +kernel
theorem dX14_hubCost_30 : decode cX14_hubCost 30 = .ok (.bipush 8, 2) := by decide +kernel
theorem dX14_hubCost_32 : decode cX14_hubCost 32 = .ok (.bipush 8, 2) := by decide +kernel
theorem dX14_hubCost_34 : decode cX14_hubCost 34 = .ok (.iload_n 2, 1) := by decide +kernel
theorem dX14_hubCost_35 : decode cX14_hubCost 35 = .ok (.imul, 1) := by decide +kernel
theorem dX14_hubCost_36 : decode cX14_hubCost 36 = .ok (.iadd, 1) := by decide +kernel
theorem dX14_hubCost_37 : decode cX14_hubCost 37 = .ok (.ireturn, 1) := by decide +kernel
set_option maxRecDepth 20000 in
theorem ggX14_reservedIn_X12_isPeriodic : GoodIn wsX14_reservedIn wsX12_isPeriodic := goodIn_r _ [8, 9, 64, 65, 66, 67, 68, 69, 70, 71, 72, 73] (by decide +kernel) (by decide +kernel)
set_option maxRecDepth 20000 in
theorem gX14_reservedIn_X12_isPeriodic : GoodIn wsX14_reservedIn (wsV RX14 226 RX12 yX12_isPeriodic wsX12_isPeriodic) := goodIn_app (goodIn_of _ (by decide +kernel)) ggX14_reservedIn_X12_isPeriodic
set_option maxRecDepth 20000 in
theorem ggX14_reservedIn_Jx4a65c_get_915e3 : GoodIn wsX14_reservedIn wsJx4a65c_get_915e3 := goodIn_r _ [14, 15, 16, 17, 18, 19, 20, 21, 22, 23, 24, 25, 26, 13, 27, 28, 95, 96, 97] (by decide +kernel) (by decide +kernel)
set_option maxRecDepth 20000 in
theorem gX14_reservedIn_Jx4a65c_get_915e3 : GoodIn wsX14_reservedIn (wsV RX14 76 RJx4a65c yJx4a65c_get_915e3 wsJx4a65c_get_915e3) := goodIn_app (goodIn_of _ (by decide +kernel)) ggX14_reservedIn_Jx4a65c_get_915e3
set_option maxRecDepth 20000 in
theorem ggX14_reservedIn_X14_hubCost : GoodIn wsX14_reservedIn wsX14_hubCost := goodIn_r _ [33, 34, 35, 36, 32, 37, 2, 3, 10, 11, 12, 13, 14, 15, 16, 17, 18, 19, 20, 21, 22, 23, 24, 25, 26, 27, 28, 45, 46, 47, 48, 49, 50, 51, 52, 53, 54, 55, 56, 57, 58, 59, 60, 61, 62, 63, 74, 75, 76, 77, 78, 79, 80, 81, 82, 83, 84, 85, 86, 87, 88, 89, 95, 96, 97] (by decide +kernel) (by decide +kernel)
set_option maxRecDepth 20000 in
theorem gX14_reservedIn_X14_hubCost : GoodIn wsX14_reservedIn (wsV RX14 241 RX14 yX14_hubCost wsX14_hubCost) := goodIn_app (goodIn_of _ (by decide +kernel)) ggX14_reservedIn_X14_hubCost
set_option maxRecDepth 20000 in
theorem ggX14_reservedIn_X14_translatorOf : GoodIn wsX14_reservedIn wsX14_translatorOf := goodIn_r _ [41, 2, 3, 10, 11, 12, 13, 14, 15, 16, 17, 18, 19, 20, 21, 22, 23, 24, 25, 26, 27, 28, 34, 35, 36, 32, 37, 45, 46, 47, 48, 49, 50, 51, 52, 53, 54, 55, 56, 57, 58, 59, 60, 61, 62, 63, 74, 75, 76, 77, 78, 79, 80, 81, 82, 83, 84, 85, 86, 87, 88, 89, 95, 96, 97] (by decide +kernel) (by decide +kernel)
set_option maxRecDepth 20000 in
theorem gX14_reservedIn_X14_translatorOf : GoodIn wsX14_reservedIn (wsV RX14 156 RX14 yX14_translatorOf wsX14_translatorOf) := goodIn_app (goodIn_of _ (by decide +kernel)) ggX14_reservedIn_X14_translatorOf
set_option maxRecDepth 20000 in
theorem ggX14_reservedIn_X14_hostCost : GoodIn wsX14_reservedIn wsX14_hostCost := goodIn_r _ [44] (by decide +kernel) (by decide +kernel)
set_option maxRecDepth 20000 in
theorem gX14_reservedIn_X14_hostCost : GoodIn wsX14_reservedIn (va_wsS RX14 245 yX14_hostCost wsX14_hostCost) := goodIn_app (goodIn_of _ (by decide +kernel)) ggX14_reservedIn_X14_hostCost
theorem dX14_reservedIn_0 : decode cX14_reservedIn 0 = .ok (.iconst 0, 1) := by decide +kernel
theorem dX14_reservedIn_1 : decode cX14_reservedIn 1 = .ok (.istore_n 3, 1) := by decide +kernel
theorem dX14_reservedIn_2 : decode cX14_reservedIn 2 = .ok (.aload_n 0, 1) := by decide +kernel
theorem dX14_reservedIn_3 : decode cX14_reservedIn 3 = .ok (.getfield 18, 3) := by decide +kernel
theorem dX14_reservedIn_6 : decode cX14_reservedIn 6 = .ok (.astore 4, 2) := by decide +kernel
theorem dX14_reservedIn_8 : decode cX14_reservedIn 8 = .ok (.aload 4, 2) := by decide +kernel
theorem dX14_reservedIn_10 : decode cX14_reservedIn 10 = .ok (.arraylength, 1) := by decide +kernel
theorem dX14_reservedIn_11 : decode cX14_reservedIn 11 = .ok (.istore 5, 2) := by decide +kernel
theorem dX14_reservedIn_13 : decode cX14_reservedIn 13 = .ok (.iconst 0, 1) := by decide +kernel
theorem dX14_reservedIn_14 : decode cX14_reservedIn 14 = .ok (.istore 6, 2) := by decide +kernel
theorem dX14_reservedIn_16 : decode cX14_reservedIn 16 = .ok (.iload 6, 2) := by decide +kernel
theorem dX14_reservedIn_18 : decode cX14_reservedIn 18 = .ok (.iload 5, 2) := by decide +kernel
theorem dX14_reservedIn_20 : decode cX14_reservedIn 20 = .ok (.if_icmp .ge 147, 3) := by decide +kernel
theorem dX14_reservedIn_23 : decode cX14_reservedIn 23 = .ok (.aload 4, 2) := by decide +kernel
theorem dX14_reservedIn_25 : decode cX14_reservedIn 25 = .ok (.iload 6, 2) := by decide +kernel
theorem dX14_reservedIn_27 : decode cX14_reservedIn 27 = .ok (.aaload, 1) := by decide +kernel
theorem dX14_reservedIn_28 : decode cX14_reservedIn 28 = .ok (.astore 7, 2) := by decide +kernel
theorem dX14_reservedIn_30 : decode cX14_reservedIn 30 = .ok (.aload 7, 2) := by decide +kernel
theorem dX14_reservedIn_32 : decode cX14_reservedIn 32 = .ok (.ifnull 129, 3) := by decide +kernel
theorem dX14_reservedIn_35 : decode cX14_reservedIn 35 = .ok (.aload 7, 2) := by decide +kernel
theorem dX14_reservedIn_37 : decode cX14_reservedIn 37 = .ok (.invokevirtual 226, 3) := by decide +kernel
theorem dX14_reservedIn_40 : decode cX14_reservedIn 40 = .ok (.ifCond .eq 121, 3) := by decide +kernel
theorem dX14_reservedIn_43 : decode cX14_reservedIn 43 = .ok (.iload_n 1, 1) := by decide +kernel
theorem dX14_reservedIn_44 : decode cX14_reservedIn 44 = .ok (.aload 7, 2) := by decide +kernel
theorem dX14_reservedIn_46 : decode cX14_reservedIn 46 = .ok (.getfield 229, 3) := by decide +kernel
theorem dX14_reservedIn_49 : decode cX14_reservedIn 49 = .ok (.irem, 1) := by decide +kernel
theorem dX14_reservedIn_50 : decode cX14_reservedIn 50 = .ok (.aload 7, 2) := by decide +kernel
theorem dX14_reservedIn_52 : decode cX14_reservedIn 52 = .ok (.getfield 232, 3) := by decide +kernel
theorem dX14_reservedIn_55 : decode cX14_reservedIn 55 = .ok (.if_icmp .ne 106, 3) := by decide +kernel
theorem dX14_reservedIn_58 : decode cX14_reservedIn 58 = .ok (.aload_n 0, 1) := by decide +kernel
theorem dX14_reservedIn_59 : decode cX14_reservedIn 59 = .ok (.getfield 10, 3) := by decide +kernel
theorem dX14_reservedIn_62 : decode cX14_reservedIn 62 = .ok (.aload 7, 2) := by decide +kernel
theorem dX14_reservedIn_64 : decode cX14_reservedIn 64 = .ok (.getfield 133, 3) := by decide +kernel
theorem dX14_reservedIn_67 : decode cX14_reservedIn 67 = .ok (.invokevirtual 76, 3) := by decide +kernel
theorem dX14_reservedIn_70 : decode cX14_reservedIn 70 = .ok (.checkcast 48, 3) := by decide +kernel
theorem dX14_reservedIn_73 : decode cX14_reservedIn 73 = .ok (.getfield 96, 3) := by decide +kernel
theorem dX14_reservedIn_76 : decode cX14_reservedIn 76 = .ok (.aload 7, 2) := by decide +kernel
theorem dX14_reservedIn_78 : decode cX14_reservedIn 78 = .ok (.getfield 235, 3) := by decide +kernel
theorem dX14_reservedIn_81 : decode cX14_reservedIn 81 = .ok (.aaload, 1) := by decide +kernel
theorem dX14_reservedIn_82 : decode cX14_reservedIn 82 = .ok (.getfield 238, 3) := by decide +kernel
theorem dX14_reservedIn_85 : decode cX14_reservedIn 85 = .ok (.istore 8, 2) := by decide +kernel
theorem dX14_reservedIn_87 : decode cX14_reservedIn 87 = .ok (.iload_n 2, 1) := by decide +kernel
theorem dX14_reservedIn_88 : decode cX14_reservedIn 88 = .ok (.iconst (-1), 1) := by decide +kernel
theorem dX14_reservedIn_89 : decode cX14_reservedIn 89 = .ok (.if_icmp .eq 33, 3) := by decide +kernel
theorem dX14_reservedIn_92 : decode cX14_reservedIn 92 = .ok (.aload_n 0, 1) := by decide +kernel
theorem dX14_reservedIn_93 : decode cX14_reservedIn 93 = .ok (.aload 7, 2) := by decide +kernel
theorem dX14_reservedIn_95 : decode cX14_reservedIn 95 = .ok (.getfield 133, 3) := by decide +kernel
theorem dX14_reservedIn_98 : decode cX14_reservedIn 98 = .ok (.iconst 1, 1) := by decide +kernel
theorem dX14_reservedIn_99 : decode cX14_reservedIn 99 = .ok (.invokevirtual 241, 3) := by decide +kernel
theorem dX14_reservedIn_102 : decode cX14_reservedIn 102 = .ok (.ifCond .le 20, 3) := by decide +kernel
theorem dX14_reservedIn_105 : decode cX14_reservedIn 105 = .ok (.aload_n 0, 1) := by decide +kernel
theorem dX14_reservedIn_106 : decode cX14_reservedIn 106 = .ok (.aload 7, 2) := by decide +kernel
theorem dX14_reservedIn_108 : decode cX14_reservedIn 108 = .ok (.getfield 133, 3) := by decide +kernel
theorem dX14_reservedIn_111 : decode cX14_reservedIn 111 = .ok (.invokevirtual 156, 3) := by decide +kernel
theorem dX14_reservedIn_114 : decode cX14_reservedIn 114 = .ok (.iload_n 2, 1) := by decide +kernel
theorem dX14_reservedIn_115 : decode cX14_reservedIn 115 = .ok (.if_icmp .ne 7, 3) := by decide +kernel
theorem dX14_reservedIn_118 : decode cX14_reservedIn 118 = .ok (.iconst 1, 1) := by decide +kernel
theorem dX14_reservedIn_119 : decode cX14_reservedIn 119 = .ok (.goto 4, 3) := by decide +kernel
theorem dX14_reservedIn_122 : decode cX14_reservedIn 122 = .ok (.iconst 0, 1) := by decide +kernel
theorem dX14_reservedIn_123 : decode cX14_reservedIn 123 = .ok (.istore 9, 2) := by decide +kernel
theorem dX14_reservedIn_125 : decode cX14_reservedIn 125 = .ok (.iload_n 3, 1) := by decide +kernel
theorem dX14_reservedIn_126 : decode cX14_reservedIn 126 = .ok (.iload_n 2, 1) := by decide +kernel
theorem dX14_reservedIn_127 : decode cX14_reservedIn 127 = .ok (.iconst (-1), 1) := by decide +kernel
theorem dX14_reservedIn_128 : decode cX14_reservedIn 128 = .ok (.if_icmp .ne 11, 3) := by decide +kernel
theorem dX14_reservedIn_131 : decode cX14_reservedIn 131 = .ok (.iload 8, 2) := by decide +kernel
theorem dX14_reservedIn_133 : decode cX14_reservedIn 133 = .ok (.invokestatic 245, 3) := by decide +kernel
theorem dX14_reservedIn_136 : decode cX14_reservedIn 136 = .ok (.goto 23, 3) := by decide +kernel
theorem dX14_reservedIn_139 : decode cX14_reservedIn 139 = .ok (.iload 9, 2) := by decide +kernel
theorem dX14_reservedIn_141 : decode cX14_reservedIn 141 = .ok (.ifCond .eq 17, 3) := by decide +kernel
theorem dX14_reservedIn_144 : decode cX14_reservedIn 144 = .ok (.aload_n 0, 1) := by decide +kernel
theorem dX14_reservedIn_145 : decode cX14_reservedIn 145 = .ok (.aload 7, 2) := by decide +kernel
theorem dX14_reservedIn_147 : decode cX14_reservedIn 147 = .ok (.getfield 133, 3) := by decide +kernel
theorem dX14_reservedIn_150 : decode cX14_reservedIn 150 = .ok (.iload 8, 2) := by decide +kernel
theorem dX14_reservedIn_152 : decode cX14_reservedIn 152 = .ok (.invokevirtual 241, 3) := by decide +kernel
theorem dX14_reservedIn_155 : decode cX14_reservedIn 155 = .ok (.goto 4, 3) := by decide +kernel
theorem dX14_reservedIn_158 : decode cX14_reservedIn 158 = .ok (.iconst 0, 1) := by decide +kernel
theorem dX14_reservedIn_159 : decode cX14_reservedIn 159 = .ok (.iadd, 1) := by decide +kernel
theorem dX14_reservedIn_160 : decode cX14_reservedIn 160 = .ok (.istore_n 3, 1) := by decide +kernel
theorem dX14_reservedIn_161 : decode cX14_reservedIn 161 = .ok (.iinc 6 1, 3) := by decide +kernel
theorem dX14_reservedIn_164 : decode cX14_reservedIn 164 = .ok (.goto (-148), 3) := by decide +kernel
theorem dX14_reservedIn_167 : decode cX14_reservedIn 167 = .ok (.iload_n 3, 1) := by decide +kernel
theorem dX14_reservedIn_168 : decode cX14_reservedIn 168 = .ok (.ireturn, 1) := by decide +kernel
set_option maxRecDepth 20000 in
theorem ggX14_phaseFor_Jx4a65c_get_915e3 : GoodIn wsX14_phaseFor wsJx4a65c_get_915e3 := goodIn_r _ [11, 12, 13, 14, 15, 16, 17, 18, 19, 20, 21, 22, 23, 10, 24, 25, 103, 104, 105] (by decide +kernel) (by decide +kernel)
set_option maxRecDepth 20000 in
theorem gX14_phaseFor_Jx4a65c_get_915e3 : GoodIn wsX14_phaseFor (wsV RX14 76 RJx4a65c yJx4a65c_get_915e3 wsJx4a65c_get_915e3) := goodIn_app (goodIn_of _ (by decide +kernel)) ggX14_phaseFor_Jx4a65c_get_915e3
set_option maxRecDepth 20000 in
theorem ggX14_phaseFor_X14_translatorOf : GoodIn wsX14_phaseFor wsX14_translatorOf := goodIn_r _ [30, 1, 2, 7, 8, 9, 10, 11, 12, 13, 14, 15, 16, 17, 18, 19, 20, 21, 22, 23, 24, 25, 31, 32, 33, 29, 34, 53, 54, 55, 56, 57, 58, 59, 60, 61, 62, 63, 64, 65, 66, 67, 68, 69, 70, 71, 82, 83, 84, 85, 86, 87, 88, 89, 90, 91, 92, 93, 94, 95, 96, 97, 103, 104, 105] (by decide +kernel) (by decide +kernel)
set_option maxRecDepth 20000 in
theorem gX14_phaseFor_X14_translatorOf : GoodIn wsX14_phaseFor (wsV RX14 156 RX14 yX14_translatorOf wsX14_translatorOf) := goodIn_app (goodIn_of _ (by decide +kernel)) ggX14_phaseFor_X14_translatorOf
set_option maxRecDepth 20000 in
theorem ggX14_phaseFor_X14_hubCost : GoodIn wsX14_phaseFor wsX14_hubCost := goodIn_r _ [38, 31, 32, 33, 29, 34, 1, 2, 7, 8, 9, 10, 11, 12, 13, 14, 15, 16, 17, 18, 19, 20, 21, 22, 23, 24, 25, 53, 54, 55, 56, 57, 58, 59, 60, 61, 62, 63, 64, 65, 66, 67, 68, 69, 70, 71, 82, 83, 84, 85, 86, 87, 88, 89, 90, 91, 92, 93, 94, 95, 96, 97, 103, 104, 105] (by decide +kernel) (by decide +kernel)
set_option maxRecDepth 20000 in
theorem gX14_phaseFor_X14_hubCost : GoodIn wsX14_phaseFor (wsV RX14 241 RX14 yX14_hubCost wsX14_hubCost) := goodIn_app (goodIn_of _ (by decide +kernel)) ggX14_phaseFor_X14_hubCost
set_option maxRecDepth 20000 in
theorem ggX14_phaseFor_X14_reservedIn : GoodIn wsX14_phaseFor wsX14_reservedIn := goodIn_ca (goodIn_r _ [42, 43, 1, 2, 44, 45, 46, 47, 48, 49, 7, 8, 9, 10, 11, 12, 13, 14, 15, 16, 17, 18, 19, 20, 21, 22, 23, 24, 25, 35, 36, 37, 29, 38, 31, 32, 33, 34, 26, 27, 28, 30, 50, 51, 52, 53, 54, 55, 56, 57, 58, 59, 60, 61, 62, 63, 64, 65, 66, 67, 68, 69, 70, 71, 72, 73, 74, 75, 76, 77, 78, 79, 80, 81, 82, 83, 84, 85, 86, 87, 88, 89, 90, 91, 92, 93, 94, 95, 96, 97, 98, 99, 100, 101, 102, 103, 104, 105] (by decide +kernel) (by decide +kernel)) (goodIn_sub (fun _ h => List.mem_cons_of_mem _ (List.mem_append_right _ h)) (by decide +kernel))
set_option maxRecDepth 20000 in
theorem gX14_phaseFor_X14_reservedIn : GoodIn wsX14_phaseFor (wsV RX14 248 RX14 yX14_reservedIn wsX14_reservedIn) := goodIn_app (goodIn_of _ (by decide +kernel)) ggX14_phaseFor_X14_reservedIn
set_option maxRecDepth 20000 in
theorem ggX14_phaseFor_X14_hostCost : GoodIn wsX14_phaseFor wsX14_hostCost := goodIn_r _ [52] (by decide +kernel) (by decide +kernel)
set_option maxRecDepth 20000 in
theorem gX14_phaseFor_X14_hostCost : GoodIn wsX14_phaseFor (va_wsS RX14 245 yX14_hostCost wsX14_hostCost) := goodIn_app (goodIn_of _ (by decide +kernel)) ggX14_phaseFor_X14_hostCost
theorem dX14_phaseFor_0 : decode cX14_phaseFor 0 = .ok (.aload_n 0, 1) := by decide +kernel
theorem dX14_phaseFor_1 : decode cX14_phaseFor 1 = .ok (.getfield 10, 3) := by decide +kernel
theorem dX14_phaseFor_4 : decode cX14_phaseFor 4 = .ok (.aload_n 1, 1) := by decide +kernel
theorem dX14_phaseFor_5 : decode cX14_phaseFor 5 = .ok (.getfield 133, 3) := by decide +kernel
theorem dX14_phaseFor_8 : decode cX14_phaseFor 8 = .ok (.invokevirtual 76, 3) := by decide +kernel
theorem dX14_phaseFor_11 : decode cX14_phaseFor 11 = .ok (.checkcast 48, 3) := by decide +kernel
theorem dX14_phaseFor_14 : decode cX14_phaseFor 14 = .ok (.getfield 96, 3) := by decide +kernel
theorem dX14_phaseFor_17 : decode cX14_phaseFor 17 = .ok (.aload_n 1, 1) := by decide +kernel
theorem dX14_phaseFor_18 : decode cX14_phaseFor 18 = .ok (.getfield 235, 3) := by decide +kernel
theorem dX14_phaseFor_21 : decode cX14_phaseFor 21 = .ok (.aaload, 1) := by decide +kernel
theorem dX14_phaseFor_22 : decode cX14_phaseFor 22 = .ok (.getfield 238, 3) := by decide +kernel
theorem dX14_phaseFor_25 : decode cX14_phaseFor 25 = .ok (.istore_n 2, 1) := by decide +kernel
theorem dX14_phaseFor_26 : decode cX14_phaseFor 26 = .ok (.aload_n 0, 1) := by decide +kernel
theorem dX14_phaseFor_27 : decode cX14_phaseFor 27 = .ok (.aload_n 1, 1) := by decide +kernel
theorem dX14_phaseFor_28 : decode cX14_phaseFor 28 = .ok (.getfield 133, 3) := by decide +kernel
theorem dX14_phaseFor_31 : decode cX14_phaseFor 31 = .ok (.invokevirtual 156, 3) := by decide +kernel
theorem dX14_phaseFor_34 : decode cX14_phaseFor 34 = .ok (.istore_n 3, 1) := by decide +kernel
theorem dX14_phaseFor_35 : decode cX14_phaseFor 35 = .ok (.aload_n 0, 1) := by decide +kernel
theorem dX14_phaseFor_36 : decode cX14_phaseFor 36 = .ok (.aload_n 1, 1) := by decide +kernel
theorem dX14_phaseFor_37 : decode cX14_phaseFor 37 = .ok (.getfield 133, 3) := by decide +kernel
theorem dX14_phaseFor_40 : decode cX14_phaseFor 40 = .ok (.iload_n 2, 1) := by decide +kernel
theorem dX14_phaseFor_41 : decode cX14_phaseFor 41 = .ok (.invokevirtual 241, 3) := by decide +kernel
theorem dX14_phaseFor_44 : decode cX14_phaseFor 44 = .ok (.istore 4, 2) := by decide +kernel
theorem dX14_phaseFor_46 : decode cX14_phaseFor 46 = .ok (.iconst (-1), 1) := by decide +kernel
theorem dX14_phaseFor_47 : decode cX14_phaseFor 47 = .ok (.istore 5, 2) := by decide +kernel
theorem dX14_phaseFor_49 : decode cX14_phaseFor 49 = .ok (.iconst 0, 1) := by decide +kernel
theorem dX14_phaseFor_50 : decode cX14_phaseFor 50 = .ok (.istore 6, 2) := by decide +kernel
theorem dX14_phaseFor_52 : decode cX14_phaseFor 52 = .ok (.iconst 0, 1) := by decide +kernel
theorem dX14_phaseFor_53 : decode cX14_phaseFor 53 = .ok (.istore 7, 2) := by decide +kernel
theorem dX14_phaseFor_55 : decode cX14_phaseFor 55 = .ok (.iload 7, 2) := by decide +kernel
theorem dX14_phaseFor_57 : decode cX14_phaseFor 57 = .ok (.aload_n 1, 1) := by decide +kernel
theorem dX14_phaseFor_58 : decode cX14_phaseFor 58 = .ok (.getfield 229, 3) := by decide +kernel
theorem dX14_phaseFor_61 : decode cX14_phaseFor 61 = .ok (.if_icmp .ge 164, 3) := by decide +kernel
theorem dX14_phaseFor_64 : decode cX14_phaseFor 64 = .ok (.iconst 1, 1) := by decide +kernel
theorem dX14_phaseFor_65 : decode cX14_phaseFor 65 = .ok (.istore 8, 2) := by decide +kernel
theorem dX14_phaseFor_67 : decode cX14_phaseFor 67 = .ok (.iconst 0, 1) := by decide +kernel
theorem dX14_phaseFor_68 : decode cX14_phaseFor 68 = .ok (.istore 9, 2) := by decide +kernel
theorem dX14_phaseFor_70 : decode cX14_phaseFor 70 = .ok (.iconst 0, 1) := by decide +kernel
theorem dX14_phaseFor_71 : decode cX14_phaseFor 71 = .ok (.istore 10, 2) := by decide +kernel
theorem dX14_phaseFor_73 : decode cX14_phaseFor 73 = .ok (.iload 10, 2) := by decide +kernel
theorem dX14_phaseFor_75 : decode cX14_phaseFor 75 = .ok (.bipush 8, 2) := by decide +kernel
theorem dX14_phaseFor_77 : decode cX14_phaseFor 77 = .ok (.if_icmp .ge 116, 3) := by decide +kernel
theorem dX14_phaseFor_80 : decode cX14_phaseFor 80 = .ok (.iload 10, 2) := by decide +kernel
theorem dX14_phaseFor_82 : decode cX14_phaseFor 82 = .ok (.aload_n 1, 1) := by decide +kernel
theorem dX14_phaseFor_83 : decode cX14_phaseFor 83 = .ok (.getfield 229, 3) := by decide +kernel
theorem dX14_phaseFor_86 : decode cX14_phaseFor 86 = .ok (.irem, 1) := by decide +kernel
theorem dX14_phaseFor_87 : decode cX14_phaseFor 87 = .ok (.iload 7, 2) := by decide +kernel
theorem dX14_phaseFor_89 : decode cX14_phaseFor 89 = .ok (.if_icmp .ne 7, 3) := by decide +kernel
theorem dX14_phaseFor_92 : decode cX14_phaseFor 92 = .ok (.iconst 1, 1) := by decide +kernel
theorem dX14_phaseFor_93 : decode cX14_phaseFor 93 = .ok (.goto 4, 3) := by decide +kernel
theorem dX14_phaseFor_96 : decode cX14_phaseFor 96 = .ok (.iconst 0, 1) := by decide +kernel
theorem dX14_phaseFor_97 : decode cX14_phaseFor 97 = .ok (.istore 11, 2) := by decide +kernel
theorem dX14_phaseFor_99 : decode cX14_phaseFor 99 = .ok (.aload_n 0, 1) := by decide +kernel
theorem dX14_phaseFor_100 : decode cX14_phaseFor 100 = .ok (.iload 10, 2) := by decide +kernel
theorem dX14_phaseFor_102 : decode cX14_phaseFor 102 = .ok (.iconst (-1), 1) := by decide +kernel
theorem dX14_phaseFor_103 : decode cX14_phaseFor 103 = .ok (.invokevirtual 248, 3) := by decide +kernel
theorem dX14_phaseFor_106 : decode cX14_phaseFor 106 = .ok (.iload 11, 2) := by decide +kernel
theorem dX14_phaseFor_108 : decode cX14_phaseFor 108 = .ok (.ifCond .eq 10, 3) := by decide +kernel
theorem dX14_phaseFor_111 : decode cX14_phaseFor 111 = .ok (.iload_n 2, 1) := by decide +kernel
theorem dX14_phaseFor_112 : decode cX14_phaseFor 112 = .ok (.invokestatic 245, 3) := by decide +kernel
theorem dX14_phaseFor_115 : decode cX14_phaseFor 115 = .ok (.goto 4, 3) := by decide +kernel
theorem dX14_phaseFor_118 : decode cX14_phaseFor 118 = .ok (.iconst 0, 1) := by decide +kernel
theorem dX14_phaseFor_119 : decode cX14_phaseFor 119 = .ok (.iadd, 1) := by decide +kernel
theorem dX14_phaseFor_120 : decode cX14_phaseFor 120 = .ok (.istore 12, 2) := by decide +kernel
theorem dX14_phaseFor_122 : decode cX14_phaseFor 122 = .ok (.iload 9, 2) := by decide +kernel
theorem dX14_phaseFor_124 : decode cX14_phaseFor 124 = .ok (.iload 12, 2) := by decide +kernel
theorem dX14_phaseFor_126 : decode cX14_phaseFor 126 = .ok (.invokestatic 251, 3) := by decide +kernel
theorem dX14_phaseFor_129 : decode cX14_phaseFor 129 = .ok (.istore 9, 2) := by decide +kernel
theorem dX14_phaseFor_131 : decode cX14_phaseFor 131 = .ok (.iload 12, 2) := by decide +kernel
theorem dX14_phaseFor_133 : decode cX14_phaseFor 133 = .ok (.bipush 80, 2) := by decide +kernel
theorem dX14_phaseFor_135 : decode cX14_phaseFor 135 = .ok (.if_icmp .gt 23, 3) := by decide +kernel
theorem dX14_phaseFor_138 : decode cX14_phaseFor 138 = .ok (.iload 4, 2) := by decide +kernel
theorem dX14_phaseFor_140 : decode cX14_phaseFor 140 = .ok (.ifCond .le 22, 3) := by decide +kernel
theorem dX14_phaseFor_143 : decode cX14_phaseFor 143 = .ok (.aload_n 0, 1) := by decide +kernel
theorem dX14_phaseFor_144 : decode cX14_phaseFor 144 = .ok (.iload 10, 2) := by decide +kernel
theorem dX14_phaseFor_146 : decode cX14_phaseFor 146 = .ok (.iload_n 3, 1) := by decide +kernel
theorem dX14_phaseFor_147 : decode cX14_phaseFor 147 = .ok (.invokevirtual 248, 3) := by decide +kernel
theorem dX14_phaseFor_150 : decode cX14_phaseFor 150 = .ok (.iload 4, 2) := by decide +kernel
theorem dX14_phaseFor_152 : decode cX14_phaseFor 152 = .ok (.iadd, 1) := by decide +kernel
theorem dX14_phaseFor_153 : decode cX14_phaseFor 153 = .ok (.bipush 48, 2) := by decide +kernel
theorem dX14_phaseFor_155 : decode cX14_phaseFor 155 = .ok (.if_icmp .le 7, 3) := by decide +kernel
theorem dX14_phaseFor_158 : decode cX14_phaseFor 158 = .ok (.iconst 1, 1) := by decide +kernel
theorem dX14_phaseFor_159 : decode cX14_phaseFor 159 = .ok (.goto 4, 3) := by decide +kernel
theorem dX14_phaseFor_162 : decode cX14_phaseFor 162 = .ok (.iconst 0, 1) := by decide +kernel
theorem dX14_phaseFor_163 : decode cX14_phaseFor 163 = .ok (.istore 13, 2) := by decide +kernel
theorem dX14_phaseFor_165 : decode cX14_phaseFor 165 = .ok (.iload 8, 2) := by decide +kernel
theorem dX14_phaseFor_167 : decode cX14_phaseFor 167 = .ok (.ifCond .eq 17, 3) := by decide +kernel
theorem dX14_phaseFor_170 : decode cX14_phaseFor 170 = .ok (.iload 11, 2) := by decide +kernel
theorem dX14_phaseFor_172 : decode cX14_phaseFor 172 = .ok (.ifCond .eq 8, 3) := by decide +kernel
theorem dX14_phaseFor_175 : decode cX14_phaseFor 175 = .ok (.iload 13, 2) := by decide +kernel
theorem dX14_phaseFor_177 : decode cX14_phaseFor 177 = .ok (.ifCond .ne 7, 3) := by decide +kernel
theorem dX14_phaseFor_180 : decode cX14_phaseFor 180 = .ok (.iconst 1, 1) := by decide +kernel
theorem dX14_phaseFor_181 : decode cX14_phaseFor 181 = .ok (.goto 4, 3) := by decide +kernel
theorem dX14_phaseFor_184 : decode cX14_phaseFor 184 = .ok (.iconst 0, 1) := by decide +kernel
theorem dX14_phaseFor_185 : decode cX14_phaseFor 185 = .ok (.istore 8, 2) := by decide +kernel
theorem dX14_phaseFor_187 : decode cX14_phaseFor 187 = .ok (.iinc 10 1, 3) := by decide +kernel
theorem dX14_phaseFor_190 : decode cX14_phaseFor 190 = .ok (.goto (-117), 3) := by decide +kernel
theorem dX14_phaseFor_193 : decode cX14_phaseFor 193 = .ok (.iload 8, 2) := by decide +kernel
theorem dX14_phaseFor_195 : decode cX14_phaseFor 195 = .ok (.ifCond .eq 24, 3) := by decide +kernel
theorem dX14_phaseFor_198 : decode cX14_phaseFor 198 = .ok (.iload 5, 2) := by decide +kernel
theorem dX14_phaseFor_200 : decode cX14_phaseFor 200 = .ok (.iconst (-1), 1) := by decide +kernel
theorem dX14_phaseFor_201 : decode cX14_phaseFor 201 = .ok (.if_icmp .eq 10, 3) := by decide +kernel
theorem dX14_phaseFor_204 : decode cX14_phaseFor 204 = .ok (.iload 9, 2) := by decide +kernel
theorem dX14_phaseFor_206 : decode cX14_phaseFor 206 = .ok (.iload 6, 2) := by decide +kernel
theorem dX14_phaseFor_208 : decode cX14_phaseFor 208 = .ok (.if_icmp .ge 11, 3) := by decide +kernel
theorem dX14_phaseFor_211 : decode cX14_phaseFor 211 = .ok (.iload 7, 2) := by decide +kernel
theorem dX14_phaseFor_213 : decode cX14_phaseFor 213 = .ok (.istore 5, 2) := by decide +kernel
theorem dX14_phaseFor_215 : decode cX14_phaseFor 215 = .ok (.iload 9, 2) := by decide +kernel
theorem dX14_phaseFor_217 : decode cX14_phaseFor 217 = .ok (.istore 6, 2) := by decide +kernel
theorem dX14_phaseFor_219 : decode cX14_phaseFor 219 = .ok (.iinc 7 1, 3) := by decide +kernel
theorem dX14_phaseFor_222 : decode cX14_phaseFor 222 = .ok (.goto (-167), 3) := by decide +kernel
theorem dX14_phaseFor_225 : decode cX14_phaseFor 225 = .ok (.iload 5, 2) := by decide +kernel
theorem dX14_phaseFor_227 : decode cX14_phaseFor 227 = .ok (.ireturn, 1) := by decide +kernel
set_option maxRecDepth 20000 in
theorem ggX14_isEnd_X14_isDevice : GoodIn wsX14_isEnd wsX14_isDevice := goodIn_r _ [7, 1, 8, 9, 10, 11, 12, 13, 14, 15, 6, 16, 34, 35, 36, 37, 38, 39, 40, 41, 42, 43, 44, 45, 46, 47, 48, 49, 50, 51, 52, 69, 70, 71] (by decide +kernel) (by decide +kernel)
set_option maxRecDepth 20000 in
theorem gX14_isEnd_X14_isDevice : GoodIn wsX14_isEnd (wsV RX14 72 RX14 yX14_isDevice wsX14_isDevice) := goodIn_app (goodIn_of _ (by decide +kernel)) ggX14_isEnd_X14_isDevice
set_option maxRecDepth 20000 in
theorem ggX14_isEnd_X14_in : GoodIn wsX14_isEnd wsX14_in := goodIn_r _ [16] (by decide +kernel) (by decide +kernel)
set_option maxRecDepth 20000 in
theorem gX14_isEnd_X14_in : GoodIn wsX14_isEnd (va_wsS RX14 68 yX14_in wsX14_in) := goodIn_app (goodIn_of _ (by decide +kernel)) ggX14_isEnd_X14_in
set_option maxRecDepth 20000 in
theorem ggX14_isEnd_Jx4a65c_get_915e3 : GoodIn wsX14_isEnd wsJx4a65c_get_915e3 := goodIn_r _ [20, 13, 21, 22, 23, 24, 25, 26, 27, 28, 29, 30, 31, 11, 32, 33, 69, 70, 71] (by decide +kernel) (by decide +kernel)
set_option maxRecDepth 20000 in
theorem gX14_isEnd_Jx4a65c_get_915e3 : GoodIn wsX14_isEnd (wsV RX14 76 RJx4a65c yJx4a65c_get_915e3 wsJx4a65c_get_915e3) := goodIn_app (goodIn_of _ (by decide +kernel)) ggX14_isEnd_Jx4a65c_get_915e3
theorem dX14_isEnd_0 : decode cX14_isEnd 0 = .ok (.aload_n 0, 1) := by decide +kernel
theorem dX14_isEnd_1 : decode cX14_isEnd 1 = .ok (.iload_n 1, 1) := by decide +kernel
theorem dX14_isEnd_2 : decode cX14_isEnd 2 = .ok (.invokevirtual 72, 3) := by decide +kernel
theorem dX14_isEnd_5 : decode cX14_isEnd 5 = .ok (.ifCond .eq 35, 3) := by decide +kernel
theorem dX14_isEnd_8 : decode cX14_isEnd 8 = .ok (.iload_n 2, 1) := by decide +kernel
theorem dX14_isEnd_9 : decode cX14_isEnd 9 = .ok (.iconst 1, 1) := by decide +kernel
theorem dX14_isEnd_10 : decode cX14_isEnd 10 = .ok (.iconst 3, 1) := by decide +kernel
theorem dX14_isEnd_11 : decode cX14_isEnd 11 = .ok (.invokestatic 68, 3) := by decide +kernel
theorem dX14_isEnd_14 : decode cX14_isEnd 14 = .ok (.ifCond .eq 26, 3) := by decide +kernel
