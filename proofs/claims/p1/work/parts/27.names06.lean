theorem dX14_isEnd_17 : decode cX14_isEnd 17 = .ok (.aload_n 0, 1) := by decide +kernel
theorem dX14_isEnd_18 : decode cX14_isEnd 18 = .ok (.getfield 10, 3) := by decide +kernel
theorem dX14_isEnd_21 : decode cX14_isEnd 21 = .ok (.iload_n 1, 1) := by decide +kernel
theorem dX14_isEnd_22 : decode cX14_isEnd 22 = .ok (.invokevirtual 76, 3) := by decide +kernel
theorem dX14_isEnd_25 : decode cX14_isEnd 25 = .ok (.checkcast 48, 3) := by decide +kernel
theorem dX14_isEnd_28 : decode cX14_isEnd 28 = .ok (.getfield 96, 3) := by decide +kernel
theorem dX14_isEnd_31 : decode cX14_isEnd 31 = .ok (.iload_n 2, 1) := by decide +kernel
theorem dX14_isEnd_32 : decode cX14_isEnd 32 = .ok (.aaload, 1) := by decide +kernel
theorem dX14_isEnd_33 : decode cX14_isEnd 33 = .ok (.ifnull 7, 3) := by decide +kernel
theorem dX14_isEnd_36 : decode cX14_isEnd 36 = .ok (.iconst 1, 1) := by decide +kernel
theorem dX14_isEnd_37 : decode cX14_isEnd 37 = .ok (.goto 4, 3) := by decide +kernel
theorem dX14_isEnd_40 : decode cX14_isEnd 40 = .ok (.iconst 0, 1) := by decide +kernel
theorem dX14_isEnd_41 : decode cX14_isEnd 41 = .ok (.ireturn, 1) := by decide +kernel
set_option maxRecDepth 20000 in
theorem ggX14_open_X14_isEnd : GoodIn wsX14_open wsX14_isEnd := goodIn_r _ [12, 1, 2, 13, 14, 15, 11, 16, 17, 18, 19, 20, 21, 22, 23, 24, 25, 26, 27, 28, 29, 30, 31, 32, 33, 34, 35, 36, 37, 38, 39, 40, 41, 42, 103, 104, 105, 106, 107, 108, 109, 110, 111, 112, 113, 114, 115, 116, 117, 118, 119, 120, 121, 122, 123, 124, 125, 126, 127, 128, 129, 130, 131, 132, 133, 134, 135, 136, 137, 153, 154, 155] (by decide +kernel) (by decide +kernel)
set_option maxRecDepth 20000 in
theorem gX14_open_X14_isEnd : GoodIn wsX14_open (wsV RX14 256 RX14 yX14_isEnd wsX14_isEnd) := goodIn_app (goodIn_of _ (by decide +kernel)) ggX14_open_X14_isEnd
set_option maxRecDepth 20000 in
theorem ggX14_open_Jx4a65c_get_915e3 : GoodIn wsX14_open wsJx4a65c_get_915e3 := goodIn_r _ [29, 22, 30, 31, 32, 33, 34, 35, 36, 37, 38, 39, 40, 20, 41, 42, 153, 154, 155] (by decide +kernel) (by decide +kernel)
set_option maxRecDepth 20000 in
theorem gX14_open_Jx4a65c_get_915e3 : GoodIn wsX14_open (wsV RX14 76 RJx4a65c yJx4a65c_get_915e3 wsJx4a65c_get_915e3) := goodIn_app (goodIn_of _ (by decide +kernel)) ggX14_open_Jx4a65c_get_915e3
set_option maxRecDepth 20000 in
theorem ggX14_open_X12_init : GoodIn wsX14_open wsX12_init := goodIn_r _ [45, 46, 47, 48, 49, 50, 51, 52, 20, 53, 54, 55, 56, 57, 58, 59, 60, 61, 42, 62, 63, 64, 65, 66, 67, 68, 69, 70, 71, 138, 139, 140, 141, 142, 143, 144, 145, 146, 147, 153, 154, 155] (by decide +kernel) (by decide +kernel)
set_option maxRecDepth 20000 in
theorem gX14_open_X12_init : GoodIn wsX14_open (wsX12_init) := ggX14_open_X12_init
set_option maxRecDepth 20000 in
theorem ggX14_open_X12_isPeriodic : GoodIn wsX14_open wsX12_isPeriodic := goodIn_r _ [75, 56, 138, 139, 140, 141, 142, 143, 144, 145, 146, 147] (by decide +kernel) (by decide +kernel)
set_option maxRecDepth 20000 in
theorem gX14_open_X12_isPeriodic : GoodIn wsX14_open (wsV RX14 226 RX12 yX12_isPeriodic wsX12_isPeriodic) := goodIn_app (goodIn_of _ (by decide +kernel)) ggX14_open_X12_isPeriodic
set_option maxRecDepth 20000 in
theorem ggX14_open_X14_phaseFor : GoodIn wsX14_open wsX14_phaseFor := goodIn_ca (goodIn_r _ [79, 1, 2, 80, 81, 82, 83, 26, 27, 28, 20, 29, 22, 30, 31, 32, 33, 34, 35, 36, 37, 38, 39, 40, 41, 42, 84, 85, 86, 11, 87, 88, 89, 90, 91, 92, 93, 94, 95, 96, 97, 98, 99, 4, 72, 73, 74, 7, 75, 56, 100, 101, 102, 103, 104, 105, 106, 107, 108, 109, 110, 111, 112, 113, 114, 115, 116, 117, 118, 119, 120, 121, 138, 139, 140, 141, 142, 143, 144, 145, 146, 147, 122, 123, 124, 125, 126, 127, 128, 129, 130, 131, 132, 133, 134, 135, 136, 137, 148, 149, 150, 151, 152, 153, 154, 155] (by decide +kernel) (by decide +kernel)) (goodIn_sub (fun _ h => List.mem_cons_of_mem _ (List.mem_append_right _ h)) (by decide +kernel))
set_option maxRecDepth 20000 in
theorem gX14_open_X14_phaseFor : GoodIn wsX14_open (wsV RX14 262 RX14 yX14_phaseFor wsX14_phaseFor) := goodIn_app (goodIn_of _ (by decide +kernel)) ggX14_open_X14_phaseFor
theorem dX14_open_0 : decode cX14_open 0 = .ok (.iload 4, 2) := by decide +kernel
theorem dX14_open_2 : decode cX14_open 2 = .ok (.iconst 1, 1) := by decide +kernel
theorem dX14_open_3 : decode cX14_open 3 = .ok (.if_icmp .eq 22, 3) := by decide +kernel
theorem dX14_open_6 : decode cX14_open 6 = .ok (.iload 4, 2) := by decide +kernel
theorem dX14_open_8 : decode cX14_open 8 = .ok (.iconst 2, 1) := by decide +kernel
theorem dX14_open_9 : decode cX14_open 9 = .ok (.if_icmp .eq 16, 3) := by decide +kernel
theorem dX14_open_12 : decode cX14_open 12 = .ok (.iload 4, 2) := by decide +kernel
theorem dX14_open_14 : decode cX14_open 14 = .ok (.iconst 4, 1) := by decide +kernel
theorem dX14_open_15 : decode cX14_open 15 = .ok (.if_icmp .eq 10, 3) := by decide +kernel
theorem dX14_open_18 : decode cX14_open 18 = .ok (.iload 4, 2) := by decide +kernel
theorem dX14_open_20 : decode cX14_open 20 = .ok (.bipush 8, 2) := by decide +kernel
theorem dX14_open_22 : decode cX14_open 22 = .ok (.if_icmp .ne 7, 3) := by decide +kernel
theorem dX14_open_25 : decode cX14_open 25 = .ok (.iconst 1, 1) := by decide +kernel
theorem dX14_open_26 : decode cX14_open 26 = .ok (.goto 4, 3) := by decide +kernel
theorem dX14_open_29 : decode cX14_open 29 = .ok (.iconst 0, 1) := by decide +kernel
theorem dX14_open_30 : decode cX14_open 30 = .ok (.istore 5, 2) := by decide +kernel
theorem dX14_open_32 : decode cX14_open 32 = .ok (.iload_n 3, 1) := by decide +kernel
theorem dX14_open_33 : decode cX14_open 33 = .ok (.bipush 98, 2) := by decide +kernel
theorem dX14_open_35 : decode cX14_open 35 = .ok (.if_icmp .eq 20, 3) := by decide +kernel
theorem dX14_open_38 : decode cX14_open 38 = .ok (.iload_n 3, 1) := by decide +kernel
theorem dX14_open_39 : decode cX14_open 39 = .ok (.bipush 105, 2) := by decide +kernel
theorem dX14_open_41 : decode cX14_open 41 = .ok (.if_icmp .eq 9, 3) := by decide +kernel
theorem dX14_open_44 : decode cX14_open 44 = .ok (.iload_n 3, 1) := by decide +kernel
theorem dX14_open_45 : decode cX14_open 45 = .ok (.bipush 115, 2) := by decide +kernel
theorem dX14_open_47 : decode cX14_open 47 = .ok (.if_icmp .ne 12, 3) := by decide +kernel
theorem dX14_open_50 : decode cX14_open 50 = .ok (.iload 5, 2) := by decide +kernel
theorem dX14_open_52 : decode cX14_open 52 = .ok (.ifCond .eq 7, 3) := by decide +kernel
theorem dX14_open_55 : decode cX14_open 55 = .ok (.iconst 1, 1) := by decide +kernel
theorem dX14_open_56 : decode cX14_open 56 = .ok (.goto 4, 3) := by decide +kernel
theorem dX14_open_59 : decode cX14_open 59 = .ok (.iconst 0, 1) := by decide +kernel
theorem dX14_open_60 : decode cX14_open 60 = .ok (.istore 6, 2) := by decide +kernel
theorem dX14_open_62 : decode cX14_open 62 = .ok (.aload_n 0, 1) := by decide +kernel
theorem dX14_open_63 : decode cX14_open 63 = .ok (.aload_n 0, 1) := by decide +kernel
theorem dX14_open_64 : decode cX14_open 64 = .ok (.iload_n 1, 1) := by decide +kernel
theorem dX14_open_65 : decode cX14_open 65 = .ok (.iload_n 2, 1) := by decide +kernel
theorem dX14_open_66 : decode cX14_open 66 = .ok (.invokevirtual 256, 3) := by decide +kernel
theorem dX14_open_69 : decode cX14_open 69 = .ok (.ifCond .ne 7, 3) := by decide +kernel
theorem dX14_open_72 : decode cX14_open 72 = .ok (.iconst 1, 1) := by decide +kernel
theorem dX14_open_73 : decode cX14_open 73 = .ok (.goto 36, 3) := by decide +kernel
theorem dX14_open_76 : decode cX14_open 76 = .ok (.iload 6, 2) := by decide +kernel
theorem dX14_open_78 : decode cX14_open 78 = .ok (.ifCond .ne 7, 3) := by decide +kernel
theorem dX14_open_81 : decode cX14_open 81 = .ok (.iconst 2, 1) := by decide +kernel
theorem dX14_open_82 : decode cX14_open 82 = .ok (.goto 27, 3) := by decide +kernel
theorem dX14_open_85 : decode cX14_open 85 = .ok (.aload_n 0, 1) := by decide +kernel
theorem dX14_open_86 : decode cX14_open 86 = .ok (.getfield 10, 3) := by decide +kernel
theorem dX14_open_89 : decode cX14_open 89 = .ok (.iload_n 1, 1) := by decide +kernel
theorem dX14_open_90 : decode cX14_open 90 = .ok (.invokevirtual 76, 3) := by decide +kernel
theorem dX14_open_93 : decode cX14_open 93 = .ok (.checkcast 48, 3) := by decide +kernel
theorem dX14_open_96 : decode cX14_open 96 = .ok (.getfield 53, 3) := by decide +kernel
theorem dX14_open_99 : decode cX14_open 99 = .ok (.bipush 99, 2) := by decide +kernel
theorem dX14_open_101 : decode cX14_open 101 = .ok (.if_icmp .eq 7, 3) := by decide +kernel
theorem dX14_open_104 : decode cX14_open 104 = .ok (.iconst 3, 1) := by decide +kernel
theorem dX14_open_105 : decode cX14_open 105 = .ok (.goto 4, 3) := by decide +kernel
theorem dX14_open_108 : decode cX14_open 108 = .ok (.iconst 0, 1) := by decide +kernel
theorem dX14_open_109 : decode cX14_open 109 = .ok (.putfield 61, 3) := by decide +kernel
theorem dX14_open_112 : decode cX14_open 112 = .ok (.iconst (-1), 1) := by decide +kernel
theorem dX14_open_113 : decode cX14_open 113 = .ok (.istore 7, 2) := by decide +kernel
theorem dX14_open_115 : decode cX14_open 115 = .ok (.bipush 11, 2) := by decide +kernel
theorem dX14_open_117 : decode cX14_open 117 = .ok (.istore 8, 2) := by decide +kernel
theorem dX14_open_119 : decode cX14_open 119 = .ok (.iload 8, 2) := by decide +kernel
theorem dX14_open_121 : decode cX14_open 121 = .ok (.ifCond .lt 82, 3) := by decide +kernel
theorem dX14_open_124 : decode cX14_open 124 = .ok (.aload_n 0, 1) := by decide +kernel
theorem dX14_open_125 : decode cX14_open 125 = .ok (.getfield 61, 3) := by decide +kernel
theorem dX14_open_128 : decode cX14_open 128 = .ok (.ifCond .ne 75, 3) := by decide +kernel
theorem dX14_open_131 : decode cX14_open 131 = .ok (.aload_n 0, 1) := by decide +kernel
theorem dX14_open_132 : decode cX14_open 132 = .ok (.getfield 18, 3) := by decide +kernel
theorem dX14_open_135 : decode cX14_open 135 = .ok (.iload 8, 2) := by decide +kernel
theorem dX14_open_137 : decode cX14_open 137 = .ok (.aaload, 1) := by decide +kernel
theorem dX14_open_138 : decode cX14_open 138 = .ok (.ifnonnull 8, 3) := by decide +kernel
theorem dX14_open_141 : decode cX14_open 141 = .ok (.iload 8, 2) := by decide +kernel
theorem dX14_open_143 : decode cX14_open 143 = .ok (.goto 5, 3) := by decide +kernel
theorem dX14_open_146 : decode cX14_open 146 = .ok (.iload 7, 2) := by decide +kernel
theorem dX14_open_148 : decode cX14_open 148 = .ok (.istore 7, 2) := by decide +kernel
theorem dX14_open_150 : decode cX14_open 150 = .ok (.aload_n 0, 1) := by decide +kernel
theorem dX14_open_151 : decode cX14_open 151 = .ok (.aload_n 0, 1) := by decide +kernel
theorem dX14_open_152 : decode cX14_open 152 = .ok (.getfield 18, 3) := by decide +kernel
theorem dX14_open_155 : decode cX14_open 155 = .ok (.iload 8, 2) := by decide +kernel
theorem dX14_open_157 : decode cX14_open 157 = .ok (.aaload, 1) := by decide +kernel
theorem dX14_open_158 : decode cX14_open 158 = .ok (.ifnull 35, 3) := by decide +kernel
theorem dX14_open_161 : decode cX14_open 161 = .ok (.aload_n 0, 1) := by decide +kernel
theorem dX14_open_162 : decode cX14_open 162 = .ok (.getfield 18, 3) := by decide +kernel
theorem dX14_open_165 : decode cX14_open 165 = .ok (.iload 8, 2) := by decide +kernel
theorem dX14_open_167 : decode cX14_open 167 = .ok (.aaload, 1) := by decide +kernel
theorem dX14_open_168 : decode cX14_open 168 = .ok (.getfield 133, 3) := by decide +kernel
theorem dX14_open_171 : decode cX14_open 171 = .ok (.iload_n 1, 1) := by decide +kernel
theorem dX14_open_172 : decode cX14_open 172 = .ok (.if_icmp .ne 21, 3) := by decide +kernel
theorem dX14_open_175 : decode cX14_open 175 = .ok (.aload_n 0, 1) := by decide +kernel
theorem dX14_open_176 : decode cX14_open 176 = .ok (.getfield 18, 3) := by decide +kernel
theorem dX14_open_179 : decode cX14_open 179 = .ok (.iload 8, 2) := by decide +kernel
theorem dX14_open_181 : decode cX14_open 181 = .ok (.aaload, 1) := by decide +kernel
theorem dX14_open_182 : decode cX14_open 182 = .ok (.getfield 235, 3) := by decide +kernel
theorem dX14_open_185 : decode cX14_open 185 = .ok (.iload_n 2, 1) := by decide +kernel
theorem dX14_open_186 : decode cX14_open 186 = .ok (.if_icmp .ne 7, 3) := by decide +kernel
theorem dX14_open_189 : decode cX14_open 189 = .ok (.iconst 3, 1) := by decide +kernel
theorem dX14_open_190 : decode cX14_open 190 = .ok (.goto 4, 3) := by decide +kernel
theorem dX14_open_193 : decode cX14_open 193 = .ok (.iconst 0, 1) := by decide +kernel
theorem dX14_open_194 : decode cX14_open 194 = .ok (.putfield 61, 3) := by decide +kernel
theorem dX14_open_197 : decode cX14_open 197 = .ok (.iinc 8 (-1), 3) := by decide +kernel
theorem dX14_open_200 : decode cX14_open 200 = .ok (.goto (-81), 3) := by decide +kernel
theorem dX14_open_203 : decode cX14_open 203 = .ok (.aload_n 0, 1) := by decide +kernel
theorem dX14_open_204 : decode cX14_open 204 = .ok (.getfield 61, 3) := by decide +kernel
theorem dX14_open_207 : decode cX14_open 207 = .ok (.ifCond .le 5, 3) := by decide +kernel
theorem dX14_open_210 : decode cX14_open 210 = .ok (.iconst 0, 1) := by decide +kernel
theorem dX14_open_211 : decode cX14_open 211 = .ok (.ireturn, 1) := by decide +kernel
theorem dX14_open_212 : decode cX14_open 212 = .ok (.new 16, 3) := by decide +kernel
theorem dX14_open_215 : decode cX14_open 215 = .ok (.dup, 1) := by decide +kernel
theorem dX14_open_216 : decode cX14_open 216 = .ok (.iload_n 1, 1) := by decide +kernel
theorem dX14_open_217 : decode cX14_open 217 = .ok (.iload_n 2, 1) := by decide +kernel
theorem dX14_open_218 : decode cX14_open 218 = .ok (.iload_n 3, 1) := by decide +kernel
theorem dX14_open_219 : decode cX14_open 219 = .ok (.iload 4, 2) := by decide +kernel
theorem dX14_open_221 : decode cX14_open 221 = .ok (.invokespecial 259, 3) := by decide +kernel
theorem dX14_open_224 : decode cX14_open 224 = .ok (.astore 8, 2) := by decide +kernel
theorem dX14_open_226 : decode cX14_open 226 = .ok (.aload 8, 2) := by decide +kernel
theorem dX14_open_228 : decode cX14_open 228 = .ok (.aload 8, 2) := by decide +kernel
theorem dX14_open_230 : decode cX14_open 230 = .ok (.invokevirtual 226, 3) := by decide +kernel
theorem dX14_open_233 : decode cX14_open 233 = .ok (.ifCond .eq 12, 3) := by decide +kernel
theorem dX14_open_236 : decode cX14_open 236 = .ok (.aload_n 0, 1) := by decide +kernel
theorem dX14_open_237 : decode cX14_open 237 = .ok (.aload 8, 2) := by decide +kernel
theorem dX14_open_239 : decode cX14_open 239 = .ok (.invokevirtual 262, 3) := by decide +kernel
theorem dX14_open_242 : decode cX14_open 242 = .ok (.goto 4, 3) := by decide +kernel
theorem dX14_open_245 : decode cX14_open 245 = .ok (.iconst (-1), 1) := by decide +kernel
theorem dX14_open_246 : decode cX14_open 246 = .ok (.putfield 232, 3) := by decide +kernel
theorem dX14_open_249 : decode cX14_open 249 = .ok (.aload_n 0, 1) := by decide +kernel
theorem dX14_open_250 : decode cX14_open 250 = .ok (.aload 8, 2) := by decide +kernel
theorem dX14_open_252 : decode cX14_open 252 = .ok (.invokevirtual 226, 3) := by decide +kernel
theorem dX14_open_255 : decode cX14_open 255 = .ok (.ifCond .eq 16, 3) := by decide +kernel
theorem dX14_open_258 : decode cX14_open 258 = .ok (.aload 8, 2) := by decide +kernel
theorem dX14_open_260 : decode cX14_open 260 = .ok (.getfield 232, 3) := by decide +kernel
theorem dX14_open_263 : decode cX14_open 263 = .ok (.iconst (-1), 1) := by decide +kernel
theorem dX14_open_264 : decode cX14_open 264 = .ok (.if_icmp .ne 7, 3) := by decide +kernel
theorem dX14_open_267 : decode cX14_open 267 = .ok (.iconst 3, 1) := by decide +kernel
theorem dX14_open_268 : decode cX14_open 268 = .ok (.goto 14, 3) := by decide +kernel
theorem dX14_open_271 : decode cX14_open 271 = .ok (.iload 7, 2) := by decide +kernel
theorem dX14_open_273 : decode cX14_open 273 = .ok (.iconst (-1), 1) := by decide +kernel
theorem dX14_open_274 : decode cX14_open 274 = .ok (.if_icmp .ne 7, 3) := by decide +kernel
theorem dX14_open_277 : decode cX14_open 277 = .ok (.iconst 4, 1) := by decide +kernel
theorem dX14_open_278 : decode cX14_open 278 = .ok (.goto 4, 3) := by decide +kernel
theorem dX14_open_281 : decode cX14_open 281 = .ok (.iconst 0, 1) := by decide +kernel
theorem dX14_open_282 : decode cX14_open 282 = .ok (.putfield 61, 3) := by decide +kernel
theorem dX14_open_285 : decode cX14_open 285 = .ok (.aload_n 0, 1) := by decide +kernel
theorem dX14_open_286 : decode cX14_open 286 = .ok (.getfield 61, 3) := by decide +kernel
theorem dX14_open_289 : decode cX14_open 289 = .ok (.ifCond .le 5, 3) := by decide +kernel
theorem dX14_open_292 : decode cX14_open 292 = .ok (.iconst 0, 1) := by decide +kernel
theorem dX14_open_293 : decode cX14_open 293 = .ok (.ireturn, 1) := by decide +kernel
theorem dX14_open_294 : decode cX14_open 294 = .ok (.aload_n 0, 1) := by decide +kernel
theorem dX14_open_295 : decode cX14_open 295 = .ok (.getfield 18, 3) := by decide +kernel
theorem dX14_open_298 : decode cX14_open 298 = .ok (.iload 7, 2) := by decide +kernel
theorem dX14_open_300 : decode cX14_open 300 = .ok (.aload 8, 2) := by decide +kernel
theorem dX14_open_302 : decode cX14_open 302 = .ok (.aastore, 1) := by decide +kernel
theorem dX14_open_303 : decode cX14_open 303 = .ok (.aload_n 0, 1) := by decide +kernel
theorem dX14_open_304 : decode cX14_open 304 = .ok (.getfield 10, 3) := by decide +kernel
theorem dX14_open_307 : decode cX14_open 307 = .ok (.iload_n 1, 1) := by decide +kernel
theorem dX14_open_308 : decode cX14_open 308 = .ok (.invokevirtual 76, 3) := by decide +kernel
theorem dX14_open_311 : decode cX14_open 311 = .ok (.checkcast 48, 3) := by decide +kernel
theorem dX14_open_314 : decode cX14_open 314 = .ok (.getfield 96, 3) := by decide +kernel
theorem dX14_open_317 : decode cX14_open 317 = .ok (.iload_n 2, 1) := by decide +kernel
theorem dX14_open_318 : decode cX14_open 318 = .ok (.aaload, 1) := by decide +kernel
theorem dX14_open_319 : decode cX14_open 319 = .ok (.astore 9, 2) := by decide +kernel
theorem dX14_open_321 : decode cX14_open 321 = .ok (.aload 9, 2) := by decide +kernel
theorem dX14_open_323 : decode cX14_open 323 = .ok (.iconst 0, 1) := by decide +kernel
theorem dX14_open_324 : decode cX14_open 324 = .ok (.putfield 266, 3) := by decide +kernel
theorem dX14_open_327 : decode cX14_open 327 = .ok (.aload 9, 2) := by decide +kernel
theorem dX14_open_329 : decode cX14_open 329 = .ok (.iconst (-1), 1) := by decide +kernel
theorem dX14_open_330 : decode cX14_open 330 = .ok (.putfield 269, 3) := by decide +kernel
theorem dX14_open_333 : decode cX14_open 333 = .ok (.iload 7, 2) := by decide +kernel
theorem dX14_open_335 : decode cX14_open 335 = .ok (.ireturn, 1) := by decide +kernel
set_option maxRecDepth 20000 in
theorem ggX14_noPipe_X14_in : GoodIn wsX14_noPipe wsX14_in := goodIn_r _ [6] (by decide +kernel) (by decide +kernel)
set_option maxRecDepth 20000 in
theorem gX14_noPipe_X14_in : GoodIn wsX14_noPipe (va_wsS RX14 68 yX14_in wsX14_in) := goodIn_app (goodIn_of _ (by decide +kernel)) ggX14_noPipe_X14_in
theorem dX14_noPipe_0 : decode cX14_noPipe 0 = .ok (.aload_n 0, 1) := by decide +kernel
theorem dX14_noPipe_1 : decode cX14_noPipe 1 = .ok (.iload_n 1, 1) := by decide +kernel
theorem dX14_noPipe_2 : decode cX14_noPipe 2 = .ok (.iconst 0, 1) := by decide +kernel
theorem dX14_noPipe_3 : decode cX14_noPipe 3 = .ok (.bipush 11, 2) := by decide +kernel
theorem dX14_noPipe_5 : decode cX14_noPipe 5 = .ok (.invokestatic 68, 3) := by decide +kernel
theorem dX14_noPipe_8 : decode cX14_noPipe 8 = .ok (.ifCond .eq 16, 3) := by decide +kernel
theorem dX14_noPipe_11 : decode cX14_noPipe 11 = .ok (.aload_n 0, 1) := by decide +kernel
theorem dX14_noPipe_12 : decode cX14_noPipe 12 = .ok (.getfield 18, 3) := by decide +kernel
theorem dX14_noPipe_15 : decode cX14_noPipe 15 = .ok (.iload_n 1, 1) := by decide +kernel
theorem dX14_noPipe_16 : decode cX14_noPipe 16 = .ok (.aaload, 1) := by decide +kernel
theorem dX14_noPipe_17 : decode cX14_noPipe 17 = .ok (.ifnull 7, 3) := by decide +kernel
theorem dX14_noPipe_20 : decode cX14_noPipe 20 = .ok (.iconst 0, 1) := by decide +kernel
theorem dX14_noPipe_21 : decode cX14_noPipe 21 = .ok (.goto 4, 3) := by decide +kernel
theorem dX14_noPipe_24 : decode cX14_noPipe 24 = .ok (.iconst 1, 1) := by decide +kernel
theorem dX14_noPipe_25 : decode cX14_noPipe 25 = .ok (.putfield 61, 3) := by decide +kernel
theorem dX14_noPipe_28 : decode cX14_noPipe 28 = .ok (.aload_n 0, 1) := by decide +kernel
theorem dX14_noPipe_29 : decode cX14_noPipe 29 = .ok (.getfield 61, 3) := by decide +kernel
theorem dX14_noPipe_32 : decode cX14_noPipe 32 = .ok (.ifCond .le 7, 3) := by decide +kernel
theorem dX14_noPipe_35 : decode cX14_noPipe 35 = .ok (.iconst 1, 1) := by decide +kernel
theorem dX14_noPipe_36 : decode cX14_noPipe 36 = .ok (.goto 4, 3) := by decide +kernel
theorem dX14_noPipe_39 : decode cX14_noPipe 39 = .ok (.iconst 0, 1) := by decide +kernel
theorem dX14_noPipe_40 : decode cX14_noPipe 40 = .ok (.ireturn, 1) := by decide +kernel
set_option maxRecDepth 20000 in
theorem ggX14_ends_Jx4a65c_remove_915e3 : GoodIn wsX14_ends wsJx4a65c_remove_915e3 := goodIn_r _ [12, 13, 14, 15, 16, 17, 18, 19, 20, 21, 22, 23, 24, 25, 11, 26, 27, 28, 29, 30, 31, 32, 119, 120, 121] (by decide +kernel) (by decide +kernel)
set_option maxRecDepth 20000 in
theorem gX14_ends_Jx4a65c_remove_915e3 : GoodIn wsX14_ends (wsV RX14 272 RJx4a65c yJx4a65c_remove_915e3 wsJx4a65c_remove_915e3) := goodIn_app (goodIn_of _ (by decide +kernel)) ggX14_ends_Jx4a65c_remove_915e3
set_option maxRecDepth 20000 in
theorem ggX14_ends_Jx4a65c_size_8abf5 : GoodIn wsX14_ends wsJx4a65c_size_8abf5 := goodIn_r _ [36, 13, 119, 120, 121] (by decide +kernel) (by decide +kernel)
set_option maxRecDepth 20000 in
theorem gX14_ends_Jx4a65c_size_8abf5 : GoodIn wsX14_ends (wsV RX14 64 RJx4a65c yJx4a65c_size_8abf5 wsJx4a65c_size_8abf5) := goodIn_app (goodIn_of _ (by decide +kernel)) ggX14_ends_Jx4a65c_size_8abf5
set_option maxRecDepth 20000 in
theorem ggX14_ends_Jx4a65c_add_9ea2d : GoodIn wsX14_ends wsJx4a65c_add_9ea2d := goodIn_r _ [40, 27, 28, 14, 13, 41, 42, 43, 11, 44, 45, 46, 47, 48, 49, 50, 51, 52, 53, 54, 55, 56, 57, 58, 59, 60, 61, 62, 63, 64, 65, 66, 67, 68, 69, 70, 71, 72, 73, 74, 75, 76, 77, 78, 79, 80, 81, 82, 83, 84, 30, 31, 32, 119, 120, 121] (by decide +kernel) (by decide +kernel)
set_option maxRecDepth 20000 in
theorem gX14_ends_Jx4a65c_add_9ea2d : GoodIn wsX14_ends (wsV RX14 57 RJx4a65c yJx4a65c_add_9ea2d wsJx4a65c_add_9ea2d) := goodIn_app (goodIn_of _ (by decide +kernel)) ggX14_ends_Jx4a65c_add_9ea2d
theorem dX14_ends_0 : decode cX14_ends 0 = .ok (.aload_n 0, 1) := by decide +kernel
theorem dX14_ends_1 : decode cX14_ends 1 = .ok (.getfield 18, 3) := by decide +kernel
theorem dX14_ends_4 : decode cX14_ends 4 = .ok (.iload_n 1, 1) := by decide +kernel
theorem dX14_ends_5 : decode cX14_ends 5 = .ok (.aaload, 1) := by decide +kernel
theorem dX14_ends_6 : decode cX14_ends 6 = .ok (.getfield 199, 3) := by decide +kernel
theorem dX14_ends_9 : decode cX14_ends 9 = .ok (.iconst 0, 1) := by decide +kernel
theorem dX14_ends_10 : decode cX14_ends 10 = .ok (.invokevirtual 272, 3) := by decide +kernel
theorem dX14_ends_13 : decode cX14_ends 13 = .ok (.checkcast 275, 3) := by decide +kernel
theorem dX14_ends_16 : decode cX14_ends 16 = .ok (.astore_n 3, 1) := by decide +kernel
theorem dX14_ends_17 : decode cX14_ends 17 = .ok (.aload_n 0, 1) := by decide +kernel
theorem dX14_ends_18 : decode cX14_ends 18 = .ok (.dup, 1) := by decide +kernel
theorem dX14_ends_19 : decode cX14_ends 19 = .ok (.getfield 277, 3) := by decide +kernel
theorem dX14_ends_22 : decode cX14_ends 22 = .ok (.iconst 1, 1) := by decide +kernel
theorem dX14_ends_23 : decode cX14_ends 23 = .ok (.iadd, 1) := by decide +kernel
theorem dX14_ends_24 : decode cX14_ends 24 = .ok (.putfield 277, 3) := by decide +kernel
theorem dX14_ends_27 : decode cX14_ends 27 = .ok (.aload_n 0, 1) := by decide +kernel
theorem dX14_ends_28 : decode cX14_ends 28 = .ok (.dup, 1) := by decide +kernel
theorem dX14_ends_29 : decode cX14_ends 29 = .ok (.getfield 280, 3) := by decide +kernel
theorem dX14_ends_32 : decode cX14_ends 32 = .ok (.aload_n 3, 1) := by decide +kernel
theorem dX14_ends_33 : decode cX14_ends 33 = .ok (.getfield 284, 3) := by decide +kernel
theorem dX14_ends_36 : decode cX14_ends 36 = .ok (.i2l, 1) := by decide +kernel
theorem dX14_ends_37 : decode cX14_ends 37 = .ok (.ladd, 1) := by decide +kernel
theorem dX14_ends_38 : decode cX14_ends 38 = .ok (.putfield 280, 3) := by decide +kernel
theorem dX14_ends_41 : decode cX14_ends 41 = .ok (.aload_n 0, 1) := by decide +kernel
theorem dX14_ends_42 : decode cX14_ends 42 = .ok (.getfield 28, 3) := by decide +kernel
theorem dX14_ends_45 : decode cX14_ends 45 = .ok (.invokevirtual 64, 3) := by decide +kernel
theorem dX14_ends_48 : decode cX14_ends 48 = .ok (.bipush 6, 2) := by decide +kernel
theorem dX14_ends_50 : decode cX14_ends 50 = .ok (.if_icmp .ne 16, 3) := by decide +kernel
theorem dX14_ends_53 : decode cX14_ends 53 = .ok (.aload_n 0, 1) := by decide +kernel
theorem dX14_ends_54 : decode cX14_ends 54 = .ok (.dup, 1) := by decide +kernel
theorem dX14_ends_55 : decode cX14_ends 55 = .ok (.getfield 287, 3) := by decide +kernel
theorem dX14_ends_58 : decode cX14_ends 58 = .ok (.iconst 1, 1) := by decide +kernel
theorem dX14_ends_59 : decode cX14_ends 59 = .ok (.iadd, 1) := by decide +kernel
theorem dX14_ends_60 : decode cX14_ends 60 = .ok (.putfield 287, 3) := by decide +kernel
theorem dX14_ends_63 : decode cX14_ends 63 = .ok (.goto 29, 3) := by decide +kernel
theorem dX14_ends_66 : decode cX14_ends 66 = .ok (.aload_n 0, 1) := by decide +kernel
theorem dX14_ends_67 : decode cX14_ends 67 = .ok (.getfield 28, 3) := by decide +kernel
theorem dX14_ends_70 : decode cX14_ends 70 = .ok (.iconst 3, 1) := by decide +kernel
theorem dX14_ends_71 : decode cX14_ends 71 = .ok (.newarray .int, 2) := by decide +kernel
theorem dX14_ends_73 : decode cX14_ends 73 = .ok (.dup, 1) := by decide +kernel
theorem dX14_ends_74 : decode cX14_ends 74 = .ok (.iconst 0, 1) := by decide +kernel
theorem dX14_ends_75 : decode cX14_ends 75 = .ok (.iload_n 2, 1) := by decide +kernel
theorem dX14_ends_76 : decode cX14_ends 76 = .ok (.iastore, 1) := by decide +kernel
theorem dX14_ends_77 : decode cX14_ends 77 = .ok (.dup, 1) := by decide +kernel
theorem dX14_ends_78 : decode cX14_ends 78 = .ok (.iconst 1, 1) := by decide +kernel
theorem dX14_ends_79 : decode cX14_ends 79 = .ok (.iload_n 1, 1) := by decide +kernel
theorem dX14_ends_80 : decode cX14_ends 80 = .ok (.iastore, 1) := by decide +kernel
theorem dX14_ends_81 : decode cX14_ends 81 = .ok (.dup, 1) := by decide +kernel
theorem dX14_ends_82 : decode cX14_ends 82 = .ok (.iconst 2, 1) := by decide +kernel
theorem dX14_ends_83 : decode cX14_ends 83 = .ok (.aload_n 3, 1) := by decide +kernel
theorem dX14_ends_84 : decode cX14_ends 84 = .ok (.getfield 284, 3) := by decide +kernel
theorem dX14_ends_87 : decode cX14_ends 87 = .ok (.iastore, 1) := by decide +kernel
theorem dX14_ends_88 : decode cX14_ends 88 = .ok (.invokevirtual 57, 3) := by decide +kernel
theorem dX14_ends_91 : decode cX14_ends 91 = .ok (.pop, 1) := by decide +kernel
theorem dX14_ends_92 : decode cX14_ends 92 = .ok (.return_, 1) := by decide +kernel
set_option maxRecDepth 20000 in
theorem ggX14_closes_Jx4a65c_size_8abf5 : GoodIn wsX14_closes wsJx4a65c_size_8abf5 := goodIn_r _ [6, 7, 119, 120, 121] (by decide +kernel) (by decide +kernel)
set_option maxRecDepth 20000 in
theorem gX14_closes_Jx4a65c_size_8abf5 : GoodIn wsX14_closes (wsV RX14 64 RJx4a65c yJx4a65c_size_8abf5 wsJx4a65c_size_8abf5) := goodIn_app (goodIn_of _ (by decide +kernel)) ggX14_closes_Jx4a65c_size_8abf5
set_option maxRecDepth 20000 in
theorem ggX14_closes_X14_ends : GoodIn wsX14_closes wsX14_ends := goodIn_ca (goodIn_r _ [12, 1, 13, 14, 15, 16, 17, 18, 19, 20, 21, 5, 22, 7, 23, 24, 25, 26, 27, 28, 29, 30, 31, 32, 33, 34, 35, 36, 37, 38, 39, 40, 41, 2, 3, 4, 6, 42, 43, 44, 45, 46, 47, 48, 49, 50, 51, 52, 53, 54, 55, 56, 57, 58, 59, 60, 61, 62, 63, 64, 65, 66, 67, 68, 69, 70, 71, 72, 73, 74, 75, 76, 77, 78, 79, 80, 81, 82, 83, 84, 85, 86, 87, 88, 89, 90, 91, 92, 93, 94, 95, 96, 97, 98, 99, 100, 101, 102, 103, 104, 105, 106, 107, 108, 109, 110, 111, 112, 113, 114, 115, 116, 117, 118, 122, 123, 124, 125, 126, 119, 120, 121] (by decide +kernel) (by decide +kernel)) (goodIn_sub (fun _ h => List.mem_cons_of_mem _ (List.mem_append_right _ h)) (by decide +kernel))
set_option maxRecDepth 20000 in
theorem gX14_closes_X14_ends : GoodIn wsX14_closes (wsV RX14 290 RX14 yX14_ends wsX14_ends) := goodIn_app (goodIn_of _ (by decide +kernel)) ggX14_closes_X14_ends
theorem dX14_closes_0 : decode cX14_closes 0 = .ok (.aload_n 0, 1) := by decide +kernel
theorem dX14_closes_1 : decode cX14_closes 1 = .ok (.getfield 18, 3) := by decide +kernel
theorem dX14_closes_4 : decode cX14_closes 4 = .ok (.iload_n 1, 1) := by decide +kernel
theorem dX14_closes_5 : decode cX14_closes 5 = .ok (.aaload, 1) := by decide +kernel
theorem dX14_closes_6 : decode cX14_closes 6 = .ok (.getfield 199, 3) := by decide +kernel
theorem dX14_closes_9 : decode cX14_closes 9 = .ok (.invokevirtual 64, 3) := by decide +kernel
theorem dX14_closes_12 : decode cX14_closes 12 = .ok (.istore_n 3, 1) := by decide +kernel
theorem dX14_closes_13 : decode cX14_closes 13 = .ok (.iconst 0, 1) := by decide +kernel
theorem dX14_closes_14 : decode cX14_closes 14 = .ok (.istore 4, 2) := by decide +kernel
theorem dX14_closes_16 : decode cX14_closes 16 = .ok (.iload 4, 2) := by decide +kernel
theorem dX14_closes_18 : decode cX14_closes 18 = .ok (.iload_n 3, 1) := by decide +kernel
theorem dX14_closes_19 : decode cX14_closes 19 = .ok (.if_icmp .ge 15, 3) := by decide +kernel
theorem dX14_closes_22 : decode cX14_closes 22 = .ok (.aload_n 0, 1) := by decide +kernel
theorem dX14_closes_23 : decode cX14_closes 23 = .ok (.iload_n 1, 1) := by decide +kernel
theorem dX14_closes_24 : decode cX14_closes 24 = .ok (.iload_n 2, 1) := by decide +kernel
theorem dX14_closes_25 : decode cX14_closes 25 = .ok (.invokevirtual 290, 3) := by decide +kernel
theorem dX14_closes_28 : decode cX14_closes 28 = .ok (.iinc 4 1, 3) := by decide +kernel
theorem dX14_closes_31 : decode cX14_closes 31 = .ok (.goto (-15), 3) := by decide +kernel
theorem dX14_closes_34 : decode cX14_closes 34 = .ok (.aload_n 0, 1) := by decide +kernel
theorem dX14_closes_35 : decode cX14_closes 35 = .ok (.getfield 18, 3) := by decide +kernel
theorem dX14_closes_38 : decode cX14_closes 38 = .ok (.iload_n 1, 1) := by decide +kernel
theorem dX14_closes_39 : decode cX14_closes 39 = .ok (.aconst_null, 1) := by decide +kernel
theorem dX14_closes_40 : decode cX14_closes 40 = .ok (.aastore, 1) := by decide +kernel
theorem dX14_closes_41 : decode cX14_closes 41 = .ok (.iload_n 3, 1) := by decide +kernel
theorem dX14_closes_42 : decode cX14_closes 42 = .ok (.ireturn, 1) := by decide +kernel
set_option maxRecDepth 20000 in
theorem ggX14_close_X14_noPipe : GoodIn wsX14_close wsX14_noPipe := goodIn_r _ [5, 6, 7, 8, 9, 4, 10, 102, 103, 104, 105, 106, 107, 108, 109, 110, 111, 112, 113, 114, 115, 116, 117, 118, 119, 120] (by decide +kernel) (by decide +kernel)
set_option maxRecDepth 20000 in
theorem gX14_close_X14_noPipe : GoodIn wsX14_close (wsV RX14 293 RX14 yX14_noPipe wsX14_noPipe) := goodIn_app (goodIn_of _ (by decide +kernel)) ggX14_close_X14_noPipe
set_option maxRecDepth 20000 in
theorem ggX14_close_X14_closes : GoodIn wsX14_close wsX14_closes := goodIn_ca (goodIn_r _ [14, 6, 15, 16, 17, 18, 19, 20, 21, 22, 23, 4, 24, 25, 26, 27, 28, 29, 30, 31, 32, 33, 34, 35, 36, 37, 38, 39, 40, 41, 42, 43, 44, 45, 46, 47, 48, 49, 50, 51, 52, 53, 54, 55, 56, 57, 58, 59, 60, 61, 62, 63, 64, 65, 66, 67, 68, 69, 70, 71, 72, 73, 74, 75, 76, 77, 78, 79, 80, 81, 82, 83, 84, 85, 86, 87, 88, 89, 90, 91, 92, 93, 94, 95, 96, 97, 98, 99, 100, 101, 102, 103, 104, 105, 106, 107, 108, 109, 110, 111, 112, 113, 114, 115, 116, 117, 118, 119, 120, 121, 122, 123, 124, 125, 126, 127, 128, 129, 130, 131, 132, 133, 134, 135, 136, 137, 138] (by decide +kernel) (by decide +kernel)) (goodIn_sub (fun _ h => List.mem_cons_of_mem _ (List.mem_append_right _ h)) (by decide +kernel))
set_option maxRecDepth 20000 in
theorem gX14_close_X14_closes : GoodIn wsX14_close (wsV RX14 136 RX14 yX14_closes wsX14_closes) := goodIn_app (goodIn_of _ (by decide +kernel)) ggX14_close_X14_closes
theorem dX14_close_0 : decode cX14_close 0 = .ok (.aload_n 0, 1) := by decide +kernel
theorem dX14_close_1 : decode cX14_close 1 = .ok (.iload_n 1, 1) := by decide +kernel
theorem dX14_close_2 : decode cX14_close 2 = .ok (.invokevirtual 293, 3) := by decide +kernel
theorem dX14_close_5 : decode cX14_close 5 = .ok (.ifCond .eq 7, 3) := by decide +kernel
theorem dX14_close_8 : decode cX14_close 8 = .ok (.iconst 0, 1) := by decide +kernel
theorem dX14_close_9 : decode cX14_close 9 = .ok (.goto 10, 3) := by decide +kernel
theorem dX14_close_12 : decode cX14_close 12 = .ok (.aload_n 0, 1) := by decide +kernel
theorem dX14_close_13 : decode cX14_close 13 = .ok (.iload_n 1, 1) := by decide +kernel
theorem dX14_close_14 : decode cX14_close 14 = .ok (.bipush 120, 2) := by decide +kernel
theorem dX14_close_16 : decode cX14_close 16 = .ok (.invokevirtual 136, 3) := by decide +kernel
theorem dX14_close_19 : decode cX14_close 19 = .ok (.ireturn, 1) := by decide +kernel
set_option maxRecDepth 20000 in
theorem ggX14_phaseOf_X14_noPipe : GoodIn wsX14_phaseOf wsX14_noPipe := goodIn_r _ [6, 1, 7, 8, 9, 5, 10, 11, 12, 13, 14, 15, 16, 17, 18, 19, 20, 21, 22, 23, 24, 25, 26, 27, 28, 29] (by decide +kernel) (by decide +kernel)
set_option maxRecDepth 20000 in
theorem gX14_phaseOf_X14_noPipe : GoodIn wsX14_phaseOf (wsV RX14 293 RX14 yX14_noPipe wsX14_noPipe) := goodIn_app (goodIn_of _ (by decide +kernel)) ggX14_phaseOf_X14_noPipe
theorem dX14_phaseOf_0 : decode cX14_phaseOf 0 = .ok (.aload_n 0, 1) := by decide +kernel
theorem dX14_phaseOf_1 : decode cX14_phaseOf 1 = .ok (.iload_n 1, 1) := by decide +kernel
theorem dX14_phaseOf_2 : decode cX14_phaseOf 2 = .ok (.invokevirtual 293, 3) := by decide +kernel
theorem dX14_phaseOf_5 : decode cX14_phaseOf 5 = .ok (.ifCond .eq 7, 3) := by decide +kernel
theorem dX14_phaseOf_8 : decode cX14_phaseOf 8 = .ok (.iconst 0, 1) := by decide +kernel
theorem dX14_phaseOf_9 : decode cX14_phaseOf 9 = .ok (.goto 12, 3) := by decide +kernel
theorem dX14_phaseOf_12 : decode cX14_phaseOf 12 = .ok (.aload_n 0, 1) := by decide +kernel
theorem dX14_phaseOf_13 : decode cX14_phaseOf 13 = .ok (.getfield 18, 3) := by decide +kernel
theorem dX14_phaseOf_16 : decode cX14_phaseOf 16 = .ok (.iload_n 1, 1) := by decide +kernel
theorem dX14_phaseOf_17 : decode cX14_phaseOf 17 = .ok (.aaload, 1) := by decide +kernel
theorem dX14_phaseOf_18 : decode cX14_phaseOf 18 = .ok (.getfield 232, 3) := by decide +kernel
theorem dX14_phaseOf_21 : decode cX14_phaseOf 21 = .ok (.ireturn, 1) := by decide +kernel
set_option maxRecDepth 20000 in
theorem ggX14_reserved_X14_in : GoodIn wsX14_reserved wsX14_in := goodIn_r _ [5] (by decide +kernel) (by decide +kernel)
set_option maxRecDepth 20000 in
theorem gX14_reserved_X14_in : GoodIn wsX14_reserved (va_wsS RX14 68 yX14_in wsX14_in) := goodIn_app (goodIn_of _ (by decide +kernel)) ggX14_reserved_X14_in
set_option maxRecDepth 20000 in
theorem ggX14_reserved_X14_isDevice : GoodIn wsX14_reserved wsX14_isDevice := goodIn_r _ [9, 10, 11, 12, 13, 14, 15, 16, 2, 3, 4, 5, 61, 62, 63, 64, 65, 66, 67, 68, 69, 70, 71, 72, 73, 74, 75, 76, 77, 78, 79, 80, 81, 82] (by decide +kernel) (by decide +kernel)
set_option maxRecDepth 20000 in
theorem gX14_reserved_X14_isDevice : GoodIn wsX14_reserved (wsV RX14 72 RX14 yX14_isDevice wsX14_isDevice) := goodIn_app (goodIn_of _ (by decide +kernel)) ggX14_reserved_X14_isDevice
set_option maxRecDepth 20000 in
theorem ggX14_reserved_X14_reservedIn : GoodIn wsX14_reserved wsX14_reservedIn := goodIn_ca (goodIn_r _ [20, 21, 10, 22, 23, 24, 25, 26, 27, 28, 29, 30, 31, 14, 32, 16, 33, 34, 35, 36, 37, 38, 39, 40, 41, 42, 43, 44, 45, 46, 47, 48, 4, 49, 50, 51, 52, 53, 54, 55, 56, 57, 58, 59, 60, 61, 62, 63, 64, 65, 66, 67, 68, 69, 70, 71, 72, 73, 74, 75, 76, 77, 78, 79, 83, 84, 85, 86, 87, 88, 89, 90, 91, 92, 93, 94, 95, 96, 97, 98, 99, 100, 101, 102, 103, 104, 105, 106, 107, 108, 109, 110, 111, 112, 113, 80, 81, 82] (by decide +kernel) (by decide +kernel)) (goodIn_sub (fun _ h => List.mem_cons_of_mem _ (List.mem_append_right _ h)) (by decide +kernel))
set_option maxRecDepth 20000 in
theorem gX14_reserved_X14_reservedIn : GoodIn wsX14_reserved (wsV RX14 248 RX14 yX14_reservedIn wsX14_reservedIn) := goodIn_app (goodIn_of _ (by decide +kernel)) ggX14_reserved_X14_reservedIn
theorem dX14_reserved_0 : decode cX14_reserved 0 = .ok (.aload_n 0, 1) := by decide +kernel
theorem dX14_reserved_1 : decode cX14_reserved 1 = .ok (.iload_n 1, 1) := by decide +kernel
theorem dX14_reserved_2 : decode cX14_reserved 2 = .ok (.iconst 0, 1) := by decide +kernel
theorem dX14_reserved_3 : decode cX14_reserved 3 = .ok (.bipush 7, 2) := by decide +kernel
theorem dX14_reserved_5 : decode cX14_reserved 5 = .ok (.invokestatic 68, 3) := by decide +kernel
theorem dX14_reserved_8 : decode cX14_reserved 8 = .ok (.ifCond .ne 7, 3) := by decide +kernel
theorem dX14_reserved_11 : decode cX14_reserved 11 = .ok (.iconst 1, 1) := by decide +kernel
theorem dX14_reserved_12 : decode cX14_reserved 12 = .ok (.goto 21, 3) := by decide +kernel
theorem dX14_reserved_15 : decode cX14_reserved 15 = .ok (.iload_n 2, 1) := by decide +kernel
theorem dX14_reserved_16 : decode cX14_reserved 16 = .ok (.iconst (-1), 1) := by decide +kernel
theorem dX14_reserved_17 : decode cX14_reserved 17 = .ok (.if_icmp .eq 15, 3) := by decide +kernel
theorem dX14_reserved_20 : decode cX14_reserved 20 = .ok (.aload_n 0, 1) := by decide +kernel
theorem dX14_reserved_21 : decode cX14_reserved 21 = .ok (.iload_n 2, 1) := by decide +kernel
theorem dX14_reserved_22 : decode cX14_reserved 22 = .ok (.invokevirtual 72, 3) := by decide +kernel
theorem dX14_reserved_25 : decode cX14_reserved 25 = .ok (.ifCond .ne 7, 3) := by decide +kernel
theorem dX14_reserved_28 : decode cX14_reserved 28 = .ok (.iconst 2, 1) := by decide +kernel
theorem dX14_reserved_29 : decode cX14_reserved 29 = .ok (.goto 4, 3) := by decide +kernel
theorem dX14_reserved_32 : decode cX14_reserved 32 = .ok (.iconst 0, 1) := by decide +kernel
theorem dX14_reserved_33 : decode cX14_reserved 33 = .ok (.putfield 61, 3) := by decide +kernel
theorem dX14_reserved_36 : decode cX14_reserved 36 = .ok (.aload_n 0, 1) := by decide +kernel
theorem dX14_reserved_37 : decode cX14_reserved 37 = .ok (.getfield 61, 3) := by decide +kernel
theorem dX14_reserved_40 : decode cX14_reserved 40 = .ok (.ifCond .le 7, 3) := by decide +kernel
theorem dX14_reserved_43 : decode cX14_reserved 43 = .ok (.iconst 0, 1) := by decide +kernel
theorem dX14_reserved_44 : decode cX14_reserved 44 = .ok (.goto 9, 3) := by decide +kernel
theorem dX14_reserved_47 : decode cX14_reserved 47 = .ok (.aload_n 0, 1) := by decide +kernel
theorem dX14_reserved_48 : decode cX14_reserved 48 = .ok (.iload_n 1, 1) := by decide +kernel
theorem dX14_reserved_49 : decode cX14_reserved 49 = .ok (.iload_n 2, 1) := by decide +kernel
theorem dX14_reserved_50 : decode cX14_reserved 50 = .ok (.invokevirtual 248, 3) := by decide +kernel
theorem dX14_reserved_53 : decode cX14_reserved 53 = .ok (.ireturn, 1) := by decide +kernel
set_option maxRecDepth 20000 in
theorem ggX14_endOf_Jx4a65c_get_915e3 : GoodIn wsX14_endOf wsJx4a65c_get_915e3 := goodIn_r _ [7, 8, 9, 10, 11, 12, 13, 14, 15, 16, 17, 18, 19, 6, 20, 21, 67, 68, 69] (by decide +kernel) (by decide +kernel)
set_option maxRecDepth 20000 in
theorem gX14_endOf_Jx4a65c_get_915e3 : GoodIn wsX14_endOf (wsV RX14 76 RJx4a65c yJx4a65c_get_915e3 wsJx4a65c_get_915e3) := goodIn_app (goodIn_of _ (by decide +kernel)) ggX14_endOf_Jx4a65c_get_915e3
theorem dX14_endOf_0 : decode cX14_endOf 0 = .ok (.aload_n 0, 1) := by decide +kernel
theorem dX14_endOf_1 : decode cX14_endOf 1 = .ok (.getfield 10, 3) := by decide +kernel
theorem dX14_endOf_4 : decode cX14_endOf 4 = .ok (.aload_n 1, 1) := by decide +kernel
theorem dX14_endOf_5 : decode cX14_endOf 5 = .ok (.getfield 133, 3) := by decide +kernel
theorem dX14_endOf_8 : decode cX14_endOf 8 = .ok (.invokevirtual 76, 3) := by decide +kernel
theorem dX14_endOf_11 : decode cX14_endOf 11 = .ok (.checkcast 48, 3) := by decide +kernel
theorem dX14_endOf_14 : decode cX14_endOf 14 = .ok (.getfield 96, 3) := by decide +kernel
theorem dX14_endOf_17 : decode cX14_endOf 17 = .ok (.aload_n 1, 1) := by decide +kernel
theorem dX14_endOf_18 : decode cX14_endOf 18 = .ok (.getfield 235, 3) := by decide +kernel
theorem dX14_endOf_21 : decode cX14_endOf 21 = .ok (.aaload, 1) := by decide +kernel
theorem dX14_endOf_22 : decode cX14_endOf 22 = .ok (.areturn, 1) := by decide +kernel
set_option maxRecDepth 20000 in
theorem ggX14_taken_Jx4a65c_size_8abf5 : GoodIn wsX14_taken wsJx4a65c_size_8abf5 := goodIn_r _ [8, 9, 52, 53, 54] (by decide +kernel) (by decide +kernel)
set_option maxRecDepth 20000 in
theorem gX14_taken_Jx4a65c_size_8abf5 : GoodIn wsX14_taken (wsV RX14 64 RJx4a65c yJx4a65c_size_8abf5 wsJx4a65c_size_8abf5) := goodIn_app (goodIn_of _ (by decide +kernel)) ggX14_taken_Jx4a65c_size_8abf5
set_option maxRecDepth 20000 in
theorem ggX14_taken_Jx4a65c_get_915e3 : GoodIn wsX14_taken wsJx4a65c_get_915e3 := goodIn_r _ [13, 9, 14, 15, 16, 17, 18, 19, 20, 21, 22, 23, 24, 7, 25, 26, 52, 53, 54] (by decide +kernel) (by decide +kernel)
set_option maxRecDepth 20000 in
theorem gX14_taken_Jx4a65c_get_915e3 : GoodIn wsX14_taken (wsV RX14 76 RJx4a65c yJx4a65c_get_915e3 wsJx4a65c_get_915e3) := goodIn_app (goodIn_of _ (by decide +kernel)) ggX14_taken_Jx4a65c_get_915e3
set_option maxRecDepth 20000 in
theorem ggX14_taken_J6_intValue_8abf5 : GoodIn wsX14_taken wsJ6_intValue_8abf5 := goodIn_r _ [31, 32, 55] (by decide +kernel) (by decide +kernel)
set_option maxRecDepth 20000 in
theorem gX14_taken_J6_intValue_8abf5 : GoodIn wsX14_taken (wsV RX14 222 RJ6 yJ6_intValue_8abf5 wsJ6_intValue_8abf5) := goodIn_app (goodIn_of _ (by decide +kernel)) ggX14_taken_J6_intValue_8abf5
theorem dX14_taken_0 : decode cX14_taken 0 = .ok (.aload_n 0, 1) := by decide +kernel
theorem dX14_taken_1 : decode cX14_taken 1 = .ok (.getfield 25, 3) := by decide +kernel
theorem dX14_taken_4 : decode cX14_taken 4 = .ok (.invokevirtual 64, 3) := by decide +kernel
theorem dX14_taken_7 : decode cX14_taken 7 = .ok (.newarray .int, 2) := by decide +kernel
theorem dX14_taken_9 : decode cX14_taken 9 = .ok (.astore_n 1, 1) := by decide +kernel
theorem dX14_taken_10 : decode cX14_taken 10 = .ok (.iconst 0, 1) := by decide +kernel
theorem dX14_taken_11 : decode cX14_taken 11 = .ok (.istore_n 2, 1) := by decide +kernel
theorem dX14_taken_12 : decode cX14_taken 12 = .ok (.iload_n 2, 1) := by decide +kernel
theorem dX14_taken_13 : decode cX14_taken 13 = .ok (.aload_n 1, 1) := by decide +kernel
theorem dX14_taken_14 : decode cX14_taken 14 = .ok (.arraylength, 1) := by decide +kernel
theorem dX14_taken_15 : decode cX14_taken 15 = .ok (.if_icmp .ge 26, 3) := by decide +kernel
theorem dX14_taken_18 : decode cX14_taken 18 = .ok (.aload_n 1, 1) := by decide +kernel
theorem dX14_taken_19 : decode cX14_taken 19 = .ok (.iload_n 2, 1) := by decide +kernel
theorem dX14_taken_20 : decode cX14_taken 20 = .ok (.aload_n 0, 1) := by decide +kernel
theorem dX14_taken_21 : decode cX14_taken 21 = .ok (.getfield 25, 3) := by decide +kernel
theorem dX14_taken_24 : decode cX14_taken 24 = .ok (.iload_n 2, 1) := by decide +kernel
theorem dX14_taken_25 : decode cX14_taken 25 = .ok (.invokevirtual 76, 3) := by decide +kernel
theorem dX14_taken_28 : decode cX14_taken 28 = .ok (.checkcast 213, 3) := by decide +kernel
theorem dX14_taken_31 : decode cX14_taken 31 = .ok (.invokevirtual 222, 3) := by decide +kernel
theorem dX14_taken_34 : decode cX14_taken 34 = .ok (.iastore, 1) := by decide +kernel
theorem dX14_taken_35 : decode cX14_taken 35 = .ok (.iinc 2 1, 3) := by decide +kernel
theorem dX14_taken_38 : decode cX14_taken 38 = .ok (.goto (-26), 3) := by decide +kernel
theorem dX14_taken_41 : decode cX14_taken 41 = .ok (.aload_n 1, 1) := by decide +kernel
theorem dX14_taken_42 : decode cX14_taken 42 = .ok (.areturn, 1) := by decide +kernel
set_option maxRecDepth 20000 in
theorem ggX14_send_X14_noPipe : GoodIn wsX14_send wsX14_noPipe := goodIn_r _ [11, 1, 3, 12, 13, 10, 14, 125, 126, 127, 128, 129, 130, 131, 132, 133, 134, 135, 136, 137, 138, 139, 140, 141, 142, 143] (by decide +kernel) (by decide +kernel)
set_option maxRecDepth 20000 in
theorem gX14_send_X14_noPipe : GoodIn wsX14_send (wsV RX14 293 RX14 yX14_noPipe wsX14_noPipe) := goodIn_app (goodIn_of _ (by decide +kernel)) ggX14_send_X14_noPipe
set_option maxRecDepth 20000 in
theorem ggX14_send_X14_endOf : GoodIn wsX14_send wsX14_endOf := goodIn_r _ [18, 19, 20, 21, 22, 23, 24, 25, 26, 27, 28, 29, 30, 31, 32, 33, 34, 35, 36, 37, 38, 39, 125, 126, 127, 128, 129, 130, 131, 132, 133, 134, 135, 136, 137, 138, 139, 140, 141, 142, 143, 149, 150, 151, 152, 153, 154, 155, 156, 157, 158, 164, 165, 166, 167, 168, 169, 170, 171, 172, 173, 174, 175, 176, 177, 178, 179, 180, 181, 182] (by decide +kernel) (by decide +kernel)
set_option maxRecDepth 20000 in
theorem gX14_send_X14_endOf : GoodIn wsX14_send (wsV RX14 296 RX14 yX14_endOf wsX14_endOf) := goodIn_app (goodIn_of _ (by decide +kernel)) ggX14_send_X14_endOf
set_option maxRecDepth 20000 in
theorem ggX14_send_Jx4a65c_isEmpty_aae02 : GoodIn wsX14_send wsJx4a65c_isEmpty_aae02 := goodIn_r _ [43, 26, 180, 181, 182] (by decide +kernel) (by decide +kernel)
set_option maxRecDepth 20000 in
theorem gX14_send_Jx4a65c_isEmpty_aae02 : GoodIn wsX14_send (wsV RX14 202 RJx4a65c yJx4a65c_isEmpty_aae02 wsJx4a65c_isEmpty_aae02) := goodIn_app (goodIn_of _ (by decide +kernel)) ggX14_send_Jx4a65c_isEmpty_aae02
set_option maxRecDepth 20000 in
theorem ggX14_send_Jx4a65c_size_8abf5 : GoodIn wsX14_send wsJx4a65c_size_8abf5 := goodIn_r _ [47, 26, 180, 181, 182] (by decide +kernel) (by decide +kernel)
set_option maxRecDepth 20000 in
theorem gX14_send_Jx4a65c_size_8abf5 : GoodIn wsX14_send (wsV RX14 64 RJx4a65c yJx4a65c_size_8abf5 wsJx4a65c_size_8abf5) := goodIn_app (goodIn_of _ (by decide +kernel)) ggX14_send_Jx4a65c_size_8abf5
set_option maxRecDepth 20000 in
theorem ggX14_send_X14_taken : GoodIn wsX14_send wsX14_taken := goodIn_ca (goodIn_r _ [51, 2, 52, 53, 44, 45, 46, 24, 47, 26, 21, 22, 23, 25, 27, 28, 29, 30, 31, 32, 33, 34, 35, 36, 37, 38, 39, 54, 55, 56, 57, 58, 59, 125, 126, 127, 128, 129, 130, 131, 132, 133, 134, 135, 136, 137, 138, 139, 140, 141, 142, 143, 180, 181, 182, 183] (by decide +kernel) (by decide +kernel)) (goodIn_sub (fun _ h => List.mem_cons_of_mem _ (List.mem_append_right _ h)) (by decide +kernel))
set_option maxRecDepth 20000 in
theorem gX14_send_X14_taken : GoodIn wsX14_send (wsV RX14 303 RX14 yX14_taken wsX14_taken) := goodIn_app (goodIn_of _ (by decide +kernel)) ggX14_send_X14_taken
set_option maxRecDepth 20000 in
theorem ggX14_send_X13_init : GoodIn wsX14_send wsX13_init := goodIn_r _ [62, 63, 64, 65, 66, 67, 159, 160, 161, 162, 163] (by decide +kernel) (by decide +kernel)
set_option maxRecDepth 20000 in
theorem gX14_send_X13_init : GoodIn wsX14_send (wsX13_init) := ggX14_send_X13_init
set_option maxRecDepth 20000 in
theorem ggX14_send_Jx4a65c_add_9ea2d : GoodIn wsX14_send wsJx4a65c_add_9ea2d := goodIn_r _ [71, 72, 73, 39, 26, 74, 75, 76, 24, 77, 78, 79, 80, 81, 82, 83, 84, 85, 86, 87, 88, 89, 90, 91, 92, 93, 94, 95, 96, 97, 98, 99, 100, 101, 102, 103, 104, 105, 106, 107, 108, 109, 110, 111, 112, 113, 114, 115, 116, 117, 118, 119, 120, 180, 181, 182] (by decide +kernel) (by decide +kernel)
set_option maxRecDepth 20000 in
theorem gX14_send_Jx4a65c_add_9ea2d : GoodIn wsX14_send (wsV RX14 57 RJx4a65c yJx4a65c_add_9ea2d wsJx4a65c_add_9ea2d) := goodIn_app (goodIn_of _ (by decide +kernel)) ggX14_send_Jx4a65c_add_9ea2d
set_option maxRecDepth 20000 in
theorem ggX14_send_Jx4a65c_clear_da8c8 : GoodIn wsX14_send wsJx4a65c_clear_da8c8 := goodIn_r _ [124, 72, 73, 39, 26, 180, 181, 182] (by decide +kernel) (by decide +kernel)
set_option maxRecDepth 20000 in
theorem gX14_send_Jx4a65c_clear_da8c8 : GoodIn wsX14_send (wsV RX14 218 RJx4a65c yJx4a65c_clear_da8c8 wsJx4a65c_clear_da8c8) := goodIn_app (goodIn_of _ (by decide +kernel)) ggX14_send_Jx4a65c_clear_da8c8
theorem dX14_send_0 : decode cX14_send 0 = .ok (.aload_n 0, 1) := by decide +kernel
theorem dX14_send_1 : decode cX14_send 1 = .ok (.iload_n 1, 1) := by decide +kernel
theorem dX14_send_2 : decode cX14_send 2 = .ok (.invokevirtual 293, 3) := by decide +kernel
theorem dX14_send_5 : decode cX14_send 5 = .ok (.ifCond .eq 5, 3) := by decide +kernel
theorem dX14_send_8 : decode cX14_send 8 = .ok (.iconst 0, 1) := by decide +kernel
theorem dX14_send_9 : decode cX14_send 9 = .ok (.ireturn, 1) := by decide +kernel
theorem dX14_send_10 : decode cX14_send 10 = .ok (.aload_n 0, 1) := by decide +kernel
theorem dX14_send_11 : decode cX14_send 11 = .ok (.getfield 18, 3) := by decide +kernel
theorem dX14_send_14 : decode cX14_send 14 = .ok (.iload_n 1, 1) := by decide +kernel
theorem dX14_send_15 : decode cX14_send 15 = .ok (.aaload, 1) := by decide +kernel
theorem dX14_send_16 : decode cX14_send 16 = .ok (.astore_n 2, 1) := by decide +kernel
theorem dX14_send_17 : decode cX14_send 17 = .ok (.aload_n 0, 1) := by decide +kernel
theorem dX14_send_18 : decode cX14_send 18 = .ok (.aload_n 0, 1) := by decide +kernel
theorem dX14_send_19 : decode cX14_send 19 = .ok (.aload_n 2, 1) := by decide +kernel
theorem dX14_send_20 : decode cX14_send 20 = .ok (.invokevirtual 296, 3) := by decide +kernel
theorem dX14_send_23 : decode cX14_send 23 = .ok (.getfield 300, 3) := by decide +kernel
theorem dX14_send_26 : decode cX14_send 26 = .ok (.ifCond .ne 13, 3) := by decide +kernel
theorem dX14_send_29 : decode cX14_send 29 = .ok (.aload_n 0, 1) := by decide +kernel
theorem dX14_send_30 : decode cX14_send 30 = .ok (.getfield 25, 3) := by decide +kernel
theorem dX14_send_33 : decode cX14_send 33 = .ok (.invokevirtual 202, 3) := by decide +kernel
theorem dX14_send_36 : decode cX14_send 36 = .ok (.ifCond .eq 7, 3) := by decide +kernel
theorem dX14_send_39 : decode cX14_send 39 = .ok (.iconst 2, 1) := by decide +kernel
theorem dX14_send_40 : decode cX14_send 40 = .ok (.goto 19, 3) := by decide +kernel
theorem dX14_send_43 : decode cX14_send 43 = .ok (.aload_n 2, 1) := by decide +kernel
theorem dX14_send_44 : decode cX14_send 44 = .ok (.getfield 199, 3) := by decide +kernel
theorem dX14_send_47 : decode cX14_send 47 = .ok (.invokevirtual 64, 3) := by decide +kernel
theorem dX14_send_50 : decode cX14_send 50 = .ok (.iconst 4, 1) := by decide +kernel
theorem dX14_send_51 : decode cX14_send 51 = .ok (.if_icmp .ne 7, 3) := by decide +kernel
theorem dX14_send_54 : decode cX14_send 54 = .ok (.iconst 3, 1) := by decide +kernel
theorem dX14_send_55 : decode cX14_send 55 = .ok (.goto 4, 3) := by decide +kernel
theorem dX14_send_58 : decode cX14_send 58 = .ok (.iconst 0, 1) := by decide +kernel
theorem dX14_send_59 : decode cX14_send 59 = .ok (.putfield 61, 3) := by decide +kernel
theorem dX14_send_62 : decode cX14_send 62 = .ok (.aload_n 0, 1) := by decide +kernel
theorem dX14_send_63 : decode cX14_send 63 = .ok (.getfield 61, 3) := by decide +kernel
theorem dX14_send_66 : decode cX14_send 66 = .ok (.ifCond .le 5, 3) := by decide +kernel
theorem dX14_send_69 : decode cX14_send 69 = .ok (.iconst 0, 1) := by decide +kernel
theorem dX14_send_70 : decode cX14_send 70 = .ok (.ireturn, 1) := by decide +kernel
theorem dX14_send_71 : decode cX14_send 71 = .ok (.aload_n 2, 1) := by decide +kernel
theorem dX14_send_72 : decode cX14_send 72 = .ok (.getfield 199, 3) := by decide +kernel
theorem dX14_send_75 : decode cX14_send 75 = .ok (.new 275, 3) := by decide +kernel
theorem dX14_send_78 : decode cX14_send 78 = .ok (.dup, 1) := by decide +kernel
theorem dX14_send_79 : decode cX14_send 79 = .ok (.aload_n 0, 1) := by decide +kernel
theorem dX14_send_80 : decode cX14_send 80 = .ok (.invokevirtual 303, 3) := by decide +kernel
theorem dX14_send_83 : decode cX14_send 83 = .ok (.aload_n 0, 1) := by decide +kernel
theorem dX14_send_84 : decode cX14_send 84 = .ok (.getfield 25, 3) := by decide +kernel
theorem dX14_send_87 : decode cX14_send 87 = .ok (.invokevirtual 64, 3) := by decide +kernel
theorem dX14_send_90 : decode cX14_send 90 = .ok (.invokespecial 307, 3) := by decide +kernel
theorem dX14_send_93 : decode cX14_send 93 = .ok (.invokevirtual 57, 3) := by decide +kernel
theorem dX14_send_96 : decode cX14_send 96 = .ok (.pop, 1) := by decide +kernel
theorem dX14_send_97 : decode cX14_send 97 = .ok (.aload_n 0, 1) := by decide +kernel
theorem dX14_send_98 : decode cX14_send 98 = .ok (.getfield 25, 3) := by decide +kernel
theorem dX14_send_101 : decode cX14_send 101 = .ok (.invokevirtual 218, 3) := by decide +kernel
theorem dX14_send_104 : decode cX14_send 104 = .ok (.aload_n 2, 1) := by decide +kernel
theorem dX14_send_105 : decode cX14_send 105 = .ok (.getfield 199, 3) := by decide +kernel
theorem dX14_send_108 : decode cX14_send 108 = .ok (.invokevirtual 64, 3) := by decide +kernel
theorem dX14_send_111 : decode cX14_send 111 = .ok (.ireturn, 1) := by decide +kernel
set_option maxRecDepth 20000 in
theorem ggX14_ask_X14_noPipe : GoodIn wsX14_ask wsX14_noPipe := goodIn_r _ [11, 1, 2, 12, 13, 10, 14, 105, 106, 107, 108, 109, 110, 111, 112, 113, 114, 115, 116, 117, 118, 119, 120, 121, 122, 123] (by decide +kernel) (by decide +kernel)
set_option maxRecDepth 20000 in
theorem gX14_ask_X14_noPipe : GoodIn wsX14_ask (wsV RX14 293 RX14 yX14_noPipe wsX14_noPipe) := goodIn_app (goodIn_of _ (by decide +kernel)) ggX14_ask_X14_noPipe
set_option maxRecDepth 20000 in
theorem ggX14_ask_X14_in : GoodIn wsX14_ask wsX14_in := goodIn_r _ [14] (by decide +kernel) (by decide +kernel)
set_option maxRecDepth 20000 in
theorem gX14_ask_X14_in : GoodIn wsX14_ask (va_wsS RX14 68 yX14_in wsX14_in) := goodIn_app (goodIn_of _ (by decide +kernel)) ggX14_ask_X14_in
set_option maxRecDepth 20000 in
theorem ggX14_ask_X14_endOf : GoodIn wsX14_ask wsX14_endOf := goodIn_r _ [18, 19, 20, 21, 22, 23, 24, 25, 26, 27, 28, 29, 30, 31, 32, 33, 34, 35, 36, 37, 38, 39, 105, 106, 107, 108, 109, 110, 111, 112, 113, 114, 115, 116, 117, 118, 119, 120, 121, 122, 123, 129, 130, 131, 132, 133, 134, 135, 136, 137, 138, 144, 145, 146, 147, 148, 149, 150, 151, 152, 153, 154, 155, 156, 157, 158, 159, 160, 161, 162] (by decide +kernel) (by decide +kernel)
set_option maxRecDepth 20000 in
theorem gX14_ask_X14_endOf : GoodIn wsX14_ask (wsV RX14 296 RX14 yX14_endOf wsX14_endOf) := goodIn_app (goodIn_of _ (by decide +kernel)) ggX14_ask_X14_endOf
set_option maxRecDepth 20000 in
theorem ggX14_ask_Jx4a65c_size_8abf5 : GoodIn wsX14_ask wsJx4a65c_size_8abf5 := goodIn_r _ [43, 26, 160, 161, 162] (by decide +kernel) (by decide +kernel)
set_option maxRecDepth 20000 in
theorem gX14_ask_Jx4a65c_size_8abf5 : GoodIn wsX14_ask (wsV RX14 64 RJx4a65c yJx4a65c_size_8abf5 wsJx4a65c_size_8abf5) := goodIn_app (goodIn_of _ (by decide +kernel)) ggX14_ask_Jx4a65c_size_8abf5
set_option maxRecDepth 20000 in
theorem ggX14_ask_X13_init : GoodIn wsX14_ask wsX13_init := goodIn_r _ [46, 47, 48, 49, 50, 51, 139, 140, 141, 142, 143] (by decide +kernel) (by decide +kernel)
set_option maxRecDepth 20000 in
theorem gX14_ask_X13_init : GoodIn wsX14_ask (wsX13_init) := ggX14_ask_X13_init
set_option maxRecDepth 20000 in
theorem ggX14_ask_Jx4a65c_add_9ea2d : GoodIn wsX14_ask wsJx4a65c_add_9ea2d := goodIn_r _ [55, 56, 57, 39, 26, 58, 59, 60, 24, 61, 62, 63, 64, 65, 66, 67, 68, 69, 70, 71, 72, 73, 74, 75, 76, 77, 78, 79, 80, 81, 82, 83, 84, 85, 86, 87, 88, 89, 90, 91, 92, 93, 94, 95, 96, 97, 98, 99, 100, 101, 102, 103, 104, 160, 161, 162] (by decide +kernel) (by decide +kernel)
set_option maxRecDepth 20000 in
theorem gX14_ask_Jx4a65c_add_9ea2d : GoodIn wsX14_ask (wsV RX14 57 RJx4a65c yJx4a65c_add_9ea2d wsJx4a65c_add_9ea2d) := goodIn_app (goodIn_of _ (by decide +kernel)) ggX14_ask_Jx4a65c_add_9ea2d
theorem dX14_ask_0 : decode cX14_ask 0 = .ok (.aload_n 0, 1) := by decide +kernel
theorem dX14_ask_1 : decode cX14_ask 1 = .ok (.iload_n 1, 1) := by decide +kernel
theorem dX14_ask_2 : decode cX14_ask 2 = .ok (.invokevirtual 293, 3) := by decide +kernel
theorem dX14_ask_5 : decode cX14_ask 5 = .ok (.ifCond .eq 5, 3) := by decide +kernel
theorem dX14_ask_8 : decode cX14_ask 8 = .ok (.iconst 0, 1) := by decide +kernel
theorem dX14_ask_9 : decode cX14_ask 9 = .ok (.ireturn, 1) := by decide +kernel
theorem dX14_ask_10 : decode cX14_ask 10 = .ok (.aload_n 0, 1) := by decide +kernel
theorem dX14_ask_11 : decode cX14_ask 11 = .ok (.getfield 18, 3) := by decide +kernel
theorem dX14_ask_14 : decode cX14_ask 14 = .ok (.iload_n 1, 1) := by decide +kernel
theorem dX14_ask_15 : decode cX14_ask 15 = .ok (.aaload, 1) := by decide +kernel
theorem dX14_ask_16 : decode cX14_ask 16 = .ok (.astore_n 3, 1) := by decide +kernel
theorem dX14_ask_17 : decode cX14_ask 17 = .ok (.aload_n 0, 1) := by decide +kernel
theorem dX14_ask_18 : decode cX14_ask 18 = .ok (.iload_n 2, 1) := by decide +kernel
theorem dX14_ask_19 : decode cX14_ask 19 = .ok (.iconst 1, 1) := by decide +kernel
theorem dX14_ask_20 : decode cX14_ask 20 = .ok (.bipush 16, 2) := by decide +kernel
theorem dX14_ask_22 : decode cX14_ask 22 = .ok (.invokestatic 68, 3) := by decide +kernel
theorem dX14_ask_25 : decode cX14_ask 25 = .ok (.ifCond .ne 7, 3) := by decide +kernel
theorem dX14_ask_28 : decode cX14_ask 28 = .ok (.iconst 2, 1) := by decide +kernel
theorem dX14_ask_29 : decode cX14_ask 29 = .ok (.goto 34, 3) := by decide +kernel
theorem dX14_ask_32 : decode cX14_ask 32 = .ok (.aload_n 0, 1) := by decide +kernel
theorem dX14_ask_33 : decode cX14_ask 33 = .ok (.aload_n 3, 1) := by decide +kernel
theorem dX14_ask_34 : decode cX14_ask 34 = .ok (.invokevirtual 296, 3) := by decide +kernel
theorem dX14_ask_37 : decode cX14_ask 37 = .ok (.getfield 300, 3) := by decide +kernel
theorem dX14_ask_40 : decode cX14_ask 40 = .ok (.ifCond .ne 7, 3) := by decide +kernel
theorem dX14_ask_43 : decode cX14_ask 43 = .ok (.iconst 3, 1) := by decide +kernel
theorem dX14_ask_44 : decode cX14_ask 44 = .ok (.goto 19, 3) := by decide +kernel
theorem dX14_ask_47 : decode cX14_ask 47 = .ok (.aload_n 3, 1) := by decide +kernel
theorem dX14_ask_48 : decode cX14_ask 48 = .ok (.getfield 199, 3) := by decide +kernel
theorem dX14_ask_51 : decode cX14_ask 51 = .ok (.invokevirtual 64, 3) := by decide +kernel
theorem dX14_ask_54 : decode cX14_ask 54 = .ok (.iconst 4, 1) := by decide +kernel
theorem dX14_ask_55 : decode cX14_ask 55 = .ok (.if_icmp .ne 7, 3) := by decide +kernel
theorem dX14_ask_58 : decode cX14_ask 58 = .ok (.iconst 4, 1) := by decide +kernel
theorem dX14_ask_59 : decode cX14_ask 59 = .ok (.goto 4, 3) := by decide +kernel
theorem dX14_ask_62 : decode cX14_ask 62 = .ok (.iconst 0, 1) := by decide +kernel
theorem dX14_ask_63 : decode cX14_ask 63 = .ok (.putfield 61, 3) := by decide +kernel
theorem dX14_ask_66 : decode cX14_ask 66 = .ok (.aload_n 0, 1) := by decide +kernel
theorem dX14_ask_67 : decode cX14_ask 67 = .ok (.getfield 61, 3) := by decide +kernel
theorem dX14_ask_70 : decode cX14_ask 70 = .ok (.ifCond .le 5, 3) := by decide +kernel
theorem dX14_ask_73 : decode cX14_ask 73 = .ok (.iconst 0, 1) := by decide +kernel
theorem dX14_ask_74 : decode cX14_ask 74 = .ok (.ireturn, 1) := by decide +kernel
theorem dX14_ask_75 : decode cX14_ask 75 = .ok (.aload_n 3, 1) := by decide +kernel
theorem dX14_ask_76 : decode cX14_ask 76 = .ok (.getfield 199, 3) := by decide +kernel
theorem dX14_ask_79 : decode cX14_ask 79 = .ok (.new 275, 3) := by decide +kernel
theorem dX14_ask_82 : decode cX14_ask 82 = .ok (.dup, 1) := by decide +kernel
theorem dX14_ask_83 : decode cX14_ask 83 = .ok (.iconst 0, 1) := by decide +kernel
theorem dX14_ask_84 : decode cX14_ask 84 = .ok (.newarray .int, 2) := by decide +kernel
theorem dX14_ask_86 : decode cX14_ask 86 = .ok (.iload_n 2, 1) := by decide +kernel
theorem dX14_ask_87 : decode cX14_ask 87 = .ok (.invokespecial 307, 3) := by decide +kernel
theorem dX14_ask_90 : decode cX14_ask 90 = .ok (.invokevirtual 57, 3) := by decide +kernel
theorem dX14_ask_93 : decode cX14_ask 93 = .ok (.pop, 1) := by decide +kernel
theorem dX14_ask_94 : decode cX14_ask 94 = .ok (.aload_n 3, 1) := by decide +kernel
theorem dX14_ask_95 : decode cX14_ask 95 = .ok (.getfield 199, 3) := by decide +kernel
theorem dX14_ask_98 : decode cX14_ask 98 = .ok (.invokevirtual 64, 3) := by decide +kernel
theorem dX14_ask_101 : decode cX14_ask 101 = .ok (.ireturn, 1) := by decide +kernel
set_option maxRecDepth 20000 in
theorem ggX14_ring_X14_noPipe : GoodIn wsX14_ring wsX14_noPipe := goodIn_r _ [7, 1, 8, 9, 10, 6, 11, 45, 46, 47, 48, 49, 50, 51, 52, 53, 54, 55, 56, 57, 58, 59, 60, 61, 62, 63] (by decide +kernel) (by decide +kernel)
set_option maxRecDepth 20000 in
theorem gX14_ring_X14_noPipe : GoodIn wsX14_ring (wsV RX14 293 RX14 yX14_noPipe wsX14_noPipe) := goodIn_app (goodIn_of _ (by decide +kernel)) ggX14_ring_X14_noPipe
set_option maxRecDepth 20000 in
theorem ggX14_ring_Jx4a65c_iterator_32c93 : GoodIn wsX14_ring wsJx4a65c_iterator_32c93 := goodIn_r _ [16, 17, 18, 19, 20, 21, 22, 23, 24, 25, 26, 27, 28, 29, 30, 79, 80, 81, 82, 83, 84, 85] (by decide +kernel) (by decide +kernel)
set_option maxRecDepth 20000 in
theorem gX14_ring_Jx4a65c_iterator_32c93 : GoodIn wsX14_ring (wsV RX14 108 RJx4a65c yJx4a65c_iterator_32c93 wsJx4a65c_iterator_32c93) := goodIn_app (goodIn_of _ (by decide +kernel)) ggX14_ring_Jx4a65c_iterator_32c93
set_option maxRecDepth 20000 in
theorem ggX14_ring_Jx35411_hasNext_aae02 : GoodIn wsX14_ring wsJx35411_hasNext_aae02 := goodIn_r _ [34, 35, 23, 79, 80, 81, 82, 83, 84, 85] (by decide +kernel) (by decide +kernel)
set_option maxRecDepth 20000 in
theorem gX14_ring_Jx35411_hasNext_aae02_f112Jx35411 : GoodIn wsX14_ring (va_wsF RX14 112 RJx35411 ⟨"java/util/Iterator", "hasNext", "()Z"⟩ yJx35411_hasNext_aae02 wsJx35411_hasNext_aae02) := goodIn_app (goodIn_of _ (by decide +kernel)) ggX14_ring_Jx35411_hasNext_aae02
set_option maxRecDepth 20000 in
theorem ggX14_ring_Jx35411_next_0502b : GoodIn wsX14_ring wsJx35411_next_0502b := goodIn_r _ [39, 35, 23, 40, 27, 41, 42, 43, 19, 44, 28, 29, 30, 79, 80, 81, 82, 83, 84, 85] (by decide +kernel) (by decide +kernel)
set_option maxRecDepth 20000 in
theorem gX14_ring_Jx35411_next_0502b_f118Jx35411 : GoodIn wsX14_ring (va_wsF RX14 118 RJx35411 ⟨"java/util/Iterator", "next", "()Ljava/lang/Object;"⟩ yJx35411_next_0502b wsJx35411_next_0502b) := goodIn_app (goodIn_of _ (by decide +kernel)) ggX14_ring_Jx35411_next_0502b
theorem dX14_ring_0 : decode cX14_ring 0 = .ok (.iconst 0, 1) := by decide +kernel
theorem dX14_ring_1 : decode cX14_ring 1 = .ok (.istore_n 2, 1) := by decide +kernel
theorem dX14_ring_2 : decode cX14_ring 2 = .ok (.aload_n 0, 1) := by decide +kernel
theorem dX14_ring_3 : decode cX14_ring 3 = .ok (.iload_n 1, 1) := by decide +kernel
theorem dX14_ring_4 : decode cX14_ring 4 = .ok (.invokevirtual 293, 3) := by decide +kernel
theorem dX14_ring_7 : decode cX14_ring 7 = .ok (.ifCond .ne 61, 3) := by decide +kernel
theorem dX14_ring_10 : decode cX14_ring 10 = .ok (.aload_n 0, 1) := by decide +kernel
theorem dX14_ring_11 : decode cX14_ring 11 = .ok (.getfield 18, 3) := by decide +kernel
theorem dX14_ring_14 : decode cX14_ring 14 = .ok (.iload_n 1, 1) := by decide +kernel
theorem dX14_ring_15 : decode cX14_ring 15 = .ok (.aaload, 1) := by decide +kernel
theorem dX14_ring_16 : decode cX14_ring 16 = .ok (.getfield 199, 3) := by decide +kernel
theorem dX14_ring_19 : decode cX14_ring 19 = .ok (.invokevirtual 108, 3) := by decide +kernel
theorem dX14_ring_22 : decode cX14_ring 22 = .ok (.astore_n 3, 1) := by decide +kernel
theorem dX14_ring_23 : decode cX14_ring 23 = .ok (.aload_n 3, 1) := by decide +kernel
theorem dX14_ring_24 : decode cX14_ring 24 = .ok (.invokeinterface 112 1, 5) := by decide +kernel
theorem dX14_ring_29 : decode cX14_ring 29 = .ok (.ifCond .eq 39, 3) := by decide +kernel
theorem dX14_ring_32 : decode cX14_ring 32 = .ok (.aload_n 3, 1) := by decide +kernel
theorem dX14_ring_33 : decode cX14_ring 33 = .ok (.invokeinterface 118 1, 5) := by decide +kernel
theorem dX14_ring_38 : decode cX14_ring 38 = .ok (.checkcast 275, 3) := by decide +kernel
theorem dX14_ring_41 : decode cX14_ring 41 = .ok (.astore 4, 2) := by decide +kernel
theorem dX14_ring_43 : decode cX14_ring 43 = .ok (.iload_n 2, 1) := by decide +kernel
theorem dX14_ring_44 : decode cX14_ring 44 = .ok (.aload 4, 2) := by decide +kernel
theorem dX14_ring_46 : decode cX14_ring 46 = .ok (.getfield 310, 3) := by decide +kernel
theorem dX14_ring_49 : decode cX14_ring 49 = .ok (.ifCond .eq 7, 3) := by decide +kernel
theorem dX14_ring_52 : decode cX14_ring 52 = .ok (.iconst 0, 1) := by decide +kernel
theorem dX14_ring_53 : decode cX14_ring 53 = .ok (.goto 4, 3) := by decide +kernel
theorem dX14_ring_56 : decode cX14_ring 56 = .ok (.iconst 1, 1) := by decide +kernel
theorem dX14_ring_57 : decode cX14_ring 57 = .ok (.iadd, 1) := by decide +kernel
theorem dX14_ring_58 : decode cX14_ring 58 = .ok (.istore_n 2, 1) := by decide +kernel
theorem dX14_ring_59 : decode cX14_ring 59 = .ok (.aload 4, 2) := by decide +kernel
theorem dX14_ring_61 : decode cX14_ring 61 = .ok (.iconst 1, 1) := by decide +kernel
theorem dX14_ring_62 : decode cX14_ring 62 = .ok (.putfield 310, 3) := by decide +kernel
theorem dX14_ring_65 : decode cX14_ring 65 = .ok (.goto (-42), 3) := by decide +kernel
theorem dX14_ring_68 : decode cX14_ring 68 = .ok (.iload_n 2, 1) := by decide +kernel
theorem dX14_ring_69 : decode cX14_ring 69 = .ok (.ireturn, 1) := by decide +kernel
set_option maxRecDepth 20000 in
theorem ggX14_isHalted_X14_noPipe : GoodIn wsX14_isHalted wsX14_noPipe := goodIn_r _ [6, 1, 7, 8, 9, 5, 10, 11, 12, 13, 14, 15, 16, 17, 18, 19, 20, 21, 22, 23, 24, 25, 26, 27, 28, 29] (by decide +kernel) (by decide +kernel)
set_option maxRecDepth 20000 in
theorem gX14_isHalted_X14_noPipe : GoodIn wsX14_isHalted (wsV RX14 293 RX14 yX14_noPipe wsX14_noPipe) := goodIn_app (goodIn_of _ (by decide +kernel)) ggX14_isHalted_X14_noPipe
theorem dX14_isHalted_0 : decode cX14_isHalted 0 = .ok (.aload_n 0, 1) := by decide +kernel
theorem dX14_isHalted_1 : decode cX14_isHalted 1 = .ok (.iload_n 1, 1) := by decide +kernel
theorem dX14_isHalted_2 : decode cX14_isHalted 2 = .ok (.invokevirtual 293, 3) := by decide +kernel
theorem dX14_isHalted_5 : decode cX14_isHalted 5 = .ok (.ifCond .ne 19, 3) := by decide +kernel
theorem dX14_isHalted_8 : decode cX14_isHalted 8 = .ok (.aload_n 0, 1) := by decide +kernel
theorem dX14_isHalted_9 : decode cX14_isHalted 9 = .ok (.getfield 18, 3) := by decide +kernel
theorem dX14_isHalted_12 : decode cX14_isHalted 12 = .ok (.iload_n 1, 1) := by decide +kernel
theorem dX14_isHalted_13 : decode cX14_isHalted 13 = .ok (.aaload, 1) := by decide +kernel
theorem dX14_isHalted_14 : decode cX14_isHalted 14 = .ok (.getfield 313, 3) := by decide +kernel
theorem dX14_isHalted_17 : decode cX14_isHalted 17 = .ok (.ifCond .eq 7, 3) := by decide +kernel
theorem dX14_isHalted_20 : decode cX14_isHalted 20 = .ok (.iconst 1, 1) := by decide +kernel
theorem dX14_isHalted_21 : decode cX14_isHalted 21 = .ok (.goto 4, 3) := by decide +kernel
theorem dX14_isHalted_24 : decode cX14_isHalted 24 = .ok (.iconst 0, 1) := by decide +kernel
theorem dX14_isHalted_25 : decode cX14_isHalted 25 = .ok (.ireturn, 1) := by decide +kernel
set_option maxRecDepth 20000 in
theorem ggX14_clear_X14_noPipe : GoodIn wsX14_clear wsX14_noPipe := goodIn_r _ [6, 1, 7, 8, 9, 5, 10, 40, 41, 42, 43, 44, 45, 46, 47, 48, 49, 50, 51, 52, 53, 54, 55, 56, 57, 58] (by decide +kernel) (by decide +kernel)
set_option maxRecDepth 20000 in
theorem gX14_clear_X14_noPipe : GoodIn wsX14_clear (wsV RX14 293 RX14 yX14_noPipe wsX14_noPipe) := goodIn_app (goodIn_of _ (by decide +kernel)) ggX14_clear_X14_noPipe
set_option maxRecDepth 20000 in
theorem ggX14_clear_X14_endOf : GoodIn wsX14_clear wsX14_endOf := goodIn_r _ [14, 15, 16, 17, 18, 19, 20, 21, 22, 23, 24, 25, 26, 27, 28, 29, 30, 31, 32, 33, 34, 35, 40, 41, 42, 43, 44, 45, 46, 47, 48, 49, 50, 51, 52, 53, 54, 55, 56, 57, 58, 59, 60, 61, 62, 63, 64, 65, 66, 67, 68, 74, 75, 76, 77, 78, 79, 80, 81, 82, 83, 84, 85, 86, 87, 88, 89, 90, 91, 92] (by decide +kernel) (by decide +kernel)
set_option maxRecDepth 20000 in
theorem gX14_clear_X14_endOf : GoodIn wsX14_clear (wsV RX14 296 RX14 yX14_endOf wsX14_endOf) := goodIn_app (goodIn_of _ (by decide +kernel)) ggX14_clear_X14_endOf
set_option maxRecDepth 20000 in
theorem ggX14_clear_Jx4a65c_size_8abf5 : GoodIn wsX14_clear wsJx4a65c_size_8abf5 := goodIn_r _ [39, 22, 90, 91, 92] (by decide +kernel) (by decide +kernel)
set_option maxRecDepth 20000 in
theorem gX14_clear_Jx4a65c_size_8abf5 : GoodIn wsX14_clear (wsV RX14 64 RJx4a65c yJx4a65c_size_8abf5 wsJx4a65c_size_8abf5) := goodIn_app (goodIn_of _ (by decide +kernel)) ggX14_clear_Jx4a65c_size_8abf5
theorem dX14_clear_0 : decode cX14_clear 0 = .ok (.aload_n 0, 1) := by decide +kernel
theorem dX14_clear_1 : decode cX14_clear 1 = .ok (.iload_n 1, 1) := by decide +kernel
theorem dX14_clear_2 : decode cX14_clear 2 = .ok (.invokevirtual 293, 3) := by decide +kernel
theorem dX14_clear_5 : decode cX14_clear 5 = .ok (.ifCond .eq 5, 3) := by decide +kernel
theorem dX14_clear_8 : decode cX14_clear 8 = .ok (.iconst 0, 1) := by decide +kernel
theorem dX14_clear_9 : decode cX14_clear 9 = .ok (.ireturn, 1) := by decide +kernel
theorem dX14_clear_10 : decode cX14_clear 10 = .ok (.aload_n 0, 1) := by decide +kernel
theorem dX14_clear_11 : decode cX14_clear 11 = .ok (.getfield 18, 3) := by decide +kernel
theorem dX14_clear_14 : decode cX14_clear 14 = .ok (.iload_n 1, 1) := by decide +kernel
theorem dX14_clear_15 : decode cX14_clear 15 = .ok (.aaload, 1) := by decide +kernel
theorem dX14_clear_16 : decode cX14_clear 16 = .ok (.astore_n 2, 1) := by decide +kernel
theorem dX14_clear_17 : decode cX14_clear 17 = .ok (.aload_n 2, 1) := by decide +kernel
theorem dX14_clear_18 : decode cX14_clear 18 = .ok (.iconst 0, 1) := by decide +kernel
theorem dX14_clear_19 : decode cX14_clear 19 = .ok (.putfield 313, 3) := by decide +kernel
theorem dX14_clear_22 : decode cX14_clear 22 = .ok (.aload_n 2, 1) := by decide +kernel
theorem dX14_clear_23 : decode cX14_clear 23 = .ok (.iconst 0, 1) := by decide +kernel
theorem dX14_clear_24 : decode cX14_clear 24 = .ok (.putfield 316, 3) := by decide +kernel
theorem dX14_clear_27 : decode cX14_clear 27 = .ok (.aload_n 2, 1) := by decide +kernel
theorem dX14_clear_28 : decode cX14_clear 28 = .ok (.iconst 0, 1) := by decide +kernel
theorem dX14_clear_29 : decode cX14_clear 29 = .ok (.putfield 319, 3) := by decide +kernel
theorem dX14_clear_32 : decode cX14_clear 32 = .ok (.aload_n 0, 1) := by decide +kernel
theorem dX14_clear_33 : decode cX14_clear 33 = .ok (.aload_n 2, 1) := by decide +kernel
theorem dX14_clear_34 : decode cX14_clear 34 = .ok (.invokevirtual 296, 3) := by decide +kernel
theorem dX14_clear_37 : decode cX14_clear 37 = .ok (.iconst 0, 1) := by decide +kernel
theorem dX14_clear_38 : decode cX14_clear 38 = .ok (.putfield 266, 3) := by decide +kernel
theorem dX14_clear_41 : decode cX14_clear 41 = .ok (.aload_n 0, 1) := by decide +kernel
theorem dX14_clear_42 : decode cX14_clear 42 = .ok (.aload_n 2, 1) := by decide +kernel
theorem dX14_clear_43 : decode cX14_clear 43 = .ok (.invokevirtual 296, 3) := by decide +kernel
theorem dX14_clear_46 : decode cX14_clear 46 = .ok (.iconst (-1), 1) := by decide +kernel
theorem dX14_clear_47 : decode cX14_clear 47 = .ok (.putfield 269, 3) := by decide +kernel
theorem dX14_clear_50 : decode cX14_clear 50 = .ok (.aload_n 2, 1) := by decide +kernel
theorem dX14_clear_51 : decode cX14_clear 51 = .ok (.getfield 199, 3) := by decide +kernel
theorem dX14_clear_54 : decode cX14_clear 54 = .ok (.invokevirtual 64, 3) := by decide +kernel
theorem dX14_clear_57 : decode cX14_clear 57 = .ok (.ireturn, 1) := by decide +kernel
set_option maxRecDepth 20000 in
theorem ggX14_cancel_X14_noPipe : GoodIn wsX14_cancel wsX14_noPipe := goodIn_r _ [8, 1, 2, 9, 10, 7, 11, 110, 111, 112, 113, 114, 115, 116, 117, 118, 119, 120, 121, 122, 123, 124, 125, 126, 127, 128] (by decide +kernel) (by decide +kernel)
set_option maxRecDepth 20000 in
theorem gX14_cancel_X14_noPipe : GoodIn wsX14_cancel (wsV RX14 293 RX14 yX14_noPipe wsX14_noPipe) := goodIn_app (goodIn_of _ (by decide +kernel)) ggX14_cancel_X14_noPipe
set_option maxRecDepth 20000 in
theorem ggX14_cancel_Jx4a65c_isEmpty_aae02 : GoodIn wsX14_cancel wsJx4a65c_isEmpty_aae02 := goodIn_r _ [16, 17, 144, 145, 146] (by decide +kernel) (by decide +kernel)
set_option maxRecDepth 20000 in
theorem gX14_cancel_Jx4a65c_isEmpty_aae02 : GoodIn wsX14_cancel (wsV RX14 202 RJx4a65c yJx4a65c_isEmpty_aae02 wsJx4a65c_isEmpty_aae02) := goodIn_app (goodIn_of _ (by decide +kernel)) ggX14_cancel_Jx4a65c_isEmpty_aae02
set_option maxRecDepth 20000 in
theorem ggX14_cancel_Jx4a65c_get_915e3 : GoodIn wsX14_cancel wsJx4a65c_get_915e3 := goodIn_r _ [21, 17, 22, 23, 24, 25, 26, 27, 28, 29, 30, 31, 32, 15, 33, 34, 144, 145, 146] (by decide +kernel) (by decide +kernel)
set_option maxRecDepth 20000 in
theorem gX14_cancel_Jx4a65c_get_915e3 : GoodIn wsX14_cancel (wsV RX14 76 RJx4a65c yJx4a65c_get_915e3 wsJx4a65c_get_915e3) := goodIn_app (goodIn_of _ (by decide +kernel)) ggX14_cancel_Jx4a65c_get_915e3
set_option maxRecDepth 20000 in
theorem ggX14_cancel_X14_ends : GoodIn wsX14_cancel wsX14_ends := goodIn_ca (goodIn_r _ [38, 1, 3, 39, 40, 41, 42, 43, 44, 45, 46, 15, 47, 17, 34, 22, 23, 24, 25, 26, 27, 28, 29, 48, 49, 50, 51, 52, 53, 54, 55, 56, 57, 58, 59, 60, 61, 62, 63, 64, 65, 66, 67, 68, 69, 70, 71, 72, 73, 74, 75, 76, 77, 78, 79, 80, 81, 82, 83, 84, 85, 86, 87, 88, 89, 90, 91, 92, 93, 94, 95, 96, 97, 98, 99, 100, 101, 102, 103, 104, 105, 106, 107, 108, 109, 110, 111, 112, 113, 114, 115, 116, 117, 118, 119, 120, 121, 122, 123, 124, 125, 126, 127, 128, 129, 130, 131, 132, 133, 134, 135, 136, 137, 138, 139, 140, 141, 142, 143, 144, 145, 146] (by decide +kernel) (by decide +kernel)) (goodIn_sub (fun _ h => List.mem_cons_of_mem _ (List.mem_append_right _ h)) (by decide +kernel))
set_option maxRecDepth 20000 in
theorem gX14_cancel_X14_ends : GoodIn wsX14_cancel (wsV RX14 290 RX14 yX14_ends wsX14_ends) := goodIn_app (goodIn_of _ (by decide +kernel)) ggX14_cancel_X14_ends
theorem dX14_cancel_0 : decode cX14_cancel 0 = .ok (.aload_n 0, 1) := by decide +kernel
theorem dX14_cancel_1 : decode cX14_cancel 1 = .ok (.iload_n 1, 1) := by decide +kernel
theorem dX14_cancel_2 : decode cX14_cancel 2 = .ok (.invokevirtual 293, 3) := by decide +kernel
theorem dX14_cancel_5 : decode cX14_cancel 5 = .ok (.ifCond .eq 5, 3) := by decide +kernel
theorem dX14_cancel_8 : decode cX14_cancel 8 = .ok (.iconst 0, 1) := by decide +kernel
theorem dX14_cancel_9 : decode cX14_cancel 9 = .ok (.ireturn, 1) := by decide +kernel
theorem dX14_cancel_10 : decode cX14_cancel 10 = .ok (.aload_n 0, 1) := by decide +kernel
theorem dX14_cancel_11 : decode cX14_cancel 11 = .ok (.getfield 18, 3) := by decide +kernel
theorem dX14_cancel_14 : decode cX14_cancel 14 = .ok (.iload_n 1, 1) := by decide +kernel
theorem dX14_cancel_15 : decode cX14_cancel 15 = .ok (.aaload, 1) := by decide +kernel
theorem dX14_cancel_16 : decode cX14_cancel 16 = .ok (.astore_n 2, 1) := by decide +kernel
theorem dX14_cancel_17 : decode cX14_cancel 17 = .ok (.aload_n 0, 1) := by decide +kernel
theorem dX14_cancel_18 : decode cX14_cancel 18 = .ok (.aload_n 2, 1) := by decide +kernel
theorem dX14_cancel_19 : decode cX14_cancel 19 = .ok (.getfield 199, 3) := by decide +kernel
theorem dX14_cancel_22 : decode cX14_cancel 22 = .ok (.invokevirtual 202, 3) := by decide +kernel
theorem dX14_cancel_25 : decode cX14_cancel 25 = .ok (.ifCond .eq 7, 3) := by decide +kernel
theorem dX14_cancel_28 : decode cX14_cancel 28 = .ok (.iconst 2, 1) := by decide +kernel
theorem dX14_cancel_29 : decode cX14_cancel 29 = .ok (.goto 4, 3) := by decide +kernel
theorem dX14_cancel_32 : decode cX14_cancel 32 = .ok (.iconst 0, 1) := by decide +kernel
theorem dX14_cancel_33 : decode cX14_cancel 33 = .ok (.putfield 61, 3) := by decide +kernel
theorem dX14_cancel_36 : decode cX14_cancel 36 = .ok (.aload_n 0, 1) := by decide +kernel
theorem dX14_cancel_37 : decode cX14_cancel 37 = .ok (.getfield 61, 3) := by decide +kernel
theorem dX14_cancel_40 : decode cX14_cancel 40 = .ok (.ifCond .le 5, 3) := by decide +kernel
theorem dX14_cancel_43 : decode cX14_cancel 43 = .ok (.iconst 0, 1) := by decide +kernel
theorem dX14_cancel_44 : decode cX14_cancel 44 = .ok (.ireturn, 1) := by decide +kernel
theorem dX14_cancel_45 : decode cX14_cancel 45 = .ok (.aload_n 2, 1) := by decide +kernel
theorem dX14_cancel_46 : decode cX14_cancel 46 = .ok (.getfield 199, 3) := by decide +kernel
theorem dX14_cancel_49 : decode cX14_cancel 49 = .ok (.iconst 0, 1) := by decide +kernel
theorem dX14_cancel_50 : decode cX14_cancel 50 = .ok (.invokevirtual 76, 3) := by decide +kernel
theorem dX14_cancel_53 : decode cX14_cancel 53 = .ok (.checkcast 275, 3) := by decide +kernel
theorem dX14_cancel_56 : decode cX14_cancel 56 = .ok (.getfield 284, 3) := by decide +kernel
theorem dX14_cancel_59 : decode cX14_cancel 59 = .ok (.istore_n 3, 1) := by decide +kernel
theorem dX14_cancel_60 : decode cX14_cancel 60 = .ok (.aload_n 2, 1) := by decide +kernel
theorem dX14_cancel_61 : decode cX14_cancel 61 = .ok (.iconst 0, 1) := by decide +kernel
theorem dX14_cancel_62 : decode cX14_cancel 62 = .ok (.putfield 316, 3) := by decide +kernel
theorem dX14_cancel_65 : decode cX14_cancel 65 = .ok (.aload_n 0, 1) := by decide +kernel
theorem dX14_cancel_66 : decode cX14_cancel 66 = .ok (.iload_n 1, 1) := by decide +kernel
theorem dX14_cancel_67 : decode cX14_cancel 67 = .ok (.bipush 120, 2) := by decide +kernel
theorem dX14_cancel_69 : decode cX14_cancel 69 = .ok (.invokevirtual 290, 3) := by decide +kernel
theorem dX14_cancel_72 : decode cX14_cancel 72 = .ok (.iload_n 3, 1) := by decide +kernel
theorem dX14_cancel_73 : decode cX14_cancel 73 = .ok (.ireturn, 1) := by decide +kernel
set_option maxRecDepth 20000 in
theorem ggX14_load_X14_isEnd : GoodIn wsX14_load wsX14_isEnd := goodIn_r _ [9, 2, 3, 10, 11, 12, 8, 13, 14, 15, 16, 17, 18, 19, 20, 21, 22, 23, 24, 25, 26, 27, 28, 29, 30, 31, 32, 33, 34, 35, 36, 37, 38, 39, 94, 95, 96, 97, 98, 99, 100, 101, 102, 103, 104, 105, 106, 107, 108, 109, 110, 111, 112, 113, 114, 115, 116, 117, 118, 119, 120, 121, 122, 123, 124, 125, 126, 127, 128, 134, 135, 136] (by decide +kernel) (by decide +kernel)
set_option maxRecDepth 20000 in
theorem gX14_load_X14_isEnd : GoodIn wsX14_load (wsV RX14 256 RX14 yX14_isEnd wsX14_isEnd) := goodIn_app (goodIn_of _ (by decide +kernel)) ggX14_load_X14_isEnd
set_option maxRecDepth 20000 in
theorem ggX14_load_Jx4a65c_get_915e3 : GoodIn wsX14_load wsJx4a65c_get_915e3 := goodIn_r _ [26, 19, 27, 28, 29, 30, 31, 32, 33, 34, 35, 36, 37, 17, 38, 39, 134, 135, 136] (by decide +kernel) (by decide +kernel)
set_option maxRecDepth 20000 in
theorem gX14_load_Jx4a65c_get_915e3 : GoodIn wsX14_load (wsV RX14 76 RJx4a65c yJx4a65c_get_915e3 wsJx4a65c_get_915e3) := goodIn_app (goodIn_of _ (by decide +kernel)) ggX14_load_Jx4a65c_get_915e3
set_option maxRecDepth 20000 in
theorem ggX14_load_Jx4a65c_size_8abf5 : GoodIn wsX14_load wsJx4a65c_size_8abf5 := goodIn_r _ [18, 19, 134, 135, 136] (by decide +kernel) (by decide +kernel)
set_option maxRecDepth 20000 in
theorem gX14_load_Jx4a65c_size_8abf5 : GoodIn wsX14_load (wsV RX14 64 RJx4a65c yJx4a65c_size_8abf5 wsJx4a65c_size_8abf5) := goodIn_app (goodIn_of _ (by decide +kernel)) ggX14_load_Jx4a65c_size_8abf5
set_option maxRecDepth 20000 in
theorem ggX14_load_Jx4a65c_addAll_f0b43 : GoodIn wsX14_load wsJx4a65c_addAll_f0b43 := goodIn_r _ [43, 44, 45, 39, 19, 46, 47, 48, 49, 50, 51, 52, 17, 53, 54, 55, 56, 57, 58, 59, 60, 61, 62, 63, 64, 65, 66, 67, 68, 69, 70, 71, 72, 73, 74, 75, 76, 77, 78, 79, 80, 81, 82, 83, 84, 85, 86, 87, 88, 89, 134, 135, 136] (by decide +kernel) (by decide +kernel)
set_option maxRecDepth 20000 in
theorem gX14_load_Jx4a65c_addAll_f0b43 : GoodIn wsX14_load (wsV RX14 323 RJx4a65c yJx4a65c_addAll_f0b43 wsJx4a65c_addAll_f0b43) := goodIn_app (goodIn_of _ (by decide +kernel)) ggX14_load_Jx4a65c_addAll_f0b43
set_option maxRecDepth 20000 in
theorem ggX14_load_Jx4a65c_clear_da8c8 : GoodIn wsX14_load wsJx4a65c_clear_da8c8 := goodIn_r _ [93, 44, 45, 39, 19, 134, 135, 136] (by decide +kernel) (by decide +kernel)
set_option maxRecDepth 20000 in
theorem gX14_load_Jx4a65c_clear_da8c8 : GoodIn wsX14_load (wsV RX14 218 RJx4a65c yJx4a65c_clear_da8c8 wsJx4a65c_clear_da8c8) := goodIn_app (goodIn_of _ (by decide +kernel)) ggX14_load_Jx4a65c_clear_da8c8
theorem dX14_load_0 : decode cX14_load 0 = .ok (.aload_n 0, 1) := by decide +kernel
theorem dX14_load_1 : decode cX14_load 1 = .ok (.aload_n 0, 1) := by decide +kernel
theorem dX14_load_2 : decode cX14_load 2 = .ok (.iload_n 1, 1) := by decide +kernel
theorem dX14_load_3 : decode cX14_load 3 = .ok (.iload_n 2, 1) := by decide +kernel
theorem dX14_load_4 : decode cX14_load 4 = .ok (.invokevirtual 256, 3) := by decide +kernel
theorem dX14_load_7 : decode cX14_load 7 = .ok (.ifCond .ne 7, 3) := by decide +kernel
theorem dX14_load_10 : decode cX14_load 10 = .ok (.iconst 1, 1) := by decide +kernel
theorem dX14_load_11 : decode cX14_load 11 = .ok (.goto 4, 3) := by decide +kernel
theorem dX14_load_14 : decode cX14_load 14 = .ok (.iconst 0, 1) := by decide +kernel
theorem dX14_load_15 : decode cX14_load 15 = .ok (.putfield 61, 3) := by decide +kernel
theorem dX14_load_18 : decode cX14_load 18 = .ok (.aload_n 0, 1) := by decide +kernel
theorem dX14_load_19 : decode cX14_load 19 = .ok (.getfield 61, 3) := by decide +kernel
theorem dX14_load_22 : decode cX14_load 22 = .ok (.ifCond .le 5, 3) := by decide +kernel
theorem dX14_load_25 : decode cX14_load 25 = .ok (.iconst 0, 1) := by decide +kernel
theorem dX14_load_26 : decode cX14_load 26 = .ok (.ireturn, 1) := by decide +kernel
theorem dX14_load_27 : decode cX14_load 27 = .ok (.aload_n 0, 1) := by decide +kernel
theorem dX14_load_28 : decode cX14_load 28 = .ok (.getfield 10, 3) := by decide +kernel
theorem dX14_load_31 : decode cX14_load 31 = .ok (.iload_n 1, 1) := by decide +kernel
theorem dX14_load_32 : decode cX14_load 32 = .ok (.invokevirtual 76, 3) := by decide +kernel
theorem dX14_load_35 : decode cX14_load 35 = .ok (.checkcast 48, 3) := by decide +kernel
theorem dX14_load_38 : decode cX14_load 38 = .ok (.getfield 96, 3) := by decide +kernel
theorem dX14_load_41 : decode cX14_load 41 = .ok (.iload_n 2, 1) := by decide +kernel
theorem dX14_load_42 : decode cX14_load 42 = .ok (.aaload, 1) := by decide +kernel
theorem dX14_load_43 : decode cX14_load 43 = .ok (.astore_n 3, 1) := by decide +kernel
theorem dX14_load_44 : decode cX14_load 44 = .ok (.aload_n 0, 1) := by decide +kernel
theorem dX14_load_45 : decode cX14_load 45 = .ok (.aload_n 3, 1) := by decide +kernel
theorem dX14_load_46 : decode cX14_load 46 = .ok (.getfield 300, 3) := by decide +kernel
theorem dX14_load_49 : decode cX14_load 49 = .ok (.ifCond .ne 7, 3) := by decide +kernel
theorem dX14_load_52 : decode cX14_load 52 = .ok (.iconst 2, 1) := by decide +kernel
theorem dX14_load_53 : decode cX14_load 53 = .ok (.goto 28, 3) := by decide +kernel
theorem dX14_load_56 : decode cX14_load 56 = .ok (.aload_n 3, 1) := by decide +kernel
theorem dX14_load_57 : decode cX14_load 57 = .ok (.getfield 320, 3) := by decide +kernel
theorem dX14_load_60 : decode cX14_load 60 = .ok (.invokevirtual 64, 3) := by decide +kernel
theorem dX14_load_63 : decode cX14_load 63 = .ok (.aload_n 0, 1) := by decide +kernel
theorem dX14_load_64 : decode cX14_load 64 = .ok (.getfield 25, 3) := by decide +kernel
theorem dX14_load_67 : decode cX14_load 67 = .ok (.invokevirtual 64, 3) := by decide +kernel
theorem dX14_load_70 : decode cX14_load 70 = .ok (.iadd, 1) := by decide +kernel
theorem dX14_load_71 : decode cX14_load 71 = .ok (.bipush 32, 2) := by decide +kernel
theorem dX14_load_73 : decode cX14_load 73 = .ok (.if_icmp .le 7, 3) := by decide +kernel
theorem dX14_load_76 : decode cX14_load 76 = .ok (.iconst 3, 1) := by decide +kernel
theorem dX14_load_77 : decode cX14_load 77 = .ok (.goto 4, 3) := by decide +kernel
theorem dX14_load_80 : decode cX14_load 80 = .ok (.iconst 0, 1) := by decide +kernel
theorem dX14_load_81 : decode cX14_load 81 = .ok (.putfield 61, 3) := by decide +kernel
theorem dX14_load_84 : decode cX14_load 84 = .ok (.aload_n 0, 1) := by decide +kernel
theorem dX14_load_85 : decode cX14_load 85 = .ok (.getfield 61, 3) := by decide +kernel
theorem dX14_load_88 : decode cX14_load 88 = .ok (.ifCond .le 5, 3) := by decide +kernel
theorem dX14_load_91 : decode cX14_load 91 = .ok (.iconst 0, 1) := by decide +kernel
theorem dX14_load_92 : decode cX14_load 92 = .ok (.ireturn, 1) := by decide +kernel
theorem dX14_load_93 : decode cX14_load 93 = .ok (.aload_n 3, 1) := by decide +kernel
theorem dX14_load_94 : decode cX14_load 94 = .ok (.getfield 320, 3) := by decide +kernel
theorem dX14_load_97 : decode cX14_load 97 = .ok (.aload_n 0, 1) := by decide +kernel
theorem dX14_load_98 : decode cX14_load 98 = .ok (.getfield 25, 3) := by decide +kernel
theorem dX14_load_101 : decode cX14_load 101 = .ok (.invokevirtual 323, 3) := by decide +kernel
theorem dX14_load_104 : decode cX14_load 104 = .ok (.pop, 1) := by decide +kernel
theorem dX14_load_105 : decode cX14_load 105 = .ok (.aload_n 0, 1) := by decide +kernel
theorem dX14_load_106 : decode cX14_load 106 = .ok (.getfield 25, 3) := by decide +kernel
theorem dX14_load_109 : decode cX14_load 109 = .ok (.invokevirtual 218, 3) := by decide +kernel
theorem dX14_load_112 : decode cX14_load 112 = .ok (.aload_n 3, 1) := by decide +kernel
theorem dX14_load_113 : decode cX14_load 113 = .ok (.getfield 320, 3) := by decide +kernel
theorem dX14_load_116 : decode cX14_load 116 = .ok (.invokevirtual 64, 3) := by decide +kernel
theorem dX14_load_119 : decode cX14_load 119 = .ok (.ireturn, 1) := by decide +kernel
set_option maxRecDepth 20000 in
theorem ggX14_fault_X14_isOther : GoodIn wsX14_fault wsX14_isOther := goodIn_r _ [8, 9, 10, 11, 7, 12, 2, 13, 14, 15, 16, 17, 18, 19, 20, 21, 131, 132, 133, 134, 135, 136, 137, 138, 139, 140, 141, 142, 143, 144, 145, 146, 147, 148, 149, 166, 167, 168] (by decide +kernel) (by decide +kernel)
set_option maxRecDepth 20000 in
theorem gX14_fault_X14_isOther : GoodIn wsX14_fault (wsV RX14 149 RX14 yX14_isOther wsX14_isOther) := goodIn_app (goodIn_of _ (by decide +kernel)) ggX14_fault_X14_isOther
set_option maxRecDepth 20000 in
theorem ggX14_fault_X14_isEnd : GoodIn wsX14_fault wsX14_isEnd := goodIn_r _ [25, 2, 3, 9, 10, 11, 7, 12, 13, 14, 15, 16, 17, 18, 19, 20, 21, 26, 27, 28, 29, 30, 31, 32, 33, 34, 35, 36, 37, 38, 39, 40, 41, 42, 131, 132, 133, 134, 135, 136, 137, 138, 139, 140, 141, 142, 143, 144, 145, 146, 147, 148, 149, 150, 151, 152, 153, 154, 155, 156, 157, 158, 159, 160, 161, 162, 163, 164, 165, 166, 167, 168] (by decide +kernel) (by decide +kernel)
set_option maxRecDepth 20000 in
theorem gX14_fault_X14_isEnd : GoodIn wsX14_fault (wsV RX14 256 RX14 yX14_isEnd wsX14_isEnd) := goodIn_app (goodIn_of _ (by decide +kernel)) ggX14_fault_X14_isEnd
set_option maxRecDepth 20000 in
theorem ggX14_fault_J0_indexOf_0f7a4 : GoodIn wsX14_fault wsJ0_indexOf_0f7a4 := goodIn_r _ [47, 48, 49, 50, 46, 51, 52, 53, 54, 55, 56, 57, 58, 59, 60, 61, 62, 63, 64, 65, 66, 67, 68, 69, 70, 71, 72, 73, 74, 75, 76, 77, 78, 79, 80, 81, 82, 83, 84, 85, 86, 87, 88, 89, 90, 91, 92, 93, 94, 95, 96, 97, 98, 99, 100, 101, 102, 103, 104, 105, 36, 106, 107, 108, 109, 110, 111, 112, 113, 114, 115, 116, 117, 118, 119, 120, 121, 122, 123, 124, 125, 126, 127, 128, 129, 130, 169, 170] (by decide +kernel) (by decide +kernel)
set_option maxRecDepth 20000 in
theorem gX14_fault_J0_indexOf_0f7a4 : GoodIn wsX14_fault (wsV RX14 329 RJ0 yJ0_indexOf_0f7a4 wsJ0_indexOf_0f7a4) := goodIn_app (goodIn_of _ (by decide +kernel)) ggX14_fault_J0_indexOf_0f7a4
set_option maxRecDepth 20000 in
theorem ggX14_fault_X14_in : GoodIn wsX14_fault wsX14_in := goodIn_r _ [21] (by decide +kernel) (by decide +kernel)
set_option maxRecDepth 20000 in
theorem gX14_fault_X14_in : GoodIn wsX14_fault (va_wsS RX14 68 yX14_in wsX14_in) := goodIn_app (goodIn_of _ (by decide +kernel)) ggX14_fault_X14_in
set_option maxRecDepth 20000 in
theorem ggX14_fault_Jx4a65c_get_915e3 : GoodIn wsX14_fault wsJx4a65c_get_915e3 := goodIn_r _ [29, 18, 30, 31, 32, 33, 34, 35, 36, 37, 38, 39, 40, 16, 41, 42, 166, 167, 168] (by decide +kernel) (by decide +kernel)
set_option maxRecDepth 20000 in
theorem gX14_fault_Jx4a65c_get_915e3 : GoodIn wsX14_fault (wsV RX14 76 RJx4a65c yJx4a65c_get_915e3 wsJx4a65c_get_915e3) := goodIn_app (goodIn_of _ (by decide +kernel)) ggX14_fault_Jx4a65c_get_915e3
theorem dX14_fault_0 : decode cX14_fault 0 = .ok (.aload_n 0, 1) := by decide +kernel
theorem dX14_fault_1 : decode cX14_fault 1 = .ok (.iload_n 1, 1) := by decide +kernel
theorem dX14_fault_2 : decode cX14_fault 2 = .ok (.invokevirtual 149, 3) := by decide +kernel
theorem dX14_fault_5 : decode cX14_fault 5 = .ok (.ifCond .eq 20, 3) := by decide +kernel
theorem dX14_fault_8 : decode cX14_fault 8 = .ok (.iload_n 2, 1) := by decide +kernel
theorem dX14_fault_9 : decode cX14_fault 9 = .ok (.ifCond .eq 12, 3) := by decide +kernel
theorem dX14_fault_12 : decode cX14_fault 12 = .ok (.aload_n 0, 1) := by decide +kernel
theorem dX14_fault_13 : decode cX14_fault 13 = .ok (.iload_n 1, 1) := by decide +kernel
theorem dX14_fault_14 : decode cX14_fault 14 = .ok (.iload_n 2, 1) := by decide +kernel
theorem dX14_fault_15 : decode cX14_fault 15 = .ok (.invokevirtual 256, 3) := by decide +kernel
theorem dX14_fault_18 : decode cX14_fault 18 = .ok (.ifCond .eq 7, 3) := by decide +kernel
theorem dX14_fault_21 : decode cX14_fault 21 = .ok (.iconst 1, 1) := by decide +kernel
theorem dX14_fault_22 : decode cX14_fault 22 = .ok (.goto 4, 3) := by decide +kernel
theorem dX14_fault_25 : decode cX14_fault 25 = .ok (.iconst 0, 1) := by decide +kernel
theorem dX14_fault_26 : decode cX14_fault 26 = .ok (.istore 5, 2) := by decide +kernel
theorem dX14_fault_28 : decode cX14_fault 28 = .ok (.aload_n 0, 1) := by decide +kernel
theorem dX14_fault_29 : decode cX14_fault 29 = .ok (.iload 5, 2) := by decide +kernel
theorem dX14_fault_31 : decode cX14_fault 31 = .ok (.ifCond .ne 7, 3) := by decide +kernel
theorem dX14_fault_34 : decode cX14_fault 34 = .ok (.iconst 1, 1) := by decide +kernel
theorem dX14_fault_35 : decode cX14_fault 35 = .ok (.goto 29, 3) := by decide +kernel
theorem dX14_fault_38 : decode cX14_fault 38 = .ok (.ldc_w 327, 3) := by decide +kernel
theorem dX14_fault_41 : decode cX14_fault 41 = .ok (.iload_n 3, 1) := by decide +kernel
theorem dX14_fault_42 : decode cX14_fault 42 = .ok (.invokevirtual 329, 3) := by decide +kernel
theorem dX14_fault_45 : decode cX14_fault 45 = .ok (.ifCond .lt 14, 3) := by decide +kernel
theorem dX14_fault_48 : decode cX14_fault 48 = .ok (.iload 4, 2) := by decide +kernel
theorem dX14_fault_50 : decode cX14_fault 50 = .ok (.iconst 1, 1) := by decide +kernel
theorem dX14_fault_51 : decode cX14_fault 51 = .ok (.bipush 9, 2) := by decide +kernel
theorem dX14_fault_53 : decode cX14_fault 53 = .ok (.invokestatic 68, 3) := by decide +kernel
theorem dX14_fault_56 : decode cX14_fault 56 = .ok (.ifCond .ne 7, 3) := by decide +kernel
theorem dX14_fault_59 : decode cX14_fault 59 = .ok (.iconst 2, 1) := by decide +kernel
theorem dX14_fault_60 : decode cX14_fault 60 = .ok (.goto 4, 3) := by decide +kernel
theorem dX14_fault_63 : decode cX14_fault 63 = .ok (.iconst 0, 1) := by decide +kernel
theorem dX14_fault_64 : decode cX14_fault 64 = .ok (.putfield 61, 3) := by decide +kernel
theorem dX14_fault_67 : decode cX14_fault 67 = .ok (.aload_n 0, 1) := by decide +kernel
theorem dX14_fault_68 : decode cX14_fault 68 = .ok (.getfield 61, 3) := by decide +kernel
theorem dX14_fault_71 : decode cX14_fault 71 = .ok (.ifCond .le 5, 3) := by decide +kernel
theorem dX14_fault_74 : decode cX14_fault 74 = .ok (.iconst 0, 1) := by decide +kernel
theorem dX14_fault_75 : decode cX14_fault 75 = .ok (.ireturn, 1) := by decide +kernel
theorem dX14_fault_76 : decode cX14_fault 76 = .ok (.aload_n 0, 1) := by decide +kernel
theorem dX14_fault_77 : decode cX14_fault 77 = .ok (.getfield 10, 3) := by decide +kernel
theorem dX14_fault_80 : decode cX14_fault 80 = .ok (.iload_n 1, 1) := by decide +kernel
theorem dX14_fault_81 : decode cX14_fault 81 = .ok (.invokevirtual 76, 3) := by decide +kernel
theorem dX14_fault_84 : decode cX14_fault 84 = .ok (.checkcast 48, 3) := by decide +kernel
theorem dX14_fault_87 : decode cX14_fault 87 = .ok (.astore 6, 2) := by decide +kernel
theorem dX14_fault_89 : decode cX14_fault 89 = .ok (.aload 6, 2) := by decide +kernel
theorem dX14_fault_91 : decode cX14_fault 91 = .ok (.getfield 166, 3) := by decide +kernel
theorem dX14_fault_94 : decode cX14_fault 94 = .ok (.iload_n 2, 1) := by decide +kernel
theorem dX14_fault_95 : decode cX14_fault 95 = .ok (.iaload, 1) := by decide +kernel
theorem dX14_fault_96 : decode cX14_fault 96 = .ok (.istore 7, 2) := by decide +kernel
theorem dX14_fault_98 : decode cX14_fault 98 = .ok (.aload 6, 2) := by decide +kernel
theorem dX14_fault_100 : decode cX14_fault 100 = .ok (.getfield 334, 3) := by decide +kernel
theorem dX14_fault_103 : decode cX14_fault 103 = .ok (.iload_n 2, 1) := by decide +kernel
theorem dX14_fault_104 : decode cX14_fault 104 = .ok (.iload_n 3, 1) := by decide +kernel
theorem dX14_fault_105 : decode cX14_fault 105 = .ok (.castore, 1) := by decide +kernel
theorem dX14_fault_106 : decode cX14_fault 106 = .ok (.aload 6, 2) := by decide +kernel
theorem dX14_fault_108 : decode cX14_fault 108 = .ok (.getfield 166, 3) := by decide +kernel
theorem dX14_fault_111 : decode cX14_fault 111 = .ok (.iload_n 2, 1) := by decide +kernel
theorem dX14_fault_112 : decode cX14_fault 112 = .ok (.iload 4, 2) := by decide +kernel
theorem dX14_fault_114 : decode cX14_fault 114 = .ok (.iastore, 1) := by decide +kernel
theorem dX14_fault_115 : decode cX14_fault 115 = .ok (.iload 7, 2) := by decide +kernel
theorem dX14_fault_117 : decode cX14_fault 117 = .ok (.ireturn, 1) := by decide +kernel
set_option maxRecDepth 20000 in
theorem ggX14_packet_Jx4a65c_get_915e3 : GoodIn wsX14_packet wsJx4a65c_get_915e3 := goodIn_r _ [10, 11, 12, 13, 14, 15, 16, 17, 18, 19, 20, 21, 22, 9, 23, 24, 56, 57, 58] (by decide +kernel) (by decide +kernel)
set_option maxRecDepth 20000 in
theorem gX14_packet_Jx4a65c_get_915e3 : GoodIn wsX14_packet (wsV RX14 76 RJx4a65c yJx4a65c_get_915e3 wsJx4a65c_get_915e3) := goodIn_app (goodIn_of _ (by decide +kernel)) ggX14_packet_Jx4a65c_get_915e3
set_option maxRecDepth 20000 in
theorem ggX14_packet_X14_endOf : GoodIn wsX14_packet wsX14_endOf := goodIn_r _ [29, 30, 31, 6, 7, 8, 9, 10, 11, 12, 13, 14, 15, 16, 17, 18, 19, 20, 21, 22, 23, 24, 59, 60, 61, 62, 63, 64, 65, 66, 67, 68, 69, 70, 71, 72, 73, 74, 75, 76, 77, 36, 37, 38, 39, 40, 41, 42, 43, 44, 45, 78, 79, 80, 81, 82, 83, 84, 85, 86, 87, 88, 89, 90, 91, 92, 93, 56, 57, 58] (by decide +kernel) (by decide +kernel)
set_option maxRecDepth 20000 in
theorem gX14_packet_X14_endOf : GoodIn wsX14_packet (wsV RX14 296 RX14 yX14_endOf wsX14_endOf) := goodIn_app (goodIn_of _ (by decide +kernel)) ggX14_packet_X14_endOf
set_option maxRecDepth 20000 in
theorem ggX14_packet_Jx4a65c_size_8abf5 : GoodIn wsX14_packet wsJx4a65c_size_8abf5 := goodIn_r _ [35, 11, 56, 57, 58] (by decide +kernel) (by decide +kernel)
set_option maxRecDepth 20000 in
theorem gX14_packet_Jx4a65c_size_8abf5 : GoodIn wsX14_packet (wsV RX14 64 RJx4a65c yJx4a65c_size_8abf5 wsJx4a65c_size_8abf5) := goodIn_app (goodIn_of _ (by decide +kernel)) ggX14_packet_Jx4a65c_size_8abf5
theorem dX14_packet_0 : decode cX14_packet 0 = .ok (.aload_n 1, 1) := by decide +kernel
theorem dX14_packet_1 : decode cX14_packet 1 = .ok (.getfield 199, 3) := by decide +kernel
theorem dX14_packet_4 : decode cX14_packet 4 = .ok (.iconst 0, 1) := by decide +kernel
theorem dX14_packet_5 : decode cX14_packet 5 = .ok (.invokevirtual 76, 3) := by decide +kernel
theorem dX14_packet_8 : decode cX14_packet 8 = .ok (.checkcast 275, 3) := by decide +kernel
theorem dX14_packet_11 : decode cX14_packet 11 = .ok (.astore_n 2, 1) := by decide +kernel
theorem dX14_packet_12 : decode cX14_packet 12 = .ok (.aload_n 0, 1) := by decide +kernel
theorem dX14_packet_13 : decode cX14_packet 13 = .ok (.aload_n 1, 1) := by decide +kernel
theorem dX14_packet_14 : decode cX14_packet 14 = .ok (.invokevirtual 296, 3) := by decide +kernel
theorem dX14_packet_17 : decode cX14_packet 17 = .ok (.astore_n 3, 1) := by decide +kernel
theorem dX14_packet_18 : decode cX14_packet 18 = .ok (.aload_n 2, 1) := by decide +kernel
theorem dX14_packet_19 : decode cX14_packet 19 = .ok (.getfield 338, 3) := by decide +kernel
theorem dX14_packet_22 : decode cX14_packet 22 = .ok (.aload_n 2, 1) := by decide +kernel
theorem dX14_packet_23 : decode cX14_packet 23 = .ok (.getfield 284, 3) := by decide +kernel
theorem dX14_packet_26 : decode cX14_packet 26 = .ok (.isub, 1) := by decide +kernel
theorem dX14_packet_27 : decode cX14_packet 27 = .ok (.aload_n 3, 1) := by decide +kernel
theorem dX14_packet_28 : decode cX14_packet 28 = .ok (.getfield 238, 3) := by decide +kernel
theorem dX14_packet_31 : decode cX14_packet 31 = .ok (.invokestatic 341, 3) := by decide +kernel
theorem dX14_packet_34 : decode cX14_packet 34 = .ok (.istore 4, 2) := by decide +kernel
theorem dX14_packet_36 : decode cX14_packet 36 = .ok (.aload_n 3, 1) := by decide +kernel
theorem dX14_packet_37 : decode cX14_packet 37 = .ok (.getfield 300, 3) := by decide +kernel
theorem dX14_packet_40 : decode cX14_packet 40 = .ok (.ifCond .ne 6, 3) := by decide +kernel
theorem dX14_packet_43 : decode cX14_packet 43 = .ok (.iload 4, 2) := by decide +kernel
theorem dX14_packet_45 : decode cX14_packet 45 = .ok (.ireturn, 1) := by decide +kernel
theorem dX14_packet_46 : decode cX14_packet 46 = .ok (.aload_n 3, 1) := by decide +kernel
theorem dX14_packet_47 : decode cX14_packet 47 = .ok (.getfield 269, 3) := by decide +kernel
theorem dX14_packet_50 : decode cX14_packet 50 = .ok (.iconst (-1), 1) := by decide +kernel
theorem dX14_packet_51 : decode cX14_packet 51 = .ok (.if_icmp .eq 10, 3) := by decide +kernel
theorem dX14_packet_54 : decode cX14_packet 54 = .ok (.aload_n 3, 1) := by decide +kernel
theorem dX14_packet_55 : decode cX14_packet 55 = .ok (.getfield 269, 3) := by decide +kernel
theorem dX14_packet_58 : decode cX14_packet 58 = .ok (.goto 15, 3) := by decide +kernel
theorem dX14_packet_61 : decode cX14_packet 61 = .ok (.iload 4, 2) := by decide +kernel
theorem dX14_packet_63 : decode cX14_packet 63 = .ok (.aload_n 3, 1) := by decide +kernel
theorem dX14_packet_64 : decode cX14_packet 64 = .ok (.getfield 320, 3) := by decide +kernel
theorem dX14_packet_67 : decode cX14_packet 67 = .ok (.invokevirtual 64, 3) := by decide +kernel
theorem dX14_packet_70 : decode cX14_packet 70 = .ok (.invokestatic 341, 3) := by decide +kernel
theorem dX14_packet_73 : decode cX14_packet 73 = .ok (.ireturn, 1) := by decide +kernel
set_option maxRecDepth 20000 in
theorem ggX14_shut_Jx4a65c_get_915e3 : GoodIn wsX14_shut wsJx4a65c_get_915e3 := goodIn_r _ [7, 8, 9, 10, 11, 12, 13, 14, 15, 16, 17, 18, 19, 6, 20, 21, 152, 153, 154] (by decide +kernel) (by decide +kernel)
set_option maxRecDepth 20000 in
theorem gX14_shut_Jx4a65c_get_915e3 : GoodIn wsX14_shut (wsV RX14 76 RJx4a65c yJx4a65c_get_915e3 wsJx4a65c_get_915e3) := goodIn_app (goodIn_of _ (by decide +kernel)) ggX14_shut_Jx4a65c_get_915e3
set_option maxRecDepth 20000 in
theorem ggX14_shut_X14_unplugs : GoodIn wsX14_shut wsX14_unplugs := goodIn_ca (goodIn_r _ [26, 1, 27, 28, 2, 29, 30, 31, 6, 32, 8, 33, 34, 35, 25, 36, 3, 4, 5, 7, 9, 10, 11, 12, 13, 14, 15, 16, 17, 18, 19, 20, 21, 37, 38, 39, 40, 41, 42, 43, 44, 45, 46, 47, 48, 49, 50, 51, 52, 53, 54, 55, 56, 57, 58, 59, 60, 61, 62, 63, 64, 65, 66, 67, 68, 69, 70, 71, 72, 73, 74, 75, 76, 77, 78, 79, 80, 81, 82, 83, 84, 85, 86, 87, 88, 89, 90, 91, 92, 93, 94, 95, 96, 97, 98, 99, 100, 101, 102, 103, 104, 105, 106, 107, 108, 109, 110, 111, 112, 113, 114, 115, 116, 117, 118, 119, 120, 121, 122, 123, 124, 125, 126, 127, 128, 129, 130, 131, 132, 133, 134, 135, 155, 156, 157, 158, 159, 160, 161, 162, 163, 164, 136, 137, 138, 139, 140, 141, 142, 143, 144, 145, 146, 147, 148, 149, 150, 151, 152, 153, 154, 165, 166, 167, 168, 169] (by decide +kernel) (by decide +kernel)) (goodIn_sub (fun _ h => List.mem_cons_of_mem _ (List.mem_append_right _ h)) (by decide +kernel))
set_option maxRecDepth 20000 in
theorem gX14_shut_X14_unplugs : GoodIn wsX14_shut (wsV RX14 152 RX14 yX14_unplugs wsX14_unplugs) := goodIn_app (goodIn_of _ (by decide +kernel)) ggX14_shut_X14_unplugs
theorem dX14_shut_0 : decode cX14_shut 0 = .ok (.aload_n 0, 1) := by decide +kernel
theorem dX14_shut_1 : decode cX14_shut 1 = .ok (.getfield 10, 3) := by decide +kernel
theorem dX14_shut_4 : decode cX14_shut 4 = .ok (.iload_n 1, 1) := by decide +kernel
theorem dX14_shut_5 : decode cX14_shut 5 = .ok (.invokevirtual 76, 3) := by decide +kernel
theorem dX14_shut_8 : decode cX14_shut 8 = .ok (.checkcast 48, 3) := by decide +kernel
theorem dX14_shut_11 : decode cX14_shut 11 = .ok (.bipush 115, 2) := by decide +kernel
theorem dX14_shut_13 : decode cX14_shut 13 = .ok (.putfield 53, 3) := by decide +kernel
theorem dX14_shut_16 : decode cX14_shut 16 = .ok (.aload_n 0, 1) := by decide +kernel
theorem dX14_shut_17 : decode cX14_shut 17 = .ok (.getfield 10, 3) := by decide +kernel
theorem dX14_shut_20 : decode cX14_shut 20 = .ok (.iload_n 1, 1) := by decide +kernel
theorem dX14_shut_21 : decode cX14_shut 21 = .ok (.invokevirtual 76, 3) := by decide +kernel
theorem dX14_shut_24 : decode cX14_shut 24 = .ok (.checkcast 48, 3) := by decide +kernel
theorem dX14_shut_27 : decode cX14_shut 27 = .ok (.dup, 1) := by decide +kernel
theorem dX14_shut_28 : decode cX14_shut 28 = .ok (.getfield 180, 3) := by decide +kernel
theorem dX14_shut_31 : decode cX14_shut 31 = .ok (.iconst 1, 1) := by decide +kernel
theorem dX14_shut_32 : decode cX14_shut 32 = .ok (.iadd, 1) := by decide +kernel
theorem dX14_shut_33 : decode cX14_shut 33 = .ok (.putfield 180, 3) := by decide +kernel
theorem dX14_shut_36 : decode cX14_shut 36 = .ok (.aload_n 0, 1) := by decide +kernel
theorem dX14_shut_37 : decode cX14_shut 37 = .ok (.iload_n 1, 1) := by decide +kernel
theorem dX14_shut_38 : decode cX14_shut 38 = .ok (.iconst 0, 1) := by decide +kernel
theorem dX14_shut_39 : decode cX14_shut 39 = .ok (.invokevirtual 152, 3) := by decide +kernel
theorem dX14_shut_42 : decode cX14_shut 42 = .ok (.istore_n 2, 1) := by decide +kernel
theorem dX14_shut_43 : decode cX14_shut 43 = .ok (.return_, 1) := by decide +kernel
set_option maxRecDepth 20000 in
theorem ggX14_does_Jx4a65c_isEmpty_aae02 : GoodIn wsX14_does wsJx4a65c_isEmpty_aae02 := goodIn_r _ [18, 19, 269, 270, 271] (by decide +kernel) (by decide +kernel)
set_option maxRecDepth 20000 in
theorem gX14_does_Jx4a65c_isEmpty_aae02 : GoodIn wsX14_does (wsV RX14 202 RJx4a65c yJx4a65c_isEmpty_aae02 wsJx4a65c_isEmpty_aae02) := goodIn_app (goodIn_of _ (by decide +kernel)) ggX14_does_Jx4a65c_isEmpty_aae02
set_option maxRecDepth 20000 in
theorem ggX14_does_Jx4a65c_get_915e3 : GoodIn wsX14_does wsJx4a65c_get_915e3 := goodIn_r _ [23, 19, 24, 25, 26, 27, 28, 29, 30, 31, 32, 33, 34, 17, 35, 36, 269, 270, 271] (by decide +kernel) (by decide +kernel)
set_option maxRecDepth 20000 in
theorem gX14_does_Jx4a65c_get_915e3 : GoodIn wsX14_does (wsV RX14 76 RJx4a65c yJx4a65c_get_915e3 wsJx4a65c_get_915e3) := goodIn_app (goodIn_of _ (by decide +kernel)) ggX14_does_Jx4a65c_get_915e3
set_option maxRecDepth 20000 in
theorem ggX14_does_X14_endOf : GoodIn wsX14_does wsX14_endOf := goodIn_r _ [41, 3, 4, 20, 21, 22, 17, 23, 19, 24, 25, 26, 27, 28, 29, 30, 31, 32, 33, 34, 35, 36, 214, 215, 216, 217, 218, 219, 220, 221, 222, 223, 224, 225, 226, 227, 228, 229, 230, 231, 232, 233, 234, 235, 236, 237, 238, 239, 240, 241, 242, 248, 249, 250, 251, 252, 253, 254, 255, 256, 257, 258, 259, 260, 261, 262, 263, 269, 270, 271] (by decide +kernel) (by decide +kernel)
set_option maxRecDepth 20000 in
theorem gX14_does_X14_endOf : GoodIn wsX14_does (wsV RX14 296 RX14 yX14_endOf wsX14_endOf) := goodIn_app (goodIn_of _ (by decide +kernel)) ggX14_does_X14_endOf
set_option maxRecDepth 20000 in
theorem ggX14_does_X14_packet : GoodIn wsX14_does wsX14_packet := goodIn_r _ [45, 2, 46, 47, 8, 48, 20, 21, 22, 17, 23, 19, 24, 25, 26, 27, 28, 29, 30, 31, 32, 33, 34, 35, 36, 37, 38, 39, 40, 41, 3, 4, 49, 50, 51, 52, 233, 234, 235, 236, 237, 238, 239, 240, 241, 242, 243, 244, 245, 246, 247, 264, 265, 266, 267, 268, 269, 270, 271, 214, 215, 216, 217, 218, 219, 220, 221, 222, 223, 224, 225, 226, 227, 228, 229, 230, 231, 232, 248, 249, 250, 251, 252, 253, 254, 255, 256, 257, 258, 259, 260, 261, 262, 263] (by decide +kernel) (by decide +kernel)
set_option maxRecDepth 20000 in
theorem gX14_does_X14_packet : GoodIn wsX14_does (wsV RX14 344 RX14 yX14_packet wsX14_packet) := goodIn_app (goodIn_of _ (by decide +kernel)) ggX14_does_X14_packet
set_option maxRecDepth 20000 in
theorem ggX14_does_X14_translatorOf : GoodIn wsX14_does wsX14_translatorOf := goodIn_r _ [56, 3, 4, 20, 21, 22, 17, 23, 19, 24, 25, 26, 27, 28, 29, 30, 31, 32, 33, 34, 35, 36, 57, 58, 59, 40, 60, 214, 215, 216, 217, 218, 219, 220, 221, 222, 223, 224, 225, 226, 227, 228, 229, 230, 231, 232, 248, 249, 250, 251, 252, 253, 254, 255, 256, 257, 258, 259, 260, 261, 262, 263, 269, 270, 271] (by decide +kernel) (by decide +kernel)
set_option maxRecDepth 20000 in
theorem gX14_does_X14_translatorOf : GoodIn wsX14_does (wsV RX14 156 RX14 yX14_translatorOf wsX14_translatorOf) := goodIn_app (goodIn_of _ (by decide +kernel)) ggX14_does_X14_translatorOf
set_option maxRecDepth 20000 in
theorem ggX14_does_X14_hubCost : GoodIn wsX14_does wsX14_hubCost := goodIn_r _ [64, 57, 58, 59, 40, 60, 3, 4, 20, 21, 22, 17, 23, 19, 24, 25, 26, 27, 28, 29, 30, 31, 32, 33, 34, 35, 36, 214, 215, 216, 217, 218, 219, 220, 221, 222, 223, 224, 225, 226, 227, 228, 229, 230, 231, 232, 248, 249, 250, 251, 252, 253, 254, 255, 256, 257, 258, 259, 260, 261, 262, 263, 269, 270, 271] (by decide +kernel) (by decide +kernel)
set_option maxRecDepth 20000 in
theorem gX14_does_X14_hubCost : GoodIn wsX14_does (wsV RX14 241 RX14 yX14_hubCost wsX14_hubCost) := goodIn_app (goodIn_of _ (by decide +kernel)) ggX14_does_X14_hubCost
set_option maxRecDepth 20000 in
theorem ggX14_does_X14_hostCost : GoodIn wsX14_does wsX14_hostCost := goodIn_r _ [67] (by decide +kernel) (by decide +kernel)
set_option maxRecDepth 20000 in
theorem gX14_does_X14_hostCost : GoodIn wsX14_does (va_wsS RX14 245 yX14_hostCost wsX14_hostCost) := goodIn_app (goodIn_of _ (by decide +kernel)) ggX14_does_X14_hostCost
set_option maxRecDepth 20000 in
theorem ggX14_does_X14_sounds : GoodIn wsX14_does wsX14_sounds := goodIn_ca (goodIn_r _ [71, 1, 2, 72, 73, 74, 20, 21, 22, 17, 23, 19, 24, 25, 26, 27, 28, 29, 30, 31, 32, 33, 34, 35, 36, 75, 76, 77, 40, 78, 3, 4, 79, 80, 81, 82, 83, 49, 50, 51, 52, 84, 85, 86, 87, 88, 89, 90, 91, 92, 93, 94, 95, 96, 97, 98, 99, 100, 101, 102, 103, 104, 105, 106, 107, 108, 109, 110, 111, 112, 113, 114, 115, 116, 117, 118, 119, 120, 121, 122, 123, 124, 125, 126, 127, 128, 129, 130, 131, 132, 133, 134, 135, 136, 7, 8, 9, 137, 138, 139, 140, 141, 142, 143, 144, 145, 146, 147, 148, 149, 150, 151, 152, 153, 154, 155, 156, 157, 158, 159, 160, 47, 48, 161, 162, 163, 164, 165, 166, 167, 168, 169, 170, 171, 172, 173, 174, 175, 176, 177, 178, 179, 180, 181, 182, 183, 184, 214, 215, 216, 217, 218, 219, 220, 221, 222, 223, 224, 225, 226, 227, 228, 229, 230, 231, 232, 233, 234, 235, 236, 237, 238, 239, 240, 241, 242, 264, 265, 266, 267, 268, 243, 244, 245, 246, 247, 269, 270, 271, 248, 249, 250, 251, 252, 253, 254, 255, 256, 257, 258, 259, 260, 261, 262, 263, 272] (by decide +kernel) (by decide +kernel)) (goodIn_sub (fun _ h => List.mem_cons_of_mem _ (List.mem_append_right _ h)) (by decide +kernel))
set_option maxRecDepth 20000 in
theorem gX14_does_X14_sounds : GoodIn wsX14_does (wsV RX14 352 RX14 yX14_sounds wsX14_sounds) := goodIn_app (goodIn_of _ (by decide +kernel)) ggX14_does_X14_sounds
set_option maxRecDepth 20000 in
theorem ggX14_does_X14_comes : GoodIn wsX14_does wsX14_comes := goodIn_ca (goodIn_r _ [188, 1, 72, 3, 4, 2, 74, 73, 189, 190, 191, 40, 192, 193, 194, 195, 196, 96, 97, 98, 99, 100, 101, 102, 103, 104, 105, 106, 107, 17, 108, 19, 36, 24, 25, 26, 27, 28, 29, 30, 31, 109, 110, 111, 112, 113, 114, 115, 116, 117, 118, 49, 50, 51, 52, 119, 120, 121, 122, 123, 124, 125, 126, 127, 128, 129, 130, 131, 132, 133, 134, 135, 136, 7, 8, 9, 137, 138, 139, 140, 141, 142, 143, 144, 145, 146, 147, 148, 149, 150, 151, 152, 153, 154, 155, 156, 157, 158, 159, 160, 47, 48, 161, 75, 76, 77, 78, 20, 21, 22, 23, 32, 33, 34, 35, 79, 80, 81, 82, 83, 84, 85, 86, 87, 88, 89, 90, 91, 92, 93, 94, 95, 197, 198, 199, 200, 201, 202, 203, 204, 205, 206, 207, 208, 209, 162, 163, 164, 165, 166, 167, 214, 215, 216, 217, 218, 219, 220, 221, 222, 223, 224, 225, 226, 227, 228, 229, 230, 231, 232, 233, 234, 235, 236, 237, 238, 239, 240, 241, 242, 248, 249, 250, 251, 252, 253, 254, 255, 256, 257, 258, 259, 260, 261, 262, 263, 264, 265, 266, 267, 268, 243, 244, 245, 246, 247, 269, 270, 271, 272] (by decide +kernel) (by decide +kernel)) (goodIn_sub (fun _ h => List.mem_cons_of_mem _ (List.mem_append_right _ h)) (by decide +kernel))
set_option maxRecDepth 20000 in
theorem gX14_does_X14_comes : GoodIn wsX14_does (wsV RX14 356 RX14 yX14_comes wsX14_comes) := goodIn_app (goodIn_of _ (by decide +kernel)) ggX14_does_X14_comes
set_option maxRecDepth 20000 in
theorem ggX14_does_X14_goes : GoodIn wsX14_does wsX14_goes := goodIn_ca (goodIn_r _ [213, 1, 2, 72, 201, 20, 21, 22, 17, 23, 19, 24, 25, 26, 27, 28, 29, 30, 31, 32, 33, 34, 35, 36, 189, 190, 191, 40, 192, 193, 194, 195, 196, 96, 97, 98, 99, 100, 101, 102, 103, 104, 105, 106, 107, 108, 109, 110, 111, 112, 113, 114, 115, 116, 117, 118, 49, 50, 51, 52, 119, 120, 121, 122, 123, 124, 125, 126, 127, 128, 129, 130, 131, 132, 133, 134, 135, 136, 7, 8, 9, 137, 138, 139, 140, 141, 142, 143, 144, 145, 146, 147, 148, 149, 150, 151, 152, 153, 154, 155, 156, 157, 158, 159, 160, 47, 48, 161, 202, 203, 204, 205, 197, 198, 199, 200, 168, 169, 165, 170, 171, 172, 173, 174, 175, 176, 177, 167, 178, 179, 180, 181, 182, 183, 184, 214, 215, 216, 217, 218, 219, 220, 221, 222, 223, 224, 225, 226, 227, 228, 229, 230, 231, 232, 233, 234, 235, 236, 237, 238, 239, 240, 241, 242, 264, 265, 266, 267, 268, 243, 244, 245, 246, 247, 269, 270, 271, 272] (by decide +kernel) (by decide +kernel)) (goodIn_sub (fun _ h => List.mem_cons_of_mem _ (List.mem_append_right _ h)) (by decide +kernel))
set_option maxRecDepth 20000 in
theorem gX14_does_X14_goes : GoodIn wsX14_does (wsV RX14 359 RX14 yX14_goes wsX14_goes) := goodIn_app (goodIn_of _ (by decide +kernel)) ggX14_does_X14_goes
theorem dX14_does_0 : decode cX14_does 0 = .ok (.aload_n 0, 1) := by decide +kernel
theorem dX14_does_1 : decode cX14_does 1 = .ok (.getfield 18, 3) := by decide +kernel
theorem dX14_does_4 : decode cX14_does 4 = .ok (.iload_n 1, 1) := by decide +kernel
theorem dX14_does_5 : decode cX14_does 5 = .ok (.aaload, 1) := by decide +kernel
theorem dX14_does_6 : decode cX14_does 6 = .ok (.astore_n 2, 1) := by decide +kernel
theorem dX14_does_7 : decode cX14_does 7 = .ok (.aload_n 2, 1) := by decide +kernel
theorem dX14_does_8 : decode cX14_does 8 = .ok (.ifnull 41, 3) := by decide +kernel
theorem dX14_does_11 : decode cX14_does 11 = .ok (.aload_n 2, 1) := by decide +kernel
theorem dX14_does_12 : decode cX14_does 12 = .ok (.getfield 313, 3) := by decide +kernel
theorem dX14_does_15 : decode cX14_does 15 = .ok (.ifCond .ne 34, 3) := by decide +kernel
theorem dX14_does_18 : decode cX14_does 18 = .ok (.aload_n 2, 1) := by decide +kernel
theorem dX14_does_19 : decode cX14_does 19 = .ok (.getfield 199, 3) := by decide +kernel
theorem dX14_does_22 : decode cX14_does 22 = .ok (.invokevirtual 202, 3) := by decide +kernel
theorem dX14_does_25 : decode cX14_does 25 = .ok (.ifCond .ne 24, 3) := by decide +kernel
theorem dX14_does_28 : decode cX14_does 28 = .ok (.aload_n 2, 1) := by decide +kernel
theorem dX14_does_29 : decode cX14_does 29 = .ok (.getfield 199, 3) := by decide +kernel
theorem dX14_does_32 : decode cX14_does 32 = .ok (.iconst 0, 1) := by decide +kernel
theorem dX14_does_33 : decode cX14_does 33 = .ok (.invokevirtual 76, 3) := by decide +kernel
theorem dX14_does_36 : decode cX14_does 36 = .ok (.checkcast 275, 3) := by decide +kernel
theorem dX14_does_39 : decode cX14_does 39 = .ok (.getfield 310, 3) := by decide +kernel
theorem dX14_does_42 : decode cX14_does 42 = .ok (.ifCond .eq 7, 3) := by decide +kernel
theorem dX14_does_45 : decode cX14_does 45 = .ok (.iconst 1, 1) := by decide +kernel
theorem dX14_does_46 : decode cX14_does 46 = .ok (.goto 4, 3) := by decide +kernel
theorem dX14_does_49 : decode cX14_does 49 = .ok (.iconst 0, 1) := by decide +kernel
theorem dX14_does_50 : decode cX14_does 50 = .ok (.istore_n 3, 1) := by decide +kernel
theorem dX14_does_51 : decode cX14_does 51 = .ok (.iload_n 3, 1) := by decide +kernel
theorem dX14_does_52 : decode cX14_does 52 = .ok (.ifCond .eq 53, 3) := by decide +kernel
theorem dX14_does_55 : decode cX14_does 55 = .ok (.aload_n 0, 1) := by decide +kernel
theorem dX14_does_56 : decode cX14_does 56 = .ok (.getfield 10, 3) := by decide +kernel
theorem dX14_does_59 : decode cX14_does 59 = .ok (.aload_n 2, 1) := by decide +kernel
theorem dX14_does_60 : decode cX14_does 60 = .ok (.getfield 133, 3) := by decide +kernel
theorem dX14_does_63 : decode cX14_does 63 = .ok (.invokevirtual 76, 3) := by decide +kernel
theorem dX14_does_66 : decode cX14_does 66 = .ok (.checkcast 48, 3) := by decide +kernel
theorem dX14_does_69 : decode cX14_does 69 = .ok (.getfield 53, 3) := by decide +kernel
theorem dX14_does_72 : decode cX14_does 72 = .ok (.bipush 99, 2) := by decide +kernel
theorem dX14_does_74 : decode cX14_does 74 = .ok (.if_icmp .ne 31, 3) := by decide +kernel
theorem dX14_does_77 : decode cX14_does 77 = .ok (.aload_n 0, 1) := by decide +kernel
theorem dX14_does_78 : decode cX14_does 78 = .ok (.getfield 205, 3) := by decide +kernel
theorem dX14_does_81 : decode cX14_does 81 = .ok (.aload_n 0, 1) := by decide +kernel
theorem dX14_does_82 : decode cX14_does 82 = .ok (.getfield 10, 3) := by decide +kernel
theorem dX14_does_85 : decode cX14_does 85 = .ok (.aload_n 2, 1) := by decide +kernel
theorem dX14_does_86 : decode cX14_does 86 = .ok (.getfield 133, 3) := by decide +kernel
theorem dX14_does_89 : decode cX14_does 89 = .ok (.invokevirtual 76, 3) := by decide +kernel
theorem dX14_does_92 : decode cX14_does 92 = .ok (.checkcast 48, 3) := by decide +kernel
theorem dX14_does_95 : decode cX14_does 95 = .ok (.getfield 146, 3) := by decide +kernel
theorem dX14_does_98 : decode cX14_does 98 = .ok (.if_icmp .le 7, 3) := by decide +kernel
theorem dX14_does_101 : decode cX14_does 101 = .ok (.iconst 1, 1) := by decide +kernel
theorem dX14_does_102 : decode cX14_does 102 = .ok (.goto 4, 3) := by decide +kernel
theorem dX14_does_105 : decode cX14_does 105 = .ok (.iconst 0, 1) := by decide +kernel
theorem dX14_does_106 : decode cX14_does 106 = .ok (.istore_n 3, 1) := by decide +kernel
theorem dX14_does_107 : decode cX14_does 107 = .ok (.iload_n 3, 1) := by decide +kernel
theorem dX14_does_108 : decode cX14_does 108 = .ok (.ifCond .ne 5, 3) := by decide +kernel
theorem dX14_does_111 : decode cX14_does 111 = .ok (.iconst 0, 1) := by decide +kernel
theorem dX14_does_112 : decode cX14_does 112 = .ok (.ireturn, 1) := by decide +kernel
theorem dX14_does_113 : decode cX14_does 113 = .ok (.aload_n 0, 1) := by decide +kernel
theorem dX14_does_114 : decode cX14_does 114 = .ok (.aload_n 2, 1) := by decide +kernel
theorem dX14_does_115 : decode cX14_does 115 = .ok (.invokevirtual 296, 3) := by decide +kernel
theorem dX14_does_118 : decode cX14_does 118 = .ok (.astore 4, 2) := by decide +kernel
theorem dX14_does_120 : decode cX14_does 120 = .ok (.aload_n 0, 1) := by decide +kernel
theorem dX14_does_121 : decode cX14_does 121 = .ok (.aload_n 2, 1) := by decide +kernel
theorem dX14_does_122 : decode cX14_does 122 = .ok (.invokevirtual 344, 3) := by decide +kernel
theorem dX14_does_125 : decode cX14_does 125 = .ok (.istore 5, 2) := by decide +kernel
theorem dX14_does_127 : decode cX14_does 127 = .ok (.aload 4, 2) := by decide +kernel
theorem dX14_does_129 : decode cX14_does 129 = .ok (.getfield 300, 3) := by decide +kernel
theorem dX14_does_132 : decode cX14_does 132 = .ok (.ifCond .eq 12, 3) := by decide +kernel
theorem dX14_does_135 : decode cX14_does 135 = .ok (.iconst 1, 1) := by decide +kernel
theorem dX14_does_136 : decode cX14_does 136 = .ok (.iload 5, 2) := by decide +kernel
theorem dX14_does_138 : decode cX14_does 138 = .ok (.invokestatic 251, 3) := by decide +kernel
theorem dX14_does_141 : decode cX14_does 141 = .ok (.goto 5, 3) := by decide +kernel
theorem dX14_does_144 : decode cX14_does 144 = .ok (.iload 5, 2) := by decide +kernel
theorem dX14_does_146 : decode cX14_does 146 = .ok (.istore 6, 2) := by decide +kernel
theorem dX14_does_148 : decode cX14_does 148 = .ok (.aload_n 0, 1) := by decide +kernel
theorem dX14_does_149 : decode cX14_does 149 = .ok (.aload_n 2, 1) := by decide +kernel
theorem dX14_does_150 : decode cX14_does 150 = .ok (.getfield 133, 3) := by decide +kernel
theorem dX14_does_153 : decode cX14_does 153 = .ok (.invokevirtual 156, 3) := by decide +kernel
theorem dX14_does_156 : decode cX14_does 156 = .ok (.istore 7, 2) := by decide +kernel
theorem dX14_does_158 : decode cX14_does 158 = .ok (.aload_n 0, 1) := by decide +kernel
theorem dX14_does_159 : decode cX14_does 159 = .ok (.aload_n 2, 1) := by decide +kernel
theorem dX14_does_160 : decode cX14_does 160 = .ok (.getfield 133, 3) := by decide +kernel
theorem dX14_does_163 : decode cX14_does 163 = .ok (.iload 6, 2) := by decide +kernel
theorem dX14_does_165 : decode cX14_does 165 = .ok (.invokevirtual 241, 3) := by decide +kernel
theorem dX14_does_168 : decode cX14_does 168 = .ok (.istore 8, 2) := by decide +kernel
theorem dX14_does_170 : decode cX14_does 170 = .ok (.iload 6, 2) := by decide +kernel
theorem dX14_does_172 : decode cX14_does 172 = .ok (.invokestatic 245, 3) := by decide +kernel
theorem dX14_does_175 : decode cX14_does 175 = .ok (.aload_n 0, 1) := by decide +kernel
theorem dX14_does_176 : decode cX14_does 176 = .ok (.getfield 42, 3) := by decide +kernel
theorem dX14_does_179 : decode cX14_does 179 = .ok (.if_icmp .gt 20, 3) := by decide +kernel
theorem dX14_does_182 : decode cX14_does 182 = .ok (.iload 8, 2) := by decide +kernel
theorem dX14_does_184 : decode cX14_does 184 = .ok (.ifCond .le 17, 3) := by decide +kernel
theorem dX14_does_187 : decode cX14_does 187 = .ok (.iload 8, 2) := by decide +kernel
theorem dX14_does_189 : decode cX14_does 189 = .ok (.aload_n 0, 1) := by decide +kernel
theorem dX14_does_190 : decode cX14_does 190 = .ok (.getfield 45, 3) := by decide +kernel
theorem dX14_does_193 : decode cX14_does 193 = .ok (.iload 7, 2) := by decide +kernel
theorem dX14_does_195 : decode cX14_does 195 = .ok (.iaload, 1) := by decide +kernel
theorem dX14_does_196 : decode cX14_does 196 = .ok (.if_icmp .le 5, 3) := by decide +kernel
theorem dX14_does_199 : decode cX14_does 199 = .ok (.iconst 0, 1) := by decide +kernel
theorem dX14_does_200 : decode cX14_does 200 = .ok (.ireturn, 1) := by decide +kernel
theorem dX14_does_201 : decode cX14_does 201 = .ok (.aload_n 0, 1) := by decide +kernel
theorem dX14_does_202 : decode cX14_does 202 = .ok (.dup, 1) := by decide +kernel
theorem dX14_does_203 : decode cX14_does 203 = .ok (.getfield 42, 3) := by decide +kernel
theorem dX14_does_206 : decode cX14_does 206 = .ok (.iload 6, 2) := by decide +kernel
theorem dX14_does_208 : decode cX14_does 208 = .ok (.invokestatic 245, 3) := by decide +kernel
theorem dX14_does_211 : decode cX14_does 211 = .ok (.isub, 1) := by decide +kernel
theorem dX14_does_212 : decode cX14_does 212 = .ok (.putfield 42, 3) := by decide +kernel
theorem dX14_does_215 : decode cX14_does 215 = .ok (.aload_n 0, 1) := by decide +kernel
theorem dX14_does_216 : decode cX14_does 216 = .ok (.dup, 1) := by decide +kernel
theorem dX14_does_217 : decode cX14_does 217 = .ok (.getfield 347, 3) := by decide +kernel
theorem dX14_does_220 : decode cX14_does 220 = .ok (.iload 6, 2) := by decide +kernel
theorem dX14_does_222 : decode cX14_does 222 = .ok (.invokestatic 245, 3) := by decide +kernel
theorem dX14_does_225 : decode cX14_does 225 = .ok (.i2l, 1) := by decide +kernel
theorem dX14_does_226 : decode cX14_does 226 = .ok (.ladd, 1) := by decide +kernel
theorem dX14_does_227 : decode cX14_does 227 = .ok (.putfield 347, 3) := by decide +kernel
theorem dX14_does_230 : decode cX14_does 230 = .ok (.aload_n 0, 1) := by decide +kernel
theorem dX14_does_231 : decode cX14_does 231 = .ok (.getfield 45, 3) := by decide +kernel
theorem dX14_does_234 : decode cX14_does 234 = .ok (.iload 7, 2) := by decide +kernel
theorem dX14_does_236 : decode cX14_does 236 = .ok (.dup2, 1) := by decide +kernel
theorem dX14_does_237 : decode cX14_does 237 = .ok (.iaload, 1) := by decide +kernel
theorem dX14_does_238 : decode cX14_does 238 = .ok (.iload 8, 2) := by decide +kernel
theorem dX14_does_240 : decode cX14_does 240 = .ok (.isub, 1) := by decide +kernel
theorem dX14_does_241 : decode cX14_does 241 = .ok (.iastore, 1) := by decide +kernel
theorem dX14_does_242 : decode cX14_does 242 = .ok (.aload_n 0, 1) := by decide +kernel
theorem dX14_does_243 : decode cX14_does 243 = .ok (.dup, 1) := by decide +kernel
theorem dX14_does_244 : decode cX14_does 244 = .ok (.getfield 163, 3) := by decide +kernel
theorem dX14_does_247 : decode cX14_does 247 = .ok (.iconst 1, 1) := by decide +kernel
theorem dX14_does_248 : decode cX14_does 248 = .ok (.iadd, 1) := by decide +kernel
theorem dX14_does_249 : decode cX14_does 249 = .ok (.putfield 163, 3) := by decide +kernel
theorem dX14_does_252 : decode cX14_does 252 = .ok (.aload_n 0, 1) := by decide +kernel
theorem dX14_does_253 : decode cX14_does 253 = .ok (.getfield 10, 3) := by decide +kernel
theorem dX14_does_256 : decode cX14_does 256 = .ok (.aload_n 2, 1) := by decide +kernel
theorem dX14_does_257 : decode cX14_does 257 = .ok (.getfield 133, 3) := by decide +kernel
theorem dX14_does_260 : decode cX14_does 260 = .ok (.invokevirtual 76, 3) := by decide +kernel
theorem dX14_does_263 : decode cX14_does 263 = .ok (.checkcast 48, 3) := by decide +kernel
theorem dX14_does_266 : decode cX14_does 266 = .ok (.astore 9, 2) := by decide +kernel
theorem dX14_does_268 : decode cX14_does 268 = .ok (.aload 9, 2) := by decide +kernel
theorem dX14_does_270 : decode cX14_does 270 = .ok (.getfield 166, 3) := by decide +kernel
theorem dX14_does_273 : decode cX14_does 273 = .ok (.aload_n 2, 1) := by decide +kernel
theorem dX14_does_274 : decode cX14_does 274 = .ok (.getfield 235, 3) := by decide +kernel
theorem dX14_does_277 : decode cX14_does 277 = .ok (.iaload, 1) := by decide +kernel
theorem dX14_does_278 : decode cX14_does 278 = .ok (.ifCond .le 16, 3) := by decide +kernel
theorem dX14_does_281 : decode cX14_does 281 = .ok (.aload 9, 2) := by decide +kernel
theorem dX14_does_283 : decode cX14_does 283 = .ok (.getfield 334, 3) := by decide +kernel
theorem dX14_does_286 : decode cX14_does 286 = .ok (.aload_n 2, 1) := by decide +kernel
theorem dX14_does_287 : decode cX14_does 287 = .ok (.getfield 235, 3) := by decide +kernel
theorem dX14_does_290 : decode cX14_does 290 = .ok (.caload, 1) := by decide +kernel
theorem dX14_does_291 : decode cX14_does 291 = .ok (.goto 5, 3) := by decide +kernel
theorem dX14_does_294 : decode cX14_does 294 = .ok (.bipush 32, 2) := by decide +kernel
theorem dX14_does_296 : decode cX14_does 296 = .ok (.istore 10, 2) := by decide +kernel
theorem dX14_does_298 : decode cX14_does 298 = .ok (.aload 9, 2) := by decide +kernel
theorem dX14_does_300 : decode cX14_does 300 = .ok (.getfield 166, 3) := by decide +kernel
theorem dX14_does_303 : decode cX14_does 303 = .ok (.aload_n 2, 1) := by decide +kernel
theorem dX14_does_304 : decode cX14_does 304 = .ok (.getfield 235, 3) := by decide +kernel
theorem dX14_does_307 : decode cX14_does 307 = .ok (.dup2, 1) := by decide +kernel
theorem dX14_does_308 : decode cX14_does 308 = .ok (.iaload, 1) := by decide +kernel
theorem dX14_does_309 : decode cX14_does 309 = .ok (.iload 10, 2) := by decide +kernel
theorem dX14_does_311 : decode cX14_does 311 = .ok (.bipush 32, 2) := by decide +kernel
theorem dX14_does_313 : decode cX14_does 313 = .ok (.if_icmp .ne 7, 3) := by decide +kernel
theorem dX14_does_316 : decode cX14_does 316 = .ok (.iconst 0, 1) := by decide +kernel
theorem dX14_does_317 : decode cX14_does 317 = .ok (.goto 4, 3) := by decide +kernel
theorem dX14_does_320 : decode cX14_does 320 = .ok (.iconst 1, 1) := by decide +kernel
theorem dX14_does_321 : decode cX14_does 321 = .ok (.isub, 1) := by decide +kernel
theorem dX14_does_322 : decode cX14_does 322 = .ok (.iastore, 1) := by decide +kernel
theorem dX14_does_323 : decode cX14_does 323 = .ok (.aload_n 2, 1) := by decide +kernel
theorem dX14_does_324 : decode cX14_does 324 = .ok (.getfield 350, 3) := by decide +kernel
theorem dX14_does_327 : decode cX14_does 327 = .ok (.bipush 115, 2) := by decide +kernel
theorem dX14_does_329 : decode cX14_does 329 = .ok (.if_icmp .ne 17, 3) := by decide +kernel
theorem dX14_does_332 : decode cX14_does 332 = .ok (.aload_n 0, 1) := by decide +kernel
theorem dX14_does_333 : decode cX14_does 333 = .ok (.iload_n 1, 1) := by decide +kernel
theorem dX14_does_334 : decode cX14_does 334 = .ok (.aload 4, 2) := by decide +kernel
theorem dX14_does_336 : decode cX14_does 336 = .ok (.iload 5, 2) := by decide +kernel
theorem dX14_does_338 : decode cX14_does 338 = .ok (.iload 10, 2) := by decide +kernel
theorem dX14_does_340 : decode cX14_does 340 = .ok (.invokevirtual 352, 3) := by decide +kernel
theorem dX14_does_343 : decode cX14_does 343 = .ok (.goto 36, 3) := by decide +kernel
theorem dX14_does_346 : decode cX14_does 346 = .ok (.aload 4, 2) := by decide +kernel
theorem dX14_does_348 : decode cX14_does 348 = .ok (.getfield 300, 3) := by decide +kernel
theorem dX14_does_351 : decode cX14_does 351 = .ok (.ifCond .eq 17, 3) := by decide +kernel
theorem dX14_does_354 : decode cX14_does 354 = .ok (.aload_n 0, 1) := by decide +kernel
theorem dX14_does_355 : decode cX14_does 355 = .ok (.iload_n 1, 1) := by decide +kernel
theorem dX14_does_356 : decode cX14_does 356 = .ok (.aload 4, 2) := by decide +kernel
theorem dX14_does_358 : decode cX14_does 358 = .ok (.iload 5, 2) := by decide +kernel
theorem dX14_does_360 : decode cX14_does 360 = .ok (.iload 10, 2) := by decide +kernel
theorem dX14_does_362 : decode cX14_does 362 = .ok (.invokevirtual 356, 3) := by decide +kernel
theorem dX14_does_365 : decode cX14_does 365 = .ok (.goto 14, 3) := by decide +kernel
theorem dX14_does_368 : decode cX14_does 368 = .ok (.aload_n 0, 1) := by decide +kernel
theorem dX14_does_369 : decode cX14_does 369 = .ok (.iload_n 1, 1) := by decide +kernel
theorem dX14_does_370 : decode cX14_does 370 = .ok (.aload 4, 2) := by decide +kernel
theorem dX14_does_372 : decode cX14_does 372 = .ok (.iload 5, 2) := by decide +kernel
theorem dX14_does_374 : decode cX14_does 374 = .ok (.iload 10, 2) := by decide +kernel
theorem dX14_does_376 : decode cX14_does 376 = .ok (.invokevirtual 359, 3) := by decide +kernel
theorem dX14_does_379 : decode cX14_does 379 = .ok (.ireturn, 1) := by decide +kernel
set_option maxRecDepth 20000 in
theorem ggX14_sounds_Jx4a65c_get_915e3 : GoodIn wsX14_sounds wsJx4a65c_get_915e3 := goodIn_r _ [10, 11, 12, 13, 14, 15, 16, 17, 18, 19, 20, 21, 22, 9, 23, 24, 186, 187, 188] (by decide +kernel) (by decide +kernel)
set_option maxRecDepth 20000 in
theorem gX14_sounds_Jx4a65c_get_915e3 : GoodIn wsX14_sounds (wsV RX14 76 RJx4a65c yJx4a65c_get_915e3 wsJx4a65c_get_915e3) := goodIn_app (goodIn_of _ (by decide +kernel)) ggX14_sounds_Jx4a65c_get_915e3
set_option maxRecDepth 20000 in
theorem ggX14_sounds_X14_shut : GoodIn wsX14_sounds wsX14_shut := goodIn_ca (goodIn_r _ [29, 30, 31, 6, 7, 8, 9, 10, 11, 12, 13, 14, 15, 16, 17, 18, 19, 20, 21, 22, 23, 24, 32, 33, 34, 28, 35, 36, 1, 37, 38, 39, 40, 41, 42, 43, 44, 45, 46, 47, 48, 49, 50, 51, 52, 53, 54, 55, 56, 2, 57, 58, 59, 60, 61, 62, 63, 64, 65, 66, 67, 68, 69, 70, 71, 72, 73, 74, 75, 76, 77, 78, 79, 80, 81, 82, 83, 84, 85, 86, 87, 88, 89, 90, 91, 92, 93, 94, 95, 96, 97, 98, 99, 100, 101, 102, 103, 104, 105, 106, 107, 108, 109, 110, 111, 112, 113, 114, 115, 116, 117, 118, 119, 120, 121, 122, 123, 147, 148, 149, 150, 151, 152, 153, 154, 155, 156, 157, 158, 159, 160, 161, 162, 163, 164, 165, 189, 190, 191, 192, 193, 194, 195, 196, 197, 198, 199, 200, 201, 202, 203, 204, 186, 187, 188, 166, 167, 168, 169, 170, 171, 172, 173, 174, 175, 181, 182, 183, 184, 185] (by decide +kernel) (by decide +kernel)) (goodIn_sub (fun _ h => List.mem_cons_of_mem _ (List.mem_append_right _ h)) (by decide +kernel))
set_option maxRecDepth 20000 in
theorem gX14_sounds_X14_shut : GoodIn wsX14_sounds (wsV RX14 362 RX14 yX14_shut wsX14_shut) := goodIn_app (goodIn_of _ (by decide +kernel)) ggX14_sounds_X14_shut
set_option maxRecDepth 20000 in
theorem ggX14_sounds_Jx4a65c_remove_915e3 : GoodIn wsX14_sounds wsJx4a65c_remove_915e3 := goodIn_r _ [65, 11, 24, 12, 13, 14, 15, 16, 17, 18, 19, 66, 67, 68, 9, 69, 70, 71, 72, 73, 74, 75, 186, 187, 188] (by decide +kernel) (by decide +kernel)
set_option maxRecDepth 20000 in
theorem gX14_sounds_Jx4a65c_remove_915e3 : GoodIn wsX14_sounds (wsV RX14 272 RJx4a65c yJx4a65c_remove_915e3 wsJx4a65c_remove_915e3) := goodIn_app (goodIn_of _ (by decide +kernel)) ggX14_sounds_Jx4a65c_remove_915e3
set_option maxRecDepth 20000 in
theorem ggX14_sounds_J6_intValue_8abf5 : GoodIn wsX14_sounds wsJ6_intValue_8abf5 := goodIn_r _ [128, 129, 205] (by decide +kernel) (by decide +kernel)
set_option maxRecDepth 20000 in
theorem gX14_sounds_J6_intValue_8abf5 : GoodIn wsX14_sounds (wsV RX14 222 RJ6 yJ6_intValue_8abf5 wsJ6_intValue_8abf5) := goodIn_app (goodIn_of _ (by decide +kernel)) ggX14_sounds_J6_intValue_8abf5
set_option maxRecDepth 20000 in
theorem ggX14_sounds_J6_valueOf_2dffe : GoodIn wsX14_sounds wsJ6_valueOf_2dffe := goodIn_r _ [132, 133, 134, 135, 136, 127, 137, 138, 139, 129, 140, 141, 142, 143, 144, 145, 146, 205] (by decide +kernel) (by decide +kernel)
set_option maxRecDepth 20000 in
theorem gX14_sounds_J6_valueOf_2dffe : GoodIn wsX14_sounds (va_wsS RX14 212 yJ6_valueOf_2dffe wsJ6_valueOf_2dffe) := goodIn_app (goodIn_of _ (by decide +kernel)) ggX14_sounds_J6_valueOf_2dffe
set_option maxRecDepth 20000 in
theorem ggX14_sounds_Jx4a65c_add_9ea2d : GoodIn wsX14_sounds wsJx4a65c_add_9ea2d := goodIn_r _ [79, 70, 71, 24, 11, 80, 81, 82, 9, 83, 84, 85, 86, 87, 88, 89, 90, 91, 92, 93, 94, 95, 96, 97, 98, 99, 100, 101, 102, 103, 104, 105, 106, 107, 108, 109, 110, 111, 112, 113, 114, 115, 116, 117, 118, 119, 120, 121, 122, 123, 73, 74, 75, 186, 187, 188] (by decide +kernel) (by decide +kernel)
set_option maxRecDepth 20000 in
theorem gX14_sounds_Jx4a65c_add_9ea2d : GoodIn wsX14_sounds (wsV RX14 57 RJx4a65c yJx4a65c_add_9ea2d wsJx4a65c_add_9ea2d) := goodIn_app (goodIn_of _ (by decide +kernel)) ggX14_sounds_Jx4a65c_add_9ea2d
set_option maxRecDepth 20000 in
theorem ggX14_sounds_X14_ends : GoodIn wsX14_sounds wsX14_ends := goodIn_ca (goodIn_r _ [56, 1, 2, 57, 58, 59, 60, 61, 62, 63, 64, 9, 65, 11, 24, 12, 13, 14, 15, 16, 17, 18, 19, 66, 67, 68, 69, 70, 71, 72, 73, 74, 75, 37, 38, 39, 40, 76, 77, 78, 79, 80, 81, 82, 83, 84, 85, 86, 87, 88, 89, 90, 91, 92, 93, 94, 95, 96, 97, 98, 99, 100, 101, 102, 103, 104, 105, 106, 107, 108, 109, 110, 111, 112, 113, 114, 115, 116, 117, 118, 119, 120, 121, 122, 123, 147, 148, 149, 150, 151, 152, 153, 154, 155, 156, 157, 158, 159, 160, 161, 162, 163, 164, 165, 166, 167, 168, 169, 170, 171, 172, 173, 174, 175, 181, 182, 183, 184, 185, 186, 187, 188] (by decide +kernel) (by decide +kernel)) (goodIn_sub (fun _ h => List.mem_cons_of_mem _ (List.mem_append_right _ h)) (by decide +kernel))
set_option maxRecDepth 20000 in
theorem gX14_sounds_X14_ends : GoodIn wsX14_sounds (wsV RX14 290 RX14 yX14_ends wsX14_ends) := goodIn_app (goodIn_of _ (by decide +kernel)) ggX14_sounds_X14_ends
theorem dX14_sounds_0 : decode cX14_sounds 0 = .ok (.aload_n 0, 1) := by decide +kernel
theorem dX14_sounds_1 : decode cX14_sounds 1 = .ok (.getfield 18, 3) := by decide +kernel
theorem dX14_sounds_4 : decode cX14_sounds 4 = .ok (.iload_n 1, 1) := by decide +kernel
theorem dX14_sounds_5 : decode cX14_sounds 5 = .ok (.aaload, 1) := by decide +kernel
theorem dX14_sounds_6 : decode cX14_sounds 6 = .ok (.astore 5, 2) := by decide +kernel
theorem dX14_sounds_8 : decode cX14_sounds 8 = .ok (.aload 5, 2) := by decide +kernel
theorem dX14_sounds_10 : decode cX14_sounds 10 = .ok (.getfield 199, 3) := by decide +kernel
theorem dX14_sounds_13 : decode cX14_sounds 13 = .ok (.iconst 0, 1) := by decide +kernel
theorem dX14_sounds_14 : decode cX14_sounds 14 = .ok (.invokevirtual 76, 3) := by decide +kernel
theorem dX14_sounds_17 : decode cX14_sounds 17 = .ok (.checkcast 275, 3) := by decide +kernel
theorem dX14_sounds_20 : decode cX14_sounds 20 = .ok (.astore 6, 2) := by decide +kernel
theorem dX14_sounds_22 : decode cX14_sounds 22 = .ok (.iload 4, 2) := by decide +kernel
theorem dX14_sounds_24 : decode cX14_sounds 24 = .ok (.bipush 98, 2) := by decide +kernel
theorem dX14_sounds_26 : decode cX14_sounds 26 = .ok (.if_icmp .ne 21, 3) := by decide +kernel
theorem dX14_sounds_29 : decode cX14_sounds 29 = .ok (.aload_n 2, 1) := by decide +kernel
theorem dX14_sounds_30 : decode cX14_sounds 30 = .ok (.getfield 300, 3) := by decide +kernel
theorem dX14_sounds_33 : decode cX14_sounds 33 = .ok (.ifCond .eq 14, 3) := by decide +kernel
theorem dX14_sounds_36 : decode cX14_sounds 36 = .ok (.aload_n 0, 1) := by decide +kernel
theorem dX14_sounds_37 : decode cX14_sounds 37 = .ok (.aload 5, 2) := by decide +kernel
theorem dX14_sounds_39 : decode cX14_sounds 39 = .ok (.getfield 133, 3) := by decide +kernel
theorem dX14_sounds_42 : decode cX14_sounds 42 = .ok (.invokevirtual 362, 3) := by decide +kernel
theorem dX14_sounds_45 : decode cX14_sounds 45 = .ok (.iconst 1, 1) := by decide +kernel
theorem dX14_sounds_46 : decode cX14_sounds 46 = .ok (.ireturn, 1) := by decide +kernel
theorem dX14_sounds_47 : decode cX14_sounds 47 = .ok (.iload_n 3, 1) := by decide +kernel
theorem dX14_sounds_48 : decode cX14_sounds 48 = .ok (.ifCond .le 237, 3) := by decide +kernel
theorem dX14_sounds_51 : decode cX14_sounds 51 = .ok (.aload_n 0, 1) := by decide +kernel
theorem dX14_sounds_52 : decode cX14_sounds 52 = .ok (.dup, 1) := by decide +kernel
theorem dX14_sounds_53 : decode cX14_sounds 53 = .ok (.getfield 366, 3) := by decide +kernel
theorem dX14_sounds_56 : decode cX14_sounds 56 = .ok (.iload 4, 2) := by decide +kernel
theorem dX14_sounds_58 : decode cX14_sounds 58 = .ok (.bipush 32, 2) := by decide +kernel
theorem dX14_sounds_60 : decode cX14_sounds 60 = .ok (.if_icmp .eq 17, 3) := by decide +kernel
theorem dX14_sounds_63 : decode cX14_sounds 63 = .ok (.iload 4, 2) := by decide +kernel
theorem dX14_sounds_65 : decode cX14_sounds 65 = .ok (.bipush 100, 2) := by decide +kernel
theorem dX14_sounds_67 : decode cX14_sounds 67 = .ok (.if_icmp .eq 10, 3) := by decide +kernel
theorem dX14_sounds_70 : decode cX14_sounds 70 = .ok (.iload 4, 2) := by decide +kernel
theorem dX14_sounds_72 : decode cX14_sounds 72 = .ok (.bipush 97, 2) := by decide +kernel
theorem dX14_sounds_74 : decode cX14_sounds 74 = .ok (.if_icmp .ne 7, 3) := by decide +kernel
theorem dX14_sounds_77 : decode cX14_sounds 77 = .ok (.iconst 1, 1) := by decide +kernel
theorem dX14_sounds_78 : decode cX14_sounds 78 = .ok (.goto 4, 3) := by decide +kernel
theorem dX14_sounds_81 : decode cX14_sounds 81 = .ok (.iconst 0, 1) := by decide +kernel
theorem dX14_sounds_82 : decode cX14_sounds 82 = .ok (.iadd, 1) := by decide +kernel
theorem dX14_sounds_83 : decode cX14_sounds 83 = .ok (.putfield 366, 3) := by decide +kernel
theorem dX14_sounds_86 : decode cX14_sounds 86 = .ok (.iconst 0, 1) := by decide +kernel
theorem dX14_sounds_87 : decode cX14_sounds 87 = .ok (.istore 7, 2) := by decide +kernel
theorem dX14_sounds_89 : decode cX14_sounds 89 = .ok (.iload 7, 2) := by decide +kernel
theorem dX14_sounds_91 : decode cX14_sounds 91 = .ok (.iload_n 3, 1) := by decide +kernel
theorem dX14_sounds_92 : decode cX14_sounds 92 = .ok (.if_icmp .ge 99, 3) := by decide +kernel
theorem dX14_sounds_95 : decode cX14_sounds 95 = .ok (.aload_n 2, 1) := by decide +kernel
theorem dX14_sounds_96 : decode cX14_sounds 96 = .ok (.getfield 300, 3) := by decide +kernel
theorem dX14_sounds_99 : decode cX14_sounds 99 = .ok (.ifCond .eq 20, 3) := by decide +kernel
theorem dX14_sounds_102 : decode cX14_sounds 102 = .ok (.aload_n 2, 1) := by decide +kernel
theorem dX14_sounds_103 : decode cX14_sounds 103 = .ok (.getfield 320, 3) := by decide +kernel
theorem dX14_sounds_106 : decode cX14_sounds 106 = .ok (.iconst 0, 1) := by decide +kernel
theorem dX14_sounds_107 : decode cX14_sounds 107 = .ok (.invokevirtual 272, 3) := by decide +kernel
theorem dX14_sounds_110 : decode cX14_sounds 110 = .ok (.checkcast 213, 3) := by decide +kernel
theorem dX14_sounds_113 : decode cX14_sounds 113 = .ok (.invokevirtual 222, 3) := by decide +kernel
theorem dX14_sounds_116 : decode cX14_sounds 116 = .ok (.goto 17, 3) := by decide +kernel
theorem dX14_sounds_119 : decode cX14_sounds 119 = .ok (.aload 6, 2) := by decide +kernel
theorem dX14_sounds_121 : decode cX14_sounds 121 = .ok (.getfield 369, 3) := by decide +kernel
theorem dX14_sounds_124 : decode cX14_sounds 124 = .ok (.aload 6, 2) := by decide +kernel
theorem dX14_sounds_126 : decode cX14_sounds 126 = .ok (.getfield 284, 3) := by decide +kernel
theorem dX14_sounds_129 : decode cX14_sounds 129 = .ok (.iload 7, 2) := by decide +kernel
theorem dX14_sounds_131 : decode cX14_sounds 131 = .ok (.iadd, 1) := by decide +kernel
theorem dX14_sounds_132 : decode cX14_sounds 132 = .ok (.iaload, 1) := by decide +kernel
theorem dX14_sounds_133 : decode cX14_sounds 133 = .ok (.istore 8, 2) := by decide +kernel
theorem dX14_sounds_135 : decode cX14_sounds 135 = .ok (.iload 4, 2) := by decide +kernel
theorem dX14_sounds_137 : decode cX14_sounds 137 = .ok (.bipush 32, 2) := by decide +kernel
theorem dX14_sounds_139 : decode cX14_sounds 139 = .ok (.if_icmp .ne 26, 3) := by decide +kernel
theorem dX14_sounds_142 : decode cX14_sounds 142 = .ok (.aload_n 2, 1) := by decide +kernel
theorem dX14_sounds_143 : decode cX14_sounds 143 = .ok (.getfield 300, 3) := by decide +kernel
theorem dX14_sounds_146 : decode cX14_sounds 146 = .ok (.ifCond .eq 19, 3) := by decide +kernel
theorem dX14_sounds_149 : decode cX14_sounds 149 = .ok (.aload_n 0, 1) := by decide +kernel
theorem dX14_sounds_150 : decode cX14_sounds 150 = .ok (.getfield 35, 3) := by decide +kernel
theorem dX14_sounds_153 : decode cX14_sounds 153 = .ok (.iload 8, 2) := by decide +kernel
theorem dX14_sounds_155 : decode cX14_sounds 155 = .ok (.invokestatic 212, 3) := by decide +kernel
theorem dX14_sounds_158 : decode cX14_sounds 158 = .ok (.invokevirtual 57, 3) := by decide +kernel
theorem dX14_sounds_161 : decode cX14_sounds 161 = .ok (.pop, 1) := by decide +kernel
theorem dX14_sounds_162 : decode cX14_sounds 162 = .ok (.goto 23, 3) := by decide +kernel
theorem dX14_sounds_165 : decode cX14_sounds 165 = .ok (.iload 4, 2) := by decide +kernel
theorem dX14_sounds_167 : decode cX14_sounds 167 = .ok (.bipush 32, 2) := by decide +kernel
theorem dX14_sounds_169 : decode cX14_sounds 169 = .ok (.if_icmp .ne 16, 3) := by decide +kernel
theorem dX14_sounds_172 : decode cX14_sounds 172 = .ok (.aload_n 2, 1) := by decide +kernel
theorem dX14_sounds_173 : decode cX14_sounds 173 = .ok (.getfield 320, 3) := by decide +kernel
theorem dX14_sounds_176 : decode cX14_sounds 176 = .ok (.iload 8, 2) := by decide +kernel
theorem dX14_sounds_178 : decode cX14_sounds 178 = .ok (.invokestatic 212, 3) := by decide +kernel
theorem dX14_sounds_181 : decode cX14_sounds 181 = .ok (.invokevirtual 57, 3) := by decide +kernel
theorem dX14_sounds_184 : decode cX14_sounds 184 = .ok (.pop, 1) := by decide +kernel
theorem dX14_sounds_185 : decode cX14_sounds 185 = .ok (.iinc 7 1, 3) := by decide +kernel
theorem dX14_sounds_188 : decode cX14_sounds 188 = .ok (.goto (-99), 3) := by decide +kernel
theorem dX14_sounds_191 : decode cX14_sounds 191 = .ok (.aload 6, 2) := by decide +kernel
theorem dX14_sounds_193 : decode cX14_sounds 193 = .ok (.dup, 1) := by decide +kernel
theorem dX14_sounds_194 : decode cX14_sounds 194 = .ok (.getfield 284, 3) := by decide +kernel
theorem dX14_sounds_197 : decode cX14_sounds 197 = .ok (.iload_n 3, 1) := by decide +kernel
theorem dX14_sounds_198 : decode cX14_sounds 198 = .ok (.iadd, 1) := by decide +kernel
theorem dX14_sounds_199 : decode cX14_sounds 199 = .ok (.putfield 284, 3) := by decide +kernel
theorem dX14_sounds_202 : decode cX14_sounds 202 = .ok (.aload 6, 2) := by decide +kernel
theorem dX14_sounds_204 : decode cX14_sounds 204 = .ok (.aload 6, 2) := by decide +kernel
theorem dX14_sounds_206 : decode cX14_sounds 206 = .ok (.getfield 371, 3) := by decide +kernel
theorem dX14_sounds_209 : decode cX14_sounds 209 = .ok (.ifCond .ne 10, 3) := by decide +kernel
theorem dX14_sounds_212 : decode cX14_sounds 212 = .ok (.iload 4, 2) := by decide +kernel
theorem dX14_sounds_214 : decode cX14_sounds 214 = .ok (.bipush 32, 2) := by decide +kernel
theorem dX14_sounds_216 : decode cX14_sounds 216 = .ok (.if_icmp .eq 7, 3) := by decide +kernel
theorem dX14_sounds_219 : decode cX14_sounds 219 = .ok (.iconst 1, 1) := by decide +kernel
theorem dX14_sounds_220 : decode cX14_sounds 220 = .ok (.goto 4, 3) := by decide +kernel
theorem dX14_sounds_223 : decode cX14_sounds 223 = .ok (.iconst 0, 1) := by decide +kernel
theorem dX14_sounds_224 : decode cX14_sounds 224 = .ok (.putfield 371, 3) := by decide +kernel
theorem dX14_sounds_227 : decode cX14_sounds 227 = .ok (.aload 6, 2) := by decide +kernel
theorem dX14_sounds_229 : decode cX14_sounds 229 = .ok (.getfield 284, 3) := by decide +kernel
theorem dX14_sounds_232 : decode cX14_sounds 232 = .ok (.aload 6, 2) := by decide +kernel
theorem dX14_sounds_234 : decode cX14_sounds 234 = .ok (.getfield 338, 3) := by decide +kernel
theorem dX14_sounds_237 : decode cX14_sounds 237 = .ok (.if_icmp .lt 26, 3) := by decide +kernel
theorem dX14_sounds_240 : decode cX14_sounds 240 = .ok (.aload_n 0, 1) := by decide +kernel
theorem dX14_sounds_241 : decode cX14_sounds 241 = .ok (.iload_n 1, 1) := by decide +kernel
theorem dX14_sounds_242 : decode cX14_sounds 242 = .ok (.aload 6, 2) := by decide +kernel
theorem dX14_sounds_244 : decode cX14_sounds 244 = .ok (.getfield 371, 3) := by decide +kernel
theorem dX14_sounds_247 : decode cX14_sounds 247 = .ok (.ifCond .eq 8, 3) := by decide +kernel
theorem dX14_sounds_250 : decode cX14_sounds 250 = .ok (.bipush 108, 2) := by decide +kernel
theorem dX14_sounds_252 : decode cX14_sounds 252 = .ok (.goto 5, 3) := by decide +kernel
theorem dX14_sounds_255 : decode cX14_sounds 255 = .ok (.bipush 100, 2) := by decide +kernel
theorem dX14_sounds_257 : decode cX14_sounds 257 = .ok (.invokevirtual 290, 3) := by decide +kernel
theorem dX14_sounds_260 : decode cX14_sounds 260 = .ok (.goto 25, 3) := by decide +kernel
theorem dX14_sounds_263 : decode cX14_sounds 263 = .ok (.aload_n 2, 1) := by decide +kernel
theorem dX14_sounds_264 : decode cX14_sounds 264 = .ok (.getfield 300, 3) := by decide +kernel
theorem dX14_sounds_267 : decode cX14_sounds 267 = .ok (.ifCond .eq 18, 3) := by decide +kernel
theorem dX14_sounds_270 : decode cX14_sounds 270 = .ok (.iload_n 3, 1) := by decide +kernel
theorem dX14_sounds_271 : decode cX14_sounds 271 = .ok (.aload_n 2, 1) := by decide +kernel
theorem dX14_sounds_272 : decode cX14_sounds 272 = .ok (.getfield 238, 3) := by decide +kernel
theorem dX14_sounds_275 : decode cX14_sounds 275 = .ok (.if_icmp .ge 10, 3) := by decide +kernel
theorem dX14_sounds_278 : decode cX14_sounds 278 = .ok (.aload_n 0, 1) := by decide +kernel
theorem dX14_sounds_279 : decode cX14_sounds 279 = .ok (.iload_n 1, 1) := by decide +kernel
theorem dX14_sounds_280 : decode cX14_sounds 280 = .ok (.bipush 104, 2) := by decide +kernel
theorem dX14_sounds_282 : decode cX14_sounds 282 = .ok (.invokevirtual 290, 3) := by decide +kernel
theorem dX14_sounds_285 : decode cX14_sounds 285 = .ok (.iconst 1, 1) := by decide +kernel
theorem dX14_sounds_286 : decode cX14_sounds 286 = .ok (.ireturn, 1) := by decide +kernel
set_option maxRecDepth 20000 in
theorem ggX14_fails_X14_halts : GoodIn wsX14_fails wsX14_halts := goodIn_ca (goodIn_r _ [6, 1, 7, 8, 9, 5, 10, 11, 12, 13, 14, 15, 16, 17, 18, 19, 20, 21, 22, 23, 24, 25, 26, 27, 28, 29, 30, 31, 32, 33, 34, 35, 36, 37, 38, 39, 40, 41, 42, 43, 44, 45, 46, 47, 48, 49, 50, 51, 52, 53, 54, 55, 56, 57, 58, 59, 60, 61, 62, 63, 64, 65, 66, 67, 68, 69, 70, 71, 72, 73, 74, 75, 76, 77, 78, 79, 80, 81, 82, 83, 84, 85, 86, 87, 88, 89, 90, 91, 92, 93, 94, 95, 96, 97, 98, 99, 100, 101, 102, 103, 104, 105, 106, 107, 108, 109, 110, 111, 112, 113, 114, 115, 116, 117, 118, 119, 120, 121, 122, 123, 124, 125, 126, 127, 128, 129, 130] (by decide +kernel) (by decide +kernel)) (goodIn_sub (fun _ h => List.mem_cons_of_mem _ (List.mem_append_right _ h)) (by decide +kernel))
set_option maxRecDepth 20000 in
theorem gX14_fails_X14_halts : GoodIn wsX14_fails (wsV RX14 374 RX14 yX14_halts wsX14_halts) := goodIn_app (goodIn_of _ (by decide +kernel)) ggX14_fails_X14_halts
theorem dX14_fails_0 : decode cX14_fails 0 = .ok (.aload_n 0, 1) := by decide +kernel
theorem dX14_fails_1 : decode cX14_fails 1 = .ok (.getfield 18, 3) := by decide +kernel
theorem dX14_fails_4 : decode cX14_fails 4 = .ok (.iload_n 1, 1) := by decide +kernel
theorem dX14_fails_5 : decode cX14_fails 5 = .ok (.aaload, 1) := by decide +kernel
theorem dX14_fails_6 : decode cX14_fails 6 = .ok (.astore_n 3, 1) := by decide +kernel
theorem dX14_fails_7 : decode cX14_fails 7 = .ok (.aload_n 3, 1) := by decide +kernel
theorem dX14_fails_8 : decode cX14_fails 8 = .ok (.dup, 1) := by decide +kernel
theorem dX14_fails_9 : decode cX14_fails 9 = .ok (.getfield 316, 3) := by decide +kernel
theorem dX14_fails_12 : decode cX14_fails 12 = .ok (.iconst 1, 1) := by decide +kernel
theorem dX14_fails_13 : decode cX14_fails 13 = .ok (.iadd, 1) := by decide +kernel
theorem dX14_fails_14 : decode cX14_fails 14 = .ok (.putfield 316, 3) := by decide +kernel
theorem dX14_fails_17 : decode cX14_fails 17 = .ok (.aload_n 3, 1) := by decide +kernel
theorem dX14_fails_18 : decode cX14_fails 18 = .ok (.getfield 316, 3) := by decide +kernel
theorem dX14_fails_21 : decode cX14_fails 21 = .ok (.iconst 3, 1) := by decide +kernel
theorem dX14_fails_22 : decode cX14_fails 22 = .ok (.if_icmp .ne 11, 3) := by decide +kernel
theorem dX14_fails_25 : decode cX14_fails 25 = .ok (.aload_n 0, 1) := by decide +kernel
theorem dX14_fails_26 : decode cX14_fails 26 = .ok (.iload_n 1, 1) := by decide +kernel
theorem dX14_fails_27 : decode cX14_fails 27 = .ok (.bipush 101, 2) := by decide +kernel
theorem dX14_fails_29 : decode cX14_fails 29 = .ok (.iload_n 2, 1) := by decide +kernel
theorem dX14_fails_30 : decode cX14_fails 30 = .ok (.invokevirtual 374, 3) := by decide +kernel
theorem dX14_fails_33 : decode cX14_fails 33 = .ok (.iconst 2, 1) := by decide +kernel
theorem dX14_fails_34 : decode cX14_fails 34 = .ok (.ireturn, 1) := by decide +kernel
set_option maxRecDepth 20000 in
theorem ggX14_halts_X14_ends : GoodIn wsX14_halts wsX14_ends := goodIn_ca (goodIn_r _ [6, 1, 7, 8, 9, 10, 11, 12, 13, 14, 15, 16, 17, 18, 19, 20, 21, 22, 23, 24, 25, 26, 27, 28, 29, 30, 31, 32, 33, 34, 35, 36, 37, 38, 39, 40, 41, 42, 43, 44, 45, 46, 47, 48, 49, 50, 51, 52, 53, 54, 55, 56, 57, 58, 59, 60, 61, 62, 63, 64, 65, 66, 67, 68, 69, 70, 71, 72, 73, 74, 75, 76, 77, 78, 79, 80, 81, 82, 83, 84, 85, 86, 87, 88, 89, 90, 91, 92, 93, 94, 95, 96, 97, 98, 99, 100, 101, 102, 103, 104, 105, 106, 107, 108, 109, 110, 111, 112, 113, 114, 115, 116, 117, 118, 119, 120, 121, 122, 123, 124, 125, 126] (by decide +kernel) (by decide +kernel)) (goodIn_sub (fun _ h => List.mem_cons_of_mem _ (List.mem_append_right _ h)) (by decide +kernel))
set_option maxRecDepth 20000 in
theorem gX14_halts_X14_ends : GoodIn wsX14_halts (wsV RX14 290 RX14 yX14_ends wsX14_ends) := goodIn_app (goodIn_of _ (by decide +kernel)) ggX14_halts_X14_ends
theorem dX14_halts_0 : decode cX14_halts 0 = .ok (.aload_n 0, 1) := by decide +kernel
theorem dX14_halts_1 : decode cX14_halts 1 = .ok (.getfield 18, 3) := by decide +kernel
theorem dX14_halts_4 : decode cX14_halts 4 = .ok (.iload_n 1, 1) := by decide +kernel
theorem dX14_halts_5 : decode cX14_halts 5 = .ok (.aaload, 1) := by decide +kernel
theorem dX14_halts_6 : decode cX14_halts 6 = .ok (.astore 4, 2) := by decide +kernel
theorem dX14_halts_8 : decode cX14_halts 8 = .ok (.aload 4, 2) := by decide +kernel
theorem dX14_halts_10 : decode cX14_halts 10 = .ok (.iconst 0, 1) := by decide +kernel
theorem dX14_halts_11 : decode cX14_halts 11 = .ok (.putfield 316, 3) := by decide +kernel
theorem dX14_halts_14 : decode cX14_halts 14 = .ok (.aload 4, 2) := by decide +kernel
theorem dX14_halts_16 : decode cX14_halts 16 = .ok (.iconst 1, 1) := by decide +kernel
theorem dX14_halts_17 : decode cX14_halts 17 = .ok (.putfield 313, 3) := by decide +kernel
theorem dX14_halts_20 : decode cX14_halts 20 = .ok (.aload 4, 2) := by decide +kernel
theorem dX14_halts_22 : decode cX14_halts 22 = .ok (.iload_n 3, 1) := by decide +kernel
theorem dX14_halts_23 : decode cX14_halts 23 = .ok (.putfield 378, 3) := by decide +kernel
theorem dX14_halts_26 : decode cX14_halts 26 = .ok (.aload_n 0, 1) := by decide +kernel
theorem dX14_halts_27 : decode cX14_halts 27 = .ok (.iload_n 1, 1) := by decide +kernel
theorem dX14_halts_28 : decode cX14_halts 28 = .ok (.iload_n 2, 1) := by decide +kernel
theorem dX14_halts_29 : decode cX14_halts 29 = .ok (.invokevirtual 290, 3) := by decide +kernel
theorem dX14_halts_32 : decode cX14_halts 32 = .ok (.return_, 1) := by decide +kernel
set_option maxRecDepth 20000 in
theorem ggX14_stalls_X14_halts : GoodIn wsX14_stalls wsX14_halts := goodIn_ca (goodIn_r _ [6, 7, 8, 9, 10, 5, 11, 12, 13, 14, 15, 16, 17, 18, 19, 20, 21, 22, 23, 24, 25, 26, 27, 28, 29, 30, 31, 32, 33, 34, 35, 36, 37, 38, 39, 40, 41, 42, 43, 44, 45, 46, 47, 48, 49, 50, 51, 52, 53, 54, 55, 56, 57, 58, 59, 60, 61, 62, 63, 64, 65, 66, 67, 68, 69, 70, 71, 72, 73, 74, 75, 76, 77, 78, 79, 80, 81, 82, 83, 84, 85, 86, 87, 88, 89, 90, 91, 92, 93, 94, 95, 96, 97, 98, 99, 100, 101, 102, 103, 104, 105, 106, 107, 108, 109, 110, 111, 112, 113, 114, 115, 116, 117, 118, 119, 120, 121, 122, 123, 124, 125, 126, 127, 128, 129, 130, 131] (by decide +kernel) (by decide +kernel)) (goodIn_sub (fun _ h => List.mem_cons_of_mem _ (List.mem_append_right _ h)) (by decide +kernel))
set_option maxRecDepth 20000 in
theorem gX14_stalls_X14_halts : GoodIn wsX14_stalls (wsV RX14 374 RX14 yX14_halts wsX14_halts) := goodIn_app (goodIn_of _ (by decide +kernel)) ggX14_stalls_X14_halts
theorem dX14_stalls_0 : decode cX14_stalls 0 = .ok (.aload_n 0, 1) := by decide +kernel
theorem dX14_stalls_1 : decode cX14_stalls 1 = .ok (.dup, 1) := by decide +kernel
theorem dX14_stalls_2 : decode cX14_stalls 2 = .ok (.getfield 381, 3) := by decide +kernel
theorem dX14_stalls_5 : decode cX14_stalls 5 = .ok (.iconst 1, 1) := by decide +kernel
theorem dX14_stalls_6 : decode cX14_stalls 6 = .ok (.iadd, 1) := by decide +kernel
theorem dX14_stalls_7 : decode cX14_stalls 7 = .ok (.putfield 381, 3) := by decide +kernel
theorem dX14_stalls_10 : decode cX14_stalls 10 = .ok (.aload_n 0, 1) := by decide +kernel
theorem dX14_stalls_11 : decode cX14_stalls 11 = .ok (.iload_n 1, 1) := by decide +kernel
theorem dX14_stalls_12 : decode cX14_stalls 12 = .ok (.bipush 115, 2) := by decide +kernel
theorem dX14_stalls_14 : decode cX14_stalls 14 = .ok (.bipush 115, 2) := by decide +kernel
theorem dX14_stalls_16 : decode cX14_stalls 16 = .ok (.invokevirtual 374, 3) := by decide +kernel
theorem dX14_stalls_19 : decode cX14_stalls 19 = .ok (.iconst 2, 1) := by decide +kernel
theorem dX14_stalls_20 : decode cX14_stalls 20 = .ok (.ireturn, 1) := by decide +kernel
theorem dX14_notYet_0 : decode cX14_notYet 0 = .ok (.aload_n 0, 1) := by decide +kernel
theorem dX14_notYet_1 : decode cX14_notYet 1 = .ok (.dup, 1) := by decide +kernel
theorem dX14_notYet_2 : decode cX14_notYet 2 = .ok (.getfield 381, 3) := by decide +kernel
theorem dX14_notYet_5 : decode cX14_notYet 5 = .ok (.iconst 1, 1) := by decide +kernel
theorem dX14_notYet_6 : decode cX14_notYet 6 = .ok (.iadd, 1) := by decide +kernel
theorem dX14_notYet_7 : decode cX14_notYet 7 = .ok (.putfield 381, 3) := by decide +kernel
theorem dX14_notYet_10 : decode cX14_notYet 10 = .ok (.iconst 2, 1) := by decide +kernel
theorem dX14_notYet_11 : decode cX14_notYet 11 = .ok (.ireturn, 1) := by decide +kernel
set_option maxRecDepth 20000 in
theorem ggX14_acknowledged_Jx4a65c_remove_915e3 : GoodIn wsX14_acknowledged wsJx4a65c_remove_915e3 := goodIn_r _ [7, 8, 9, 10, 11, 12, 13, 14, 15, 16, 17, 18, 19, 20, 6, 21, 22, 23, 24, 25, 26, 27, 58, 59, 60] (by decide +kernel) (by decide +kernel)
set_option maxRecDepth 20000 in
theorem gX14_acknowledged_Jx4a65c_remove_915e3 : GoodIn wsX14_acknowledged (wsV RX14 272 RJx4a65c yJx4a65c_remove_915e3 wsJx4a65c_remove_915e3) := goodIn_app (goodIn_of _ (by decide +kernel)) ggX14_acknowledged_Jx4a65c_remove_915e3
set_option maxRecDepth 20000 in
theorem ggX14_acknowledged_J6_intValue_8abf5 : GoodIn wsX14_acknowledged wsJ6_intValue_8abf5 := goodIn_r _ [32, 33, 61] (by decide +kernel) (by decide +kernel)
set_option maxRecDepth 20000 in
theorem gX14_acknowledged_J6_intValue_8abf5 : GoodIn wsX14_acknowledged (wsV RX14 222 RJ6 yJ6_intValue_8abf5 wsJ6_intValue_8abf5) := goodIn_app (goodIn_of _ (by decide +kernel)) ggX14_acknowledged_J6_intValue_8abf5
theorem dX14_acknowledged_0 : decode cX14_acknowledged 0 = .ok (.iconst 0, 1) := by decide +kernel
theorem dX14_acknowledged_1 : decode cX14_acknowledged 1 = .ok (.istore_n 3, 1) := by decide +kernel
theorem dX14_acknowledged_2 : decode cX14_acknowledged 2 = .ok (.iload_n 3, 1) := by decide +kernel
theorem dX14_acknowledged_3 : decode cX14_acknowledged 3 = .ok (.iload_n 2, 1) := by decide +kernel
theorem dX14_acknowledged_4 : decode cX14_acknowledged 4 = .ok (.if_icmp .ge 25, 3) := by decide +kernel
theorem dX14_acknowledged_7 : decode cX14_acknowledged 7 = .ok (.aload_n 1, 1) := by decide +kernel
theorem dX14_acknowledged_8 : decode cX14_acknowledged 8 = .ok (.getfield 320, 3) := by decide +kernel
theorem dX14_acknowledged_11 : decode cX14_acknowledged 11 = .ok (.iconst 0, 1) := by decide +kernel
theorem dX14_acknowledged_12 : decode cX14_acknowledged 12 = .ok (.invokevirtual 272, 3) := by decide +kernel
theorem dX14_acknowledged_15 : decode cX14_acknowledged 15 = .ok (.checkcast 213, 3) := by decide +kernel
theorem dX14_acknowledged_18 : decode cX14_acknowledged 18 = .ok (.invokevirtual 222, 3) := by decide +kernel
theorem dX14_acknowledged_21 : decode cX14_acknowledged 21 = .ok (.istore 4, 2) := by decide +kernel
theorem dX14_acknowledged_23 : decode cX14_acknowledged 23 = .ok (.iinc 3 1, 3) := by decide +kernel
theorem dX14_acknowledged_26 : decode cX14_acknowledged 26 = .ok (.goto (-24), 3) := by decide +kernel
theorem dX14_acknowledged_29 : decode cX14_acknowledged 29 = .ok (.aload_n 1, 1) := by decide +kernel
theorem dX14_acknowledged_30 : decode cX14_acknowledged 30 = .ok (.iconst (-1), 1) := by decide +kernel
theorem dX14_acknowledged_31 : decode cX14_acknowledged 31 = .ok (.putfield 269, 3) := by decide +kernel
theorem dX14_acknowledged_34 : decode cX14_acknowledged 34 = .ok (.aload_n 0, 1) := by decide +kernel
theorem dX14_acknowledged_35 : decode cX14_acknowledged 35 = .ok (.dup, 1) := by decide +kernel
theorem dX14_acknowledged_36 : decode cX14_acknowledged 36 = .ok (.getfield 381, 3) := by decide +kernel
theorem dX14_acknowledged_39 : decode cX14_acknowledged 39 = .ok (.iconst 1, 1) := by decide +kernel
theorem dX14_acknowledged_40 : decode cX14_acknowledged 40 = .ok (.iadd, 1) := by decide +kernel
theorem dX14_acknowledged_41 : decode cX14_acknowledged 41 = .ok (.putfield 381, 3) := by decide +kernel
theorem dX14_acknowledged_44 : decode cX14_acknowledged 44 = .ok (.return_, 1) := by decide +kernel
set_option maxRecDepth 20000 in
theorem ggX14_comes_X14_fails : GoodIn wsX14_comes wsX14_fails := goodIn_ca (goodIn_r _ [12, 1, 13, 14, 15, 11, 16, 17, 18, 19, 20, 5, 21, 22, 23, 24, 25, 26, 27, 28, 29, 30, 31, 32, 33, 34, 35, 36, 37, 38, 39, 40, 41, 42, 43, 44, 45, 46, 47, 48, 49, 50, 51, 52, 53, 54, 55, 56, 57, 58, 59, 60, 61, 62, 63, 64, 65, 66, 67, 68, 69, 70, 71, 72, 73, 74, 75, 76, 77, 78, 79, 80, 81, 82, 83, 84, 85, 86, 87, 88, 89, 90, 91, 92, 93, 94, 95, 96, 97, 98, 99, 100, 101, 102, 151, 152, 153, 154, 155, 156, 157, 158, 159, 160, 161, 162, 163, 164, 165, 166, 167, 168, 169, 170, 171, 172, 173, 174, 175, 176, 177, 178, 179, 201, 202, 203, 204, 205, 206, 207, 208] (by decide +kernel) (by decide +kernel)) (goodIn_sub (fun _ h => List.mem_cons_of_mem _ (List.mem_append_right _ h)) (by decide +kernel))
set_option maxRecDepth 20000 in
theorem gX14_comes_X14_fails : GoodIn wsX14_comes (wsV RX14 384 RX14 yX14_fails wsX14_fails) := goodIn_app (goodIn_of _ (by decide +kernel)) ggX14_comes_X14_fails
set_option maxRecDepth 20000 in
theorem ggX14_comes_X14_shut : GoodIn wsX14_comes wsX14_shut := goodIn_ca (goodIn_r _ [106, 3, 4, 107, 108, 109, 29, 110, 31, 33, 34, 35, 36, 37, 38, 39, 40, 111, 112, 113, 114, 32, 115, 116, 117, 11, 118, 119, 1, 51, 52, 53, 54, 120, 121, 122, 123, 124, 125, 126, 127, 128, 129, 130, 131, 17, 18, 19, 20, 5, 21, 22, 23, 24, 25, 26, 27, 28, 30, 41, 42, 43, 44, 45, 46, 47, 48, 49, 50, 55, 56, 57, 58, 59, 60, 61, 62, 63, 64, 65, 66, 67, 68, 69, 70, 71, 72, 73, 74, 75, 76, 77, 78, 79, 80, 81, 82, 83, 84, 85, 86, 87, 88, 89, 90, 91, 92, 93, 94, 95, 96, 97, 98, 99, 100, 101, 102, 151, 152, 153, 154, 155, 156, 157, 158, 159, 160, 161, 162, 163, 164, 165, 166, 167, 168, 169, 180, 181, 182, 183, 184, 185, 186, 187, 188, 189, 190, 191, 192, 193, 194, 195, 206, 207, 208, 170, 171, 172, 173, 174, 175, 176, 177, 178, 179, 201, 202, 203, 204, 205] (by decide +kernel) (by decide +kernel)) (goodIn_sub (fun _ h => List.mem_cons_of_mem _ (List.mem_append_right _ h)) (by decide +kernel))
set_option maxRecDepth 20000 in
theorem gX14_comes_X14_shut : GoodIn wsX14_comes (wsV RX14 362 RX14 yX14_shut wsX14_shut) := goodIn_app (goodIn_of _ (by decide +kernel)) ggX14_comes_X14_shut
set_option maxRecDepth 20000 in
theorem ggX14_comes_X14_stalls : GoodIn wsX14_comes wsX14_stalls := goodIn_ca (goodIn_r _ [135, 136, 13, 14, 15, 11, 16, 1, 17, 18, 19, 20, 5, 21, 22, 23, 24, 25, 26, 27, 28, 29, 30, 31, 32, 33, 34, 35, 36, 37, 38, 39, 40, 41, 42, 43, 44, 45, 46, 47, 48, 49, 50, 51, 52, 53, 54, 55, 56, 57, 58, 59, 60, 61, 62, 63, 64, 65, 66, 67, 68, 69, 70, 71, 72, 73, 74, 75, 76, 77, 78, 79, 80, 81, 82, 83, 84, 85, 86, 87, 88, 89, 90, 91, 92, 93, 94, 95, 96, 97, 98, 99, 100, 101, 102, 151, 152, 153, 154, 155, 156, 157, 158, 159, 160, 161, 162, 163, 164, 165, 166, 167, 168, 169, 170, 171, 172, 173, 174, 175, 176, 177, 178, 179, 201, 202, 203, 204, 205, 206, 207, 208] (by decide +kernel) (by decide +kernel)) (goodIn_sub (fun _ h => List.mem_cons_of_mem _ (List.mem_append_right _ h)) (by decide +kernel))
set_option maxRecDepth 20000 in
theorem gX14_comes_X14_stalls : GoodIn wsX14_comes (wsV RX14 387 RX14 yX14_stalls wsX14_stalls) := goodIn_app (goodIn_of _ (by decide +kernel)) ggX14_comes_X14_stalls
set_option maxRecDepth 20000 in
theorem ggX14_comes_X14_notYet : GoodIn wsX14_comes wsX14_notYet := goodIn_r _ [140, 136, 151, 152, 153, 154, 155, 156, 157, 158, 159, 160, 161, 162, 163, 164, 165, 166, 167, 168, 169] (by decide +kernel) (by decide +kernel)
set_option maxRecDepth 20000 in
theorem gX14_comes_X14_notYet : GoodIn wsX14_comes (wsV RX14 390 RX14 yX14_notYet wsX14_notYet) := goodIn_app (goodIn_of _ (by decide +kernel)) ggX14_comes_X14_notYet
set_option maxRecDepth 20000 in
theorem ggX14_comes_X14_acknowledged : GoodIn wsX14_comes wsX14_acknowledged := goodIn_r _ [144, 7, 136, 26, 27, 28, 29, 30, 31, 32, 33, 34, 35, 36, 37, 38, 39, 40, 41, 42, 43, 44, 45, 46, 47, 48, 49, 50, 145, 146, 147, 148, 149, 150, 196, 197, 198, 199, 200, 151, 152, 153, 154, 155, 156, 157, 158, 159, 160, 161, 162, 163, 164, 165, 166, 167, 168, 169, 206, 207, 208, 209] (by decide +kernel) (by decide +kernel)
set_option maxRecDepth 20000 in
theorem gX14_comes_X14_acknowledged : GoodIn wsX14_comes (wsV RX14 393 RX14 yX14_acknowledged wsX14_acknowledged) := goodIn_app (goodIn_of _ (by decide +kernel)) ggX14_comes_X14_acknowledged
set_option maxRecDepth 20000 in
theorem ggX14_comes_Jx4a65c_get_915e3 : GoodIn wsX14_comes wsJx4a65c_get_915e3 := goodIn_r _ [110, 31, 33, 34, 35, 36, 37, 38, 39, 40, 111, 112, 113, 29, 114, 32, 206, 207, 208] (by decide +kernel) (by decide +kernel)
set_option maxRecDepth 20000 in
theorem gX14_comes_Jx4a65c_get_915e3 : GoodIn wsX14_comes (wsV RX14 76 RJx4a65c yJx4a65c_get_915e3 wsJx4a65c_get_915e3) := goodIn_app (goodIn_of _ (by decide +kernel)) ggX14_comes_Jx4a65c_get_915e3
set_option maxRecDepth 20000 in
theorem ggX14_comes_Jx4a65c_add_9ea2d : GoodIn wsX14_comes wsJx4a65c_add_9ea2d := goodIn_r _ [58, 45, 46, 32, 31, 59, 60, 61, 29, 62, 63, 64, 65, 66, 67, 68, 69, 70, 71, 72, 73, 74, 75, 76, 77, 78, 79, 80, 81, 82, 83, 84, 85, 86, 87, 88, 89, 90, 91, 92, 93, 94, 95, 96, 97, 98, 99, 100, 101, 102, 48, 49, 50, 206, 207, 208] (by decide +kernel) (by decide +kernel)
set_option maxRecDepth 20000 in
theorem gX14_comes_Jx4a65c_add_9ea2d : GoodIn wsX14_comes (wsV RX14 57 RJx4a65c yJx4a65c_add_9ea2d wsJx4a65c_add_9ea2d) := goodIn_app (goodIn_of _ (by decide +kernel)) ggX14_comes_Jx4a65c_add_9ea2d
set_option maxRecDepth 20000 in
theorem ggX14_comes_X14_ends : GoodIn wsX14_comes wsX14_ends := goodIn_ca (goodIn_r _ [20, 1, 5, 21, 22, 23, 24, 25, 26, 27, 28, 29, 30, 31, 32, 33, 34, 35, 36, 37, 38, 39, 40, 41, 42, 43, 44, 45, 46, 47, 48, 49, 50, 51, 52, 53, 54, 55, 56, 57, 58, 59, 60, 61, 62, 63, 64, 65, 66, 67, 68, 69, 70, 71, 72, 73, 74, 75, 76, 77, 78, 79, 80, 81, 82, 83, 84, 85, 86, 87, 88, 89, 90, 91, 92, 93, 94, 95, 96, 97, 98, 99, 100, 101, 102, 151, 152, 153, 154, 155, 156, 157, 158, 159, 160, 161, 162, 163, 164, 165, 166, 167, 168, 169, 170, 171, 172, 173, 174, 175, 176, 177, 178, 179, 201, 202, 203, 204, 205, 206, 207, 208] (by decide +kernel) (by decide +kernel)) (goodIn_sub (fun _ h => List.mem_cons_of_mem _ (List.mem_append_right _ h)) (by decide +kernel))
set_option maxRecDepth 20000 in
theorem gX14_comes_X14_ends : GoodIn wsX14_comes (wsV RX14 290 RX14 yX14_ends wsX14_ends) := goodIn_app (goodIn_of _ (by decide +kernel)) ggX14_comes_X14_ends
theorem dX14_comes_0 : decode cX14_comes 0 = .ok (.aload_n 0, 1) := by decide +kernel
theorem dX14_comes_1 : decode cX14_comes 1 = .ok (.getfield 18, 3) := by decide +kernel
theorem dX14_comes_4 : decode cX14_comes 4 = .ok (.iload_n 1, 1) := by decide +kernel
theorem dX14_comes_5 : decode cX14_comes 5 = .ok (.aaload, 1) := by decide +kernel
theorem dX14_comes_6 : decode cX14_comes 6 = .ok (.astore 5, 2) := by decide +kernel
theorem dX14_comes_8 : decode cX14_comes 8 = .ok (.iload 4, 2) := by decide +kernel
theorem dX14_comes_10 : decode cX14_comes 10 = .ok (.lookupswitch 59 #[(98, 42), (99, 34), (115, 53)], 34) := by decide +kernel
theorem dX14_comes_44 : decode cX14_comes 44 = .ok (.aload_n 0, 1) := by decide +kernel
theorem dX14_comes_45 : decode cX14_comes 45 = .ok (.iload_n 1, 1) := by decide +kernel
theorem dX14_comes_46 : decode cX14_comes 46 = .ok (.iload 4, 2) := by decide +kernel
theorem dX14_comes_48 : decode cX14_comes 48 = .ok (.invokevirtual 384, 3) := by decide +kernel
theorem dX14_comes_51 : decode cX14_comes 51 = .ok (.ireturn, 1) := by decide +kernel
theorem dX14_comes_52 : decode cX14_comes 52 = .ok (.aload_n 0, 1) := by decide +kernel
theorem dX14_comes_53 : decode cX14_comes 53 = .ok (.aload 5, 2) := by decide +kernel
theorem dX14_comes_55 : decode cX14_comes 55 = .ok (.getfield 133, 3) := by decide +kernel
theorem dX14_comes_58 : decode cX14_comes 58 = .ok (.invokevirtual 362, 3) := by decide +kernel
theorem dX14_comes_61 : decode cX14_comes 61 = .ok (.iconst 2, 1) := by decide +kernel
theorem dX14_comes_62 : decode cX14_comes 62 = .ok (.ireturn, 1) := by decide +kernel
theorem dX14_comes_63 : decode cX14_comes 63 = .ok (.aload_n 0, 1) := by decide +kernel
theorem dX14_comes_64 : decode cX14_comes 64 = .ok (.iload_n 1, 1) := by decide +kernel
theorem dX14_comes_65 : decode cX14_comes 65 = .ok (.invokevirtual 387, 3) := by decide +kernel
theorem dX14_comes_68 : decode cX14_comes 68 = .ok (.ireturn, 1) := by decide +kernel
theorem dX14_comes_69 : decode cX14_comes 69 = .ok (.iload 4, 2) := by decide +kernel
theorem dX14_comes_71 : decode cX14_comes 71 = .ok (.bipush 110, 2) := by decide +kernel
theorem dX14_comes_73 : decode cX14_comes 73 = .ok (.if_icmp .eq 7, 3) := by decide +kernel
theorem dX14_comes_76 : decode cX14_comes 76 = .ok (.iload_n 3, 1) := by decide +kernel
theorem dX14_comes_77 : decode cX14_comes 77 = .ok (.ifCond .ne 8, 3) := by decide +kernel
theorem dX14_comes_80 : decode cX14_comes 80 = .ok (.aload_n 0, 1) := by decide +kernel
theorem dX14_comes_81 : decode cX14_comes 81 = .ok (.invokevirtual 390, 3) := by decide +kernel
theorem dX14_comes_84 : decode cX14_comes 84 = .ok (.ireturn, 1) := by decide +kernel
theorem dX14_comes_85 : decode cX14_comes 85 = .ok (.aload_n 0, 1) := by decide +kernel
theorem dX14_comes_86 : decode cX14_comes 86 = .ok (.dup, 1) := by decide +kernel
theorem dX14_comes_87 : decode cX14_comes 87 = .ok (.getfield 366, 3) := by decide +kernel
theorem dX14_comes_90 : decode cX14_comes 90 = .ok (.iconst 1, 1) := by decide +kernel
theorem dX14_comes_91 : decode cX14_comes 91 = .ok (.iadd, 1) := by decide +kernel
theorem dX14_comes_92 : decode cX14_comes 92 = .ok (.putfield 366, 3) := by decide +kernel
theorem dX14_comes_95 : decode cX14_comes 95 = .ok (.iload 4, 2) := by decide +kernel
theorem dX14_comes_97 : decode cX14_comes 97 = .ok (.bipush 116, 2) := by decide +kernel
theorem dX14_comes_99 : decode cX14_comes 99 = .ok (.if_icmp .ne 41, 3) := by decide +kernel
theorem dX14_comes_102 : decode cX14_comes 102 = .ok (.aload_n 0, 1) := by decide +kernel
theorem dX14_comes_103 : decode cX14_comes 103 = .ok (.aload_n 2, 1) := by decide +kernel
theorem dX14_comes_104 : decode cX14_comes 104 = .ok (.iload_n 3, 1) := by decide +kernel
theorem dX14_comes_105 : decode cX14_comes 105 = .ok (.invokevirtual 393, 3) := by decide +kernel
theorem dX14_comes_108 : decode cX14_comes 108 = .ok (.aload_n 0, 1) := by decide +kernel
theorem dX14_comes_109 : decode cX14_comes 109 = .ok (.getfield 10, 3) := by decide +kernel
theorem dX14_comes_112 : decode cX14_comes 112 = .ok (.aload 5, 2) := by decide +kernel
theorem dX14_comes_114 : decode cX14_comes 114 = .ok (.getfield 133, 3) := by decide +kernel
theorem dX14_comes_117 : decode cX14_comes 117 = .ok (.invokevirtual 76, 3) := by decide +kernel
theorem dX14_comes_120 : decode cX14_comes 120 = .ok (.checkcast 48, 3) := by decide +kernel
theorem dX14_comes_123 : decode cX14_comes 123 = .ok (.dup, 1) := by decide +kernel
theorem dX14_comes_124 : decode cX14_comes 124 = .ok (.getfield 180, 3) := by decide +kernel
theorem dX14_comes_127 : decode cX14_comes 127 = .ok (.iconst 1, 1) := by decide +kernel
theorem dX14_comes_128 : decode cX14_comes 128 = .ok (.iadd, 1) := by decide +kernel
theorem dX14_comes_129 : decode cX14_comes 129 = .ok (.putfield 180, 3) := by decide +kernel
theorem dX14_comes_132 : decode cX14_comes 132 = .ok (.aload 5, 2) := by decide +kernel
theorem dX14_comes_134 : decode cX14_comes 134 = .ok (.iconst 0, 1) := by decide +kernel
theorem dX14_comes_135 : decode cX14_comes 135 = .ok (.putfield 316, 3) := by decide +kernel
theorem dX14_comes_138 : decode cX14_comes 138 = .ok (.iconst 1, 1) := by decide +kernel
theorem dX14_comes_139 : decode cX14_comes 139 = .ok (.ireturn, 1) := by decide +kernel
theorem dX14_comes_140 : decode cX14_comes 140 = .ok (.iload 4, 2) := by decide +kernel
theorem dX14_comes_142 : decode cX14_comes 142 = .ok (.bipush 100, 2) := by decide +kernel
theorem dX14_comes_144 : decode cX14_comes 144 = .ok (.if_icmp .ne 16, 3) := by decide +kernel
theorem dX14_comes_147 : decode cX14_comes 147 = .ok (.aload_n 2, 1) := by decide +kernel
theorem dX14_comes_148 : decode cX14_comes 148 = .ok (.iload_n 3, 1) := by decide +kernel
theorem dX14_comes_149 : decode cX14_comes 149 = .ok (.putfield 269, 3) := by decide +kernel
theorem dX14_comes_152 : decode cX14_comes 152 = .ok (.aload_n 0, 1) := by decide +kernel
theorem dX14_comes_153 : decode cX14_comes 153 = .ok (.iload_n 1, 1) := by decide +kernel
theorem dX14_comes_154 : decode cX14_comes 154 = .ok (.iload 4, 2) := by decide +kernel
theorem dX14_comes_156 : decode cX14_comes 156 = .ok (.invokevirtual 384, 3) := by decide +kernel
theorem dX14_comes_159 : decode cX14_comes 159 = .ok (.ireturn, 1) := by decide +kernel
theorem dX14_comes_160 : decode cX14_comes 160 = .ok (.aload_n 2, 1) := by decide +kernel
theorem dX14_comes_161 : decode cX14_comes 161 = .ok (.getfield 266, 3) := by decide +kernel
theorem dX14_comes_164 : decode cX14_comes 164 = .ok (.aload 5, 2) := by decide +kernel
theorem dX14_comes_166 : decode cX14_comes 166 = .ok (.getfield 319, 3) := by decide +kernel
theorem dX14_comes_169 : decode cX14_comes 169 = .ok (.if_icmp .ne 7, 3) := by decide +kernel
theorem dX14_comes_172 : decode cX14_comes 172 = .ok (.iconst 1, 1) := by decide +kernel
theorem dX14_comes_173 : decode cX14_comes 173 = .ok (.goto 4, 3) := by decide +kernel
theorem dX14_comes_176 : decode cX14_comes 176 = .ok (.iconst 0, 1) := by decide +kernel
theorem dX14_comes_177 : decode cX14_comes 177 = .ok (.istore 6, 2) := by decide +kernel
theorem dX14_comes_179 : decode cX14_comes 179 = .ok (.aload 5, 2) := by decide +kernel
theorem dX14_comes_181 : decode cX14_comes 181 = .ok (.iconst 0, 1) := by decide +kernel
theorem dX14_comes_182 : decode cX14_comes 182 = .ok (.putfield 316, 3) := by decide +kernel
theorem dX14_comes_185 : decode cX14_comes 185 = .ok (.iload 6, 2) := by decide +kernel
theorem dX14_comes_187 : decode cX14_comes 187 = .ok (.ifCond .eq 75, 3) := by decide +kernel
theorem dX14_comes_190 : decode cX14_comes 190 = .ok (.aload 5, 2) := by decide +kernel
theorem dX14_comes_192 : decode cX14_comes 192 = .ok (.getfield 199, 3) := by decide +kernel
theorem dX14_comes_195 : decode cX14_comes 195 = .ok (.iconst 0, 1) := by decide +kernel
theorem dX14_comes_196 : decode cX14_comes 196 = .ok (.invokevirtual 76, 3) := by decide +kernel
theorem dX14_comes_199 : decode cX14_comes 199 = .ok (.checkcast 275, 3) := by decide +kernel
theorem dX14_comes_202 : decode cX14_comes 202 = .ok (.astore 7, 2) := by decide +kernel
theorem dX14_comes_204 : decode cX14_comes 204 = .ok (.iconst 0, 1) := by decide +kernel
theorem dX14_comes_205 : decode cX14_comes 205 = .ok (.istore 8, 2) := by decide +kernel
theorem dX14_comes_207 : decode cX14_comes 207 = .ok (.iload 8, 2) := by decide +kernel
theorem dX14_comes_209 : decode cX14_comes 209 = .ok (.iload_n 3, 1) := by decide +kernel
theorem dX14_comes_210 : decode cX14_comes 210 = .ok (.if_icmp .ge 29, 3) := by decide +kernel
theorem dX14_comes_213 : decode cX14_comes 213 = .ok (.aload_n 0, 1) := by decide +kernel
theorem dX14_comes_214 : decode cX14_comes 214 = .ok (.getfield 35, 3) := by decide +kernel
theorem dX14_comes_217 : decode cX14_comes 217 = .ok (.aload_n 2, 1) := by decide +kernel
theorem dX14_comes_218 : decode cX14_comes 218 = .ok (.getfield 320, 3) := by decide +kernel
theorem dX14_comes_221 : decode cX14_comes 221 = .ok (.iload 8, 2) := by decide +kernel
theorem dX14_comes_223 : decode cX14_comes 223 = .ok (.invokevirtual 76, 3) := by decide +kernel
theorem dX14_comes_226 : decode cX14_comes 226 = .ok (.checkcast 213, 3) := by decide +kernel
theorem dX14_comes_229 : decode cX14_comes 229 = .ok (.invokevirtual 57, 3) := by decide +kernel
theorem dX14_comes_232 : decode cX14_comes 232 = .ok (.pop, 1) := by decide +kernel
theorem dX14_comes_233 : decode cX14_comes 233 = .ok (.iinc 8 1, 3) := by decide +kernel
theorem dX14_comes_236 : decode cX14_comes 236 = .ok (.goto (-29), 3) := by decide +kernel
theorem dX14_comes_239 : decode cX14_comes 239 = .ok (.aload 5, 2) := by decide +kernel
theorem dX14_comes_241 : decode cX14_comes 241 = .ok (.iconst 1, 1) := by decide +kernel
theorem dX14_comes_242 : decode cX14_comes 242 = .ok (.aload 5, 2) := by decide +kernel
theorem dX14_comes_244 : decode cX14_comes 244 = .ok (.getfield 319, 3) := by decide +kernel
theorem dX14_comes_247 : decode cX14_comes 247 = .ok (.isub, 1) := by decide +kernel
theorem dX14_comes_248 : decode cX14_comes 248 = .ok (.putfield 319, 3) := by decide +kernel
theorem dX14_comes_251 : decode cX14_comes 251 = .ok (.aload 7, 2) := by decide +kernel
theorem dX14_comes_253 : decode cX14_comes 253 = .ok (.dup, 1) := by decide +kernel
theorem dX14_comes_254 : decode cX14_comes 254 = .ok (.getfield 284, 3) := by decide +kernel
theorem dX14_comes_257 : decode cX14_comes 257 = .ok (.iload_n 3, 1) := by decide +kernel
theorem dX14_comes_258 : decode cX14_comes 258 = .ok (.iadd, 1) := by decide +kernel
theorem dX14_comes_259 : decode cX14_comes 259 = .ok (.putfield 284, 3) := by decide +kernel
theorem dX14_comes_262 : decode cX14_comes 262 = .ok (.iload 4, 2) := by decide +kernel
theorem dX14_comes_264 : decode cX14_comes 264 = .ok (.bipush 97, 2) := by decide +kernel
theorem dX14_comes_266 : decode cX14_comes 266 = .ok (.if_icmp .ne 11, 3) := by decide +kernel
theorem dX14_comes_269 : decode cX14_comes 269 = .ok (.aload_n 2, 1) := by decide +kernel
theorem dX14_comes_270 : decode cX14_comes 270 = .ok (.iload_n 3, 1) := by decide +kernel
theorem dX14_comes_271 : decode cX14_comes 271 = .ok (.putfield 269, 3) := by decide +kernel
theorem dX14_comes_274 : decode cX14_comes 274 = .ok (.goto 19, 3) := by decide +kernel
theorem dX14_comes_277 : decode cX14_comes 277 = .ok (.aload_n 0, 1) := by decide +kernel
theorem dX14_comes_278 : decode cX14_comes 278 = .ok (.aload_n 2, 1) := by decide +kernel
theorem dX14_comes_279 : decode cX14_comes 279 = .ok (.iload_n 3, 1) := by decide +kernel
theorem dX14_comes_280 : decode cX14_comes 280 = .ok (.invokevirtual 393, 3) := by decide +kernel
theorem dX14_comes_283 : decode cX14_comes 283 = .ok (.aload_n 2, 1) := by decide +kernel
theorem dX14_comes_284 : decode cX14_comes 284 = .ok (.iconst 1, 1) := by decide +kernel
theorem dX14_comes_285 : decode cX14_comes 285 = .ok (.aload_n 2, 1) := by decide +kernel
theorem dX14_comes_286 : decode cX14_comes 286 = .ok (.getfield 266, 3) := by decide +kernel
theorem dX14_comes_289 : decode cX14_comes 289 = .ok (.isub, 1) := by decide +kernel
theorem dX14_comes_290 : decode cX14_comes 290 = .ok (.putfield 266, 3) := by decide +kernel
theorem dX14_comes_293 : decode cX14_comes 293 = .ok (.iload 6, 2) := by decide +kernel
theorem dX14_comes_295 : decode cX14_comes 295 = .ok (.ifCond .eq 55, 3) := by decide +kernel
theorem dX14_comes_298 : decode cX14_comes 298 = .ok (.aload 5, 2) := by decide +kernel
theorem dX14_comes_300 : decode cX14_comes 300 = .ok (.getfield 199, 3) := by decide +kernel
