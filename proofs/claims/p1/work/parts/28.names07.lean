theorem dX14_comes_303 : decode cX14_comes 303 = .ok (.iconst 0, 1) := by decide +kernel
theorem dX14_comes_304 : decode cX14_comes 304 = .ok (.invokevirtual 76, 3) := by decide +kernel
theorem dX14_comes_307 : decode cX14_comes 307 = .ok (.checkcast 275, 3) := by decide +kernel
theorem dX14_comes_310 : decode cX14_comes 310 = .ok (.astore 7, 2) := by decide +kernel
theorem dX14_comes_312 : decode cX14_comes 312 = .ok (.aload 7, 2) := by decide +kernel
theorem dX14_comes_314 : decode cX14_comes 314 = .ok (.getfield 284, 3) := by decide +kernel
theorem dX14_comes_317 : decode cX14_comes 317 = .ok (.aload 7, 2) := by decide +kernel
theorem dX14_comes_319 : decode cX14_comes 319 = .ok (.getfield 338, 3) := by decide +kernel
theorem dX14_comes_322 : decode cX14_comes 322 = .ok (.if_icmp .lt 13, 3) := by decide +kernel
theorem dX14_comes_325 : decode cX14_comes 325 = .ok (.aload_n 0, 1) := by decide +kernel
theorem dX14_comes_326 : decode cX14_comes 326 = .ok (.iload_n 1, 1) := by decide +kernel
theorem dX14_comes_327 : decode cX14_comes 327 = .ok (.bipush 100, 2) := by decide +kernel
theorem dX14_comes_329 : decode cX14_comes 329 = .ok (.invokevirtual 290, 3) := by decide +kernel
theorem dX14_comes_332 : decode cX14_comes 332 = .ok (.goto 18, 3) := by decide +kernel
theorem dX14_comes_335 : decode cX14_comes 335 = .ok (.iload_n 3, 1) := by decide +kernel
theorem dX14_comes_336 : decode cX14_comes 336 = .ok (.aload_n 2, 1) := by decide +kernel
theorem dX14_comes_337 : decode cX14_comes 337 = .ok (.getfield 238, 3) := by decide +kernel
theorem dX14_comes_340 : decode cX14_comes 340 = .ok (.if_icmp .ge 10, 3) := by decide +kernel
theorem dX14_comes_343 : decode cX14_comes 343 = .ok (.aload_n 0, 1) := by decide +kernel
theorem dX14_comes_344 : decode cX14_comes 344 = .ok (.iload_n 1, 1) := by decide +kernel
theorem dX14_comes_345 : decode cX14_comes 345 = .ok (.bipush 104, 2) := by decide +kernel
theorem dX14_comes_347 : decode cX14_comes 347 = .ok (.invokevirtual 290, 3) := by decide +kernel
theorem dX14_comes_350 : decode cX14_comes 350 = .ok (.iconst 1, 1) := by decide +kernel
theorem dX14_comes_351 : decode cX14_comes 351 = .ok (.ireturn, 1) := by decide +kernel
set_option maxRecDepth 20000 in
theorem ggX14_goes_Jx4a65c_get_915e3 : GoodIn wsX14_goes wsJx4a65c_get_915e3 := goodIn_r _ [9, 10, 11, 12, 13, 14, 15, 16, 17, 18, 19, 20, 21, 8, 22, 23, 174, 175, 176] (by decide +kernel) (by decide +kernel)
set_option maxRecDepth 20000 in
theorem gX14_goes_Jx4a65c_get_915e3 : GoodIn wsX14_goes (wsV RX14 76 RJx4a65c yJx4a65c_get_915e3 wsJx4a65c_get_915e3) := goodIn_app (goodIn_of _ (by decide +kernel)) ggX14_goes_Jx4a65c_get_915e3
set_option maxRecDepth 20000 in
theorem ggX14_goes_X14_fails : GoodIn wsX14_goes wsX14_fails := goodIn_ca (goodIn_r _ [28, 1, 29, 30, 31, 27, 32, 33, 34, 35, 36, 2, 37, 38, 39, 40, 41, 42, 43, 44, 8, 45, 10, 23, 11, 12, 13, 14, 15, 16, 17, 18, 46, 47, 48, 49, 50, 51, 52, 53, 54, 55, 56, 57, 58, 59, 60, 61, 62, 63, 64, 65, 66, 67, 68, 69, 70, 71, 72, 73, 74, 75, 76, 77, 78, 79, 80, 81, 82, 83, 84, 85, 86, 87, 88, 89, 90, 91, 92, 93, 94, 95, 96, 97, 98, 99, 100, 101, 102, 103, 104, 105, 106, 107, 135, 136, 137, 138, 139, 140, 141, 142, 143, 144, 145, 146, 147, 148, 149, 150, 151, 152, 153, 154, 155, 156, 157, 158, 159, 160, 161, 162, 163, 169, 170, 171, 172, 173, 174, 175, 176] (by decide +kernel) (by decide +kernel)) (goodIn_sub (fun _ h => List.mem_cons_of_mem _ (List.mem_append_right _ h)) (by decide +kernel))
set_option maxRecDepth 20000 in
theorem gX14_goes_X14_fails : GoodIn wsX14_goes (wsV RX14 384 RX14 yX14_fails wsX14_fails) := goodIn_app (goodIn_of _ (by decide +kernel)) ggX14_goes_X14_fails
set_option maxRecDepth 20000 in
theorem ggX14_goes_X14_notYet : GoodIn wsX14_goes wsX14_notYet := goodIn_r _ [111, 4, 135, 136, 137, 138, 139, 140, 141, 142, 143, 144, 145, 146, 147, 148, 149, 150, 151, 152, 153] (by decide +kernel) (by decide +kernel)
set_option maxRecDepth 20000 in
theorem gX14_goes_X14_notYet : GoodIn wsX14_goes (wsV RX14 390 RX14 yX14_notYet wsX14_notYet) := goodIn_app (goodIn_of _ (by decide +kernel)) ggX14_goes_X14_notYet
set_option maxRecDepth 20000 in
theorem ggX14_goes_X14_stalls : GoodIn wsX14_goes wsX14_stalls := goodIn_ca (goodIn_r _ [115, 4, 29, 30, 31, 27, 32, 1, 33, 34, 35, 36, 2, 37, 38, 39, 40, 41, 42, 43, 44, 8, 45, 10, 23, 11, 12, 13, 14, 15, 16, 17, 18, 46, 47, 48, 49, 50, 51, 52, 53, 54, 55, 56, 57, 58, 59, 60, 61, 62, 63, 64, 65, 66, 67, 68, 69, 70, 71, 72, 73, 74, 75, 76, 77, 78, 79, 80, 81, 82, 83, 84, 85, 86, 87, 88, 89, 90, 91, 92, 93, 94, 95, 96, 97, 98, 99, 100, 101, 102, 103, 104, 105, 106, 107, 135, 136, 137, 138, 139, 140, 141, 142, 143, 144, 145, 146, 147, 148, 149, 150, 151, 152, 153, 154, 155, 156, 157, 158, 159, 160, 161, 162, 163, 169, 170, 171, 172, 173, 174, 175, 176] (by decide +kernel) (by decide +kernel)) (goodIn_sub (fun _ h => List.mem_cons_of_mem _ (List.mem_append_right _ h)) (by decide +kernel))
set_option maxRecDepth 20000 in
theorem gX14_goes_X14_stalls : GoodIn wsX14_goes (wsV RX14 387 RX14 yX14_stalls wsX14_stalls) := goodIn_app (goodIn_of _ (by decide +kernel)) ggX14_goes_X14_stalls
set_option maxRecDepth 20000 in
theorem ggX14_goes_J6_valueOf_2dffe : GoodIn wsX14_goes wsJ6_valueOf_2dffe := goodIn_r _ [119, 120, 121, 122, 123, 118, 124, 125, 126, 127, 128, 129, 130, 131, 132, 133, 134, 177] (by decide +kernel) (by decide +kernel)
set_option maxRecDepth 20000 in
theorem gX14_goes_J6_valueOf_2dffe : GoodIn wsX14_goes (va_wsS RX14 212 yJ6_valueOf_2dffe wsJ6_valueOf_2dffe) := goodIn_app (goodIn_of _ (by decide +kernel)) ggX14_goes_J6_valueOf_2dffe
set_option maxRecDepth 20000 in
theorem ggX14_goes_Jx4a65c_add_9ea2d : GoodIn wsX14_goes wsJx4a65c_add_9ea2d := goodIn_r _ [63, 50, 51, 23, 10, 64, 65, 66, 8, 67, 68, 69, 70, 71, 72, 73, 74, 75, 76, 77, 78, 79, 80, 81, 82, 83, 84, 85, 86, 87, 88, 89, 90, 91, 92, 93, 94, 95, 96, 97, 98, 99, 100, 101, 102, 103, 104, 105, 106, 107, 53, 54, 55, 174, 175, 176] (by decide +kernel) (by decide +kernel)
set_option maxRecDepth 20000 in
theorem gX14_goes_Jx4a65c_add_9ea2d : GoodIn wsX14_goes (wsV RX14 57 RJx4a65c yJx4a65c_add_9ea2d wsJx4a65c_add_9ea2d) := goodIn_app (goodIn_of _ (by decide +kernel)) ggX14_goes_Jx4a65c_add_9ea2d
set_option maxRecDepth 20000 in
theorem ggX14_goes_X14_ends : GoodIn wsX14_goes wsX14_ends := goodIn_ca (goodIn_r _ [36, 1, 2, 37, 38, 39, 40, 41, 42, 43, 44, 8, 45, 10, 23, 11, 12, 13, 14, 15, 16, 17, 18, 46, 47, 48, 49, 50, 51, 52, 53, 54, 55, 56, 57, 58, 59, 60, 61, 62, 63, 64, 65, 66, 67, 68, 69, 70, 71, 72, 73, 74, 75, 76, 77, 78, 79, 80, 81, 82, 83, 84, 85, 86, 87, 88, 89, 90, 91, 92, 93, 94, 95, 96, 97, 98, 99, 100, 101, 102, 103, 104, 105, 106, 107, 135, 136, 137, 138, 139, 140, 141, 142, 143, 144, 145, 146, 147, 148, 149, 150, 151, 152, 153, 154, 155, 156, 157, 158, 159, 160, 161, 162, 163, 169, 170, 171, 172, 173, 174, 175, 176] (by decide +kernel) (by decide +kernel)) (goodIn_sub (fun _ h => List.mem_cons_of_mem _ (List.mem_append_right _ h)) (by decide +kernel))
set_option maxRecDepth 20000 in
theorem gX14_goes_X14_ends : GoodIn wsX14_goes (wsV RX14 290 RX14 yX14_ends wsX14_ends) := goodIn_app (goodIn_of _ (by decide +kernel)) ggX14_goes_X14_ends
theorem dX14_goes_0 : decode cX14_goes 0 = .ok (.aload_n 0, 1) := by decide +kernel
theorem dX14_goes_1 : decode cX14_goes 1 = .ok (.getfield 18, 3) := by decide +kernel
theorem dX14_goes_4 : decode cX14_goes 4 = .ok (.iload_n 1, 1) := by decide +kernel
theorem dX14_goes_5 : decode cX14_goes 5 = .ok (.aaload, 1) := by decide +kernel
theorem dX14_goes_6 : decode cX14_goes 6 = .ok (.astore 5, 2) := by decide +kernel
theorem dX14_goes_8 : decode cX14_goes 8 = .ok (.aload 5, 2) := by decide +kernel
theorem dX14_goes_10 : decode cX14_goes 10 = .ok (.getfield 199, 3) := by decide +kernel
theorem dX14_goes_13 : decode cX14_goes 13 = .ok (.iconst 0, 1) := by decide +kernel
theorem dX14_goes_14 : decode cX14_goes 14 = .ok (.invokevirtual 76, 3) := by decide +kernel
theorem dX14_goes_17 : decode cX14_goes 17 = .ok (.checkcast 275, 3) := by decide +kernel
theorem dX14_goes_20 : decode cX14_goes 20 = .ok (.astore 6, 2) := by decide +kernel
theorem dX14_goes_22 : decode cX14_goes 22 = .ok (.iload 4, 2) := by decide +kernel
theorem dX14_goes_24 : decode cX14_goes 24 = .ok (.lookupswitch 71 #[(98, 52), (99, 52), (110, 60), (115, 65), (116, 52)], 52) := by decide +kernel
theorem dX14_goes_76 : decode cX14_goes 76 = .ok (.aload_n 0, 1) := by decide +kernel
theorem dX14_goes_77 : decode cX14_goes 77 = .ok (.iload_n 1, 1) := by decide +kernel
theorem dX14_goes_78 : decode cX14_goes 78 = .ok (.iload 4, 2) := by decide +kernel
theorem dX14_goes_80 : decode cX14_goes 80 = .ok (.invokevirtual 384, 3) := by decide +kernel
theorem dX14_goes_83 : decode cX14_goes 83 = .ok (.ireturn, 1) := by decide +kernel
theorem dX14_goes_84 : decode cX14_goes 84 = .ok (.aload_n 0, 1) := by decide +kernel
theorem dX14_goes_85 : decode cX14_goes 85 = .ok (.invokevirtual 390, 3) := by decide +kernel
theorem dX14_goes_88 : decode cX14_goes 88 = .ok (.ireturn, 1) := by decide +kernel
theorem dX14_goes_89 : decode cX14_goes 89 = .ok (.aload_n 0, 1) := by decide +kernel
theorem dX14_goes_90 : decode cX14_goes 90 = .ok (.iload_n 1, 1) := by decide +kernel
theorem dX14_goes_91 : decode cX14_goes 91 = .ok (.invokevirtual 387, 3) := by decide +kernel
theorem dX14_goes_94 : decode cX14_goes 94 = .ok (.ireturn, 1) := by decide +kernel
theorem dX14_goes_95 : decode cX14_goes 95 = .ok (.aload_n 0, 1) := by decide +kernel
theorem dX14_goes_96 : decode cX14_goes 96 = .ok (.dup, 1) := by decide +kernel
theorem dX14_goes_97 : decode cX14_goes 97 = .ok (.getfield 366, 3) := by decide +kernel
theorem dX14_goes_100 : decode cX14_goes 100 = .ok (.iconst 1, 1) := by decide +kernel
theorem dX14_goes_101 : decode cX14_goes 101 = .ok (.iadd, 1) := by decide +kernel
theorem dX14_goes_102 : decode cX14_goes 102 = .ok (.putfield 366, 3) := by decide +kernel
theorem dX14_goes_105 : decode cX14_goes 105 = .ok (.aload_n 2, 1) := by decide +kernel
theorem dX14_goes_106 : decode cX14_goes 106 = .ok (.getfield 266, 3) := by decide +kernel
theorem dX14_goes_109 : decode cX14_goes 109 = .ok (.aload 5, 2) := by decide +kernel
theorem dX14_goes_111 : decode cX14_goes 111 = .ok (.getfield 319, 3) := by decide +kernel
theorem dX14_goes_114 : decode cX14_goes 114 = .ok (.if_icmp .ne 53, 3) := by decide +kernel
theorem dX14_goes_117 : decode cX14_goes 117 = .ok (.iconst 0, 1) := by decide +kernel
theorem dX14_goes_118 : decode cX14_goes 118 = .ok (.istore 7, 2) := by decide +kernel
theorem dX14_goes_120 : decode cX14_goes 120 = .ok (.iload 7, 2) := by decide +kernel
theorem dX14_goes_122 : decode cX14_goes 122 = .ok (.iload_n 3, 1) := by decide +kernel
theorem dX14_goes_123 : decode cX14_goes 123 = .ok (.if_icmp .ge 34, 3) := by decide +kernel
theorem dX14_goes_126 : decode cX14_goes 126 = .ok (.aload_n 2, 1) := by decide +kernel
theorem dX14_goes_127 : decode cX14_goes 127 = .ok (.getfield 320, 3) := by decide +kernel
theorem dX14_goes_130 : decode cX14_goes 130 = .ok (.aload 6, 2) := by decide +kernel
theorem dX14_goes_132 : decode cX14_goes 132 = .ok (.getfield 369, 3) := by decide +kernel
theorem dX14_goes_135 : decode cX14_goes 135 = .ok (.aload 6, 2) := by decide +kernel
theorem dX14_goes_137 : decode cX14_goes 137 = .ok (.getfield 284, 3) := by decide +kernel
theorem dX14_goes_140 : decode cX14_goes 140 = .ok (.iload 7, 2) := by decide +kernel
theorem dX14_goes_142 : decode cX14_goes 142 = .ok (.iadd, 1) := by decide +kernel
theorem dX14_goes_143 : decode cX14_goes 143 = .ok (.iaload, 1) := by decide +kernel
theorem dX14_goes_144 : decode cX14_goes 144 = .ok (.invokestatic 212, 3) := by decide +kernel
theorem dX14_goes_147 : decode cX14_goes 147 = .ok (.invokevirtual 57, 3) := by decide +kernel
theorem dX14_goes_150 : decode cX14_goes 150 = .ok (.pop, 1) := by decide +kernel
theorem dX14_goes_151 : decode cX14_goes 151 = .ok (.iinc 7 1, 3) := by decide +kernel
theorem dX14_goes_154 : decode cX14_goes 154 = .ok (.goto (-34), 3) := by decide +kernel
theorem dX14_goes_157 : decode cX14_goes 157 = .ok (.aload_n 2, 1) := by decide +kernel
theorem dX14_goes_158 : decode cX14_goes 158 = .ok (.iconst 1, 1) := by decide +kernel
theorem dX14_goes_159 : decode cX14_goes 159 = .ok (.aload_n 2, 1) := by decide +kernel
theorem dX14_goes_160 : decode cX14_goes 160 = .ok (.getfield 266, 3) := by decide +kernel
theorem dX14_goes_163 : decode cX14_goes 163 = .ok (.isub, 1) := by decide +kernel
theorem dX14_goes_164 : decode cX14_goes 164 = .ok (.putfield 266, 3) := by decide +kernel
theorem dX14_goes_167 : decode cX14_goes 167 = .ok (.iload 4, 2) := by decide +kernel
theorem dX14_goes_169 : decode cX14_goes 169 = .ok (.bipush 32, 2) := by decide +kernel
theorem dX14_goes_171 : decode cX14_goes 171 = .ok (.if_icmp .eq 11, 3) := by decide +kernel
theorem dX14_goes_174 : decode cX14_goes 174 = .ok (.aload_n 0, 1) := by decide +kernel
theorem dX14_goes_175 : decode cX14_goes 175 = .ok (.iload_n 1, 1) := by decide +kernel
theorem dX14_goes_176 : decode cX14_goes 176 = .ok (.iload 4, 2) := by decide +kernel
theorem dX14_goes_178 : decode cX14_goes 178 = .ok (.invokevirtual 384, 3) := by decide +kernel
theorem dX14_goes_181 : decode cX14_goes 181 = .ok (.ireturn, 1) := by decide +kernel
theorem dX14_goes_182 : decode cX14_goes 182 = .ok (.aload_n 0, 1) := by decide +kernel
theorem dX14_goes_183 : decode cX14_goes 183 = .ok (.dup, 1) := by decide +kernel
theorem dX14_goes_184 : decode cX14_goes 184 = .ok (.getfield 381, 3) := by decide +kernel
theorem dX14_goes_187 : decode cX14_goes 187 = .ok (.iconst 1, 1) := by decide +kernel
theorem dX14_goes_188 : decode cX14_goes 188 = .ok (.iadd, 1) := by decide +kernel
theorem dX14_goes_189 : decode cX14_goes 189 = .ok (.putfield 381, 3) := by decide +kernel
theorem dX14_goes_192 : decode cX14_goes 192 = .ok (.aload 5, 2) := by decide +kernel
theorem dX14_goes_194 : decode cX14_goes 194 = .ok (.iconst 0, 1) := by decide +kernel
theorem dX14_goes_195 : decode cX14_goes 195 = .ok (.putfield 316, 3) := by decide +kernel
theorem dX14_goes_198 : decode cX14_goes 198 = .ok (.aload 5, 2) := by decide +kernel
theorem dX14_goes_200 : decode cX14_goes 200 = .ok (.iconst 1, 1) := by decide +kernel
theorem dX14_goes_201 : decode cX14_goes 201 = .ok (.aload 5, 2) := by decide +kernel
theorem dX14_goes_203 : decode cX14_goes 203 = .ok (.getfield 319, 3) := by decide +kernel
theorem dX14_goes_206 : decode cX14_goes 206 = .ok (.isub, 1) := by decide +kernel
theorem dX14_goes_207 : decode cX14_goes 207 = .ok (.putfield 319, 3) := by decide +kernel
theorem dX14_goes_210 : decode cX14_goes 210 = .ok (.aload 6, 2) := by decide +kernel
theorem dX14_goes_212 : decode cX14_goes 212 = .ok (.dup, 1) := by decide +kernel
theorem dX14_goes_213 : decode cX14_goes 213 = .ok (.getfield 284, 3) := by decide +kernel
theorem dX14_goes_216 : decode cX14_goes 216 = .ok (.iload_n 3, 1) := by decide +kernel
theorem dX14_goes_217 : decode cX14_goes 217 = .ok (.iadd, 1) := by decide +kernel
theorem dX14_goes_218 : decode cX14_goes 218 = .ok (.putfield 284, 3) := by decide +kernel
theorem dX14_goes_221 : decode cX14_goes 221 = .ok (.aload 6, 2) := by decide +kernel
theorem dX14_goes_223 : decode cX14_goes 223 = .ok (.getfield 284, 3) := by decide +kernel
theorem dX14_goes_226 : decode cX14_goes 226 = .ok (.aload 6, 2) := by decide +kernel
theorem dX14_goes_228 : decode cX14_goes 228 = .ok (.getfield 338, 3) := by decide +kernel
theorem dX14_goes_231 : decode cX14_goes 231 = .ok (.if_icmp .ne 10, 3) := by decide +kernel
theorem dX14_goes_234 : decode cX14_goes 234 = .ok (.aload_n 0, 1) := by decide +kernel
theorem dX14_goes_235 : decode cX14_goes 235 = .ok (.iload_n 1, 1) := by decide +kernel
theorem dX14_goes_236 : decode cX14_goes 236 = .ok (.bipush 100, 2) := by decide +kernel
theorem dX14_goes_238 : decode cX14_goes 238 = .ok (.invokevirtual 290, 3) := by decide +kernel
theorem dX14_goes_241 : decode cX14_goes 241 = .ok (.iconst 1, 1) := by decide +kernel
theorem dX14_goes_242 : decode cX14_goes 242 = .ok (.ireturn, 1) := by decide +kernel
set_option maxRecDepth 20000 in
theorem ggX14_frame_Jx4a65c_size_8abf5 : GoodIn wsX14_frame wsJx4a65c_size_8abf5 := goodIn_r _ [12, 13, 279, 280, 281] (by decide +kernel) (by decide +kernel)
set_option maxRecDepth 20000 in
theorem gX14_frame_Jx4a65c_size_8abf5 : GoodIn wsX14_frame (wsV RX14 64 RJx4a65c yJx4a65c_size_8abf5 wsJx4a65c_size_8abf5) := goodIn_app (goodIn_of _ (by decide +kernel)) ggX14_frame_Jx4a65c_size_8abf5
set_option maxRecDepth 20000 in
theorem ggX14_frame_Jx4a65c_get_915e3 : GoodIn wsX14_frame wsJx4a65c_get_915e3 := goodIn_r _ [17, 13, 18, 19, 20, 21, 22, 23, 24, 25, 26, 27, 28, 11, 29, 30, 279, 280, 281] (by decide +kernel) (by decide +kernel)
set_option maxRecDepth 20000 in
theorem gX14_frame_Jx4a65c_get_915e3 : GoodIn wsX14_frame (wsV RX14 76 RJx4a65c yJx4a65c_get_915e3 wsJx4a65c_get_915e3) := goodIn_app (goodIn_of _ (by decide +kernel)) ggX14_frame_Jx4a65c_get_915e3
set_option maxRecDepth 20000 in
theorem ggX14_frame_X14_given : GoodIn wsX14_frame wsX14_given := goodIn_r _ [35, 5, 6, 14, 15, 16, 11, 17, 13, 18, 19, 20, 21, 22, 23, 24, 25, 26, 27, 28, 29, 30, 234, 235, 236, 237, 238, 239, 240, 241, 242, 243, 244, 245, 246, 247, 248, 249, 250, 251, 252, 253, 254, 255, 256, 257, 258, 259, 260, 261, 262, 263, 264, 265, 266, 267, 268, 279, 280, 281] (by decide +kernel) (by decide +kernel)
set_option maxRecDepth 20000 in
theorem gX14_frame_X14_given : GoodIn wsX14_frame (wsV RX14 189 RX14 yX14_given wsX14_given) := goodIn_app (goodIn_of _ (by decide +kernel)) ggX14_frame_X14_given
set_option maxRecDepth 20000 in
theorem ggX14_frame_X14_shut : GoodIn wsX14_frame wsX14_shut := goodIn_ca (goodIn_r _ [39, 5, 6, 14, 15, 16, 11, 17, 13, 18, 19, 20, 21, 22, 23, 24, 25, 26, 27, 28, 29, 30, 40, 41, 42, 34, 43, 44, 7, 8, 9, 10, 12, 45, 46, 47, 48, 49, 50, 51, 52, 53, 54, 55, 56, 57, 58, 59, 60, 61, 62, 63, 64, 65, 66, 67, 68, 69, 70, 71, 72, 73, 74, 75, 76, 77, 78, 79, 80, 81, 82, 83, 84, 85, 86, 87, 88, 89, 90, 91, 92, 93, 94, 95, 96, 97, 98, 99, 100, 101, 102, 103, 104, 105, 106, 107, 108, 109, 110, 111, 112, 113, 114, 115, 116, 117, 118, 119, 120, 121, 122, 123, 124, 125, 126, 127, 128, 234, 235, 236, 237, 238, 239, 240, 241, 242, 243, 244, 245, 246, 247, 248, 249, 250, 251, 252, 253, 254, 255, 256, 257, 258, 259, 260, 261, 262, 263, 264, 265, 266, 267, 268, 279, 280, 281, 269, 270, 271, 272, 273, 274, 275, 276, 277, 278, 282, 283, 284, 285, 286] (by decide +kernel) (by decide +kernel)) (goodIn_sub (fun _ h => List.mem_cons_of_mem _ (List.mem_append_left _ (List.mem_append_right _ h))) (by decide +kernel))
set_option maxRecDepth 20000 in
theorem gX14_frame_X14_shut : GoodIn wsX14_frame (wsV RX14 362 RX14 yX14_shut wsX14_shut) := goodIn_app (goodIn_of _ (by decide +kernel)) ggX14_frame_X14_shut
set_option maxRecDepth 20000 in
theorem ggX14_frame_X12_isPeriodic : GoodIn wsX14_frame wsX12_isPeriodic := goodIn_r _ [133, 134, 269, 270, 271, 272, 273, 274, 275, 276, 277, 278] (by decide +kernel) (by decide +kernel)
set_option maxRecDepth 20000 in
theorem gX14_frame_X12_isPeriodic : GoodIn wsX14_frame (wsV RX14 226 RX12 yX12_isPeriodic wsX12_isPeriodic) := goodIn_app (goodIn_of _ (by decide +kernel)) ggX14_frame_X12_isPeriodic
set_option maxRecDepth 20000 in
theorem ggX14_frame_X14_does : GoodIn wsX14_frame wsX14_does := goodIn_ca (goodIn_r _ [138, 7, 61, 5, 6, 2, 139, 99, 100, 101, 3, 4, 140, 141, 142, 143, 144, 11, 145, 13, 14, 15, 16, 17, 18, 19, 20, 21, 22, 23, 24, 25, 26, 27, 28, 29, 30, 146, 147, 148, 34, 149, 150, 151, 152, 153, 154, 126, 127, 8, 9, 10, 12, 155, 156, 157, 158, 159, 160, 161, 162, 163, 164, 165, 166, 167, 168, 169, 170, 171, 172, 173, 174, 175, 176, 36, 37, 38, 39, 40, 41, 42, 43, 44, 45, 46, 47, 48, 49, 50, 51, 52, 53, 54, 55, 56, 57, 58, 59, 60, 62, 63, 64, 65, 66, 67, 68, 69, 70, 71, 72, 73, 74, 75, 76, 77, 78, 79, 80, 81, 82, 83, 84, 85, 86, 87, 88, 89, 90, 91, 92, 93, 94, 95, 96, 97, 98, 102, 103, 104, 105, 106, 107, 108, 109, 110, 111, 112, 113, 114, 115, 116, 117, 118, 119, 120, 121, 122, 123, 124, 125, 128, 177, 178, 179, 180, 181, 182, 183, 184, 185, 186, 187, 188, 189, 190, 191, 192, 193, 194, 195, 196, 197, 198, 199, 200, 201, 202, 203, 204, 205, 206, 207, 208, 209, 210, 211, 212, 213, 214, 215, 216, 217, 218, 219, 220, 221, 222, 223, 224, 225, 226, 227, 228, 234, 235, 236, 237, 238, 239, 240, 241, 242, 243, 244, 245, 246, 247, 248, 249, 250, 251, 252, 269, 270, 271, 272, 273, 274, 275, 276, 277, 278, 282, 283, 284, 285, 286, 253, 254, 255, 256, 257, 258, 259, 260, 261, 262, 263, 264, 265, 266, 267, 268, 287, 288, 289, 290, 291, 279, 280, 281, 292] (by decide +kernel) (by decide +kernel)) (goodIn_sub (fun _ h => List.mem_cons_of_mem _ (List.mem_append_left _ (List.mem_append_right _ h))) (by decide +kernel))
set_option maxRecDepth 20000 in
theorem gX14_frame_X14_does : GoodIn wsX14_frame (wsV RX14 397 RX14 yX14_does wsX14_does) := goodIn_app (goodIn_of _ (by decide +kernel)) ggX14_frame_X14_does
set_option maxRecDepth 20000 in
theorem ggX14_frame_X14_bulk : GoodIn wsX14_frame wsX14_bulk := goodIn_ca (goodIn_r _ [232, 233, 7, 129, 130, 131, 132, 133, 134, 135, 136, 137, 34, 138, 61, 5, 6, 2, 139, 99, 100, 101, 3, 4, 140, 141, 142, 143, 144, 11, 145, 13, 14, 15, 16, 17, 18, 19, 20, 21, 22, 23, 24, 25, 26, 27, 28, 29, 30, 146, 147, 148, 149, 150, 151, 152, 153, 154, 126, 127, 8, 9, 10, 12, 155, 156, 157, 158, 159, 160, 161, 162, 163, 164, 165, 166, 167, 168, 169, 170, 171, 172, 173, 174, 175, 176, 36, 37, 38, 39, 40, 41, 42, 43, 44, 45, 46, 47, 48, 49, 50, 51, 52, 53, 54, 55, 56, 57, 58, 59, 60, 62, 63, 64, 65, 66, 67, 68, 69, 70, 71, 72, 73, 74, 75, 76, 77, 78, 79, 80, 81, 82, 83, 84, 85, 86, 87, 88, 89, 90, 91, 92, 93, 94, 95, 96, 97, 98, 102, 103, 104, 105, 106, 107, 108, 109, 110, 111, 112, 113, 114, 115, 116, 117, 118, 119, 120, 121, 122, 123, 124, 125, 128, 177, 178, 179, 180, 181, 182, 183, 184, 185, 186, 187, 188, 189, 190, 191, 192, 193, 194, 195, 196, 197, 198, 199, 200, 201, 202, 203, 204, 205, 206, 207, 208, 209, 210, 211, 212, 213, 214, 215, 216, 217, 218, 219, 220, 221, 222, 223, 224, 225, 226, 227, 228, 234, 235, 236, 237, 238, 239, 240, 241, 242, 243, 244, 245, 246, 247, 248, 249, 250, 251, 252, 269, 270, 271, 272, 273, 274, 275, 276, 277, 278, 282, 283, 284, 285, 286, 253, 254, 255, 256, 257, 258, 259, 260, 261, 262, 263, 264, 265, 266, 267, 268, 287, 288, 289, 290, 291, 279, 280, 281, 292] (by decide +kernel) (by decide +kernel)) (goodIn_sub (fun _ h => List.mem_cons_of_mem _ (List.mem_append_left _ (List.mem_append_right _ h))) (by decide +kernel))
set_option maxRecDepth 20000 in
theorem gX14_frame_X14_bulk : GoodIn wsX14_frame (wsV RX14 400 RX14 yX14_bulk wsX14_bulk) := goodIn_app (goodIn_of _ (by decide +kernel)) ggX14_frame_X14_bulk
theorem dX14_frame_0 : decode cX14_frame 0 = .ok (.aload_n 0, 1) := by decide +kernel
theorem dX14_frame_1 : decode cX14_frame 1 = .ok (.iconst 0, 1) := by decide +kernel
theorem dX14_frame_2 : decode cX14_frame 2 = .ok (.putfield 61, 3) := by decide +kernel
theorem dX14_frame_5 : decode cX14_frame 5 = .ok (.aload_n 0, 1) := by decide +kernel
theorem dX14_frame_6 : decode cX14_frame 6 = .ok (.dup, 1) := by decide +kernel
theorem dX14_frame_7 : decode cX14_frame 7 = .ok (.getfield 205, 3) := by decide +kernel
theorem dX14_frame_10 : decode cX14_frame 10 = .ok (.iconst 1, 1) := by decide +kernel
theorem dX14_frame_11 : decode cX14_frame 11 = .ok (.iadd, 1) := by decide +kernel
theorem dX14_frame_12 : decode cX14_frame 12 = .ok (.putfield 205, 3) := by decide +kernel
theorem dX14_frame_15 : decode cX14_frame 15 = .ok (.aload_n 0, 1) := by decide +kernel
theorem dX14_frame_16 : decode cX14_frame 16 = .ok (.bipush 100, 2) := by decide +kernel
theorem dX14_frame_18 : decode cX14_frame 18 = .ok (.putfield 42, 3) := by decide +kernel
theorem dX14_frame_21 : decode cX14_frame 21 = .ok (.iconst 0, 1) := by decide +kernel
theorem dX14_frame_22 : decode cX14_frame 22 = .ok (.istore_n 1, 1) := by decide +kernel
theorem dX14_frame_23 : decode cX14_frame 23 = .ok (.iload_n 1, 1) := by decide +kernel
theorem dX14_frame_24 : decode cX14_frame 24 = .ok (.bipush 16, 2) := by decide +kernel
theorem dX14_frame_26 : decode cX14_frame 26 = .ok (.if_icmp .ge 17, 3) := by decide +kernel
theorem dX14_frame_29 : decode cX14_frame 29 = .ok (.aload_n 0, 1) := by decide +kernel
theorem dX14_frame_30 : decode cX14_frame 30 = .ok (.getfield 45, 3) := by decide +kernel
theorem dX14_frame_33 : decode cX14_frame 33 = .ok (.iload_n 1, 1) := by decide +kernel
theorem dX14_frame_34 : decode cX14_frame 34 = .ok (.bipush 60, 2) := by decide +kernel
theorem dX14_frame_36 : decode cX14_frame 36 = .ok (.iastore, 1) := by decide +kernel
theorem dX14_frame_37 : decode cX14_frame 37 = .ok (.iinc 1 1, 3) := by decide +kernel
theorem dX14_frame_40 : decode cX14_frame 40 = .ok (.goto (-17), 3) := by decide +kernel
theorem dX14_frame_43 : decode cX14_frame 43 = .ok (.iconst 1, 1) := by decide +kernel
theorem dX14_frame_44 : decode cX14_frame 44 = .ok (.istore_n 1, 1) := by decide +kernel
theorem dX14_frame_45 : decode cX14_frame 45 = .ok (.iload_n 1, 1) := by decide +kernel
theorem dX14_frame_46 : decode cX14_frame 46 = .ok (.aload_n 0, 1) := by decide +kernel
theorem dX14_frame_47 : decode cX14_frame 47 = .ok (.getfield 10, 3) := by decide +kernel
theorem dX14_frame_50 : decode cX14_frame 50 = .ok (.invokevirtual 64, 3) := by decide +kernel
theorem dX14_frame_53 : decode cX14_frame 53 = .ok (.if_icmp .ge 54, 3) := by decide +kernel
theorem dX14_frame_56 : decode cX14_frame 56 = .ok (.aload_n 0, 1) := by decide +kernel
theorem dX14_frame_57 : decode cX14_frame 57 = .ok (.getfield 10, 3) := by decide +kernel
theorem dX14_frame_60 : decode cX14_frame 60 = .ok (.iload_n 1, 1) := by decide +kernel
theorem dX14_frame_61 : decode cX14_frame 61 = .ok (.invokevirtual 76, 3) := by decide +kernel
theorem dX14_frame_64 : decode cX14_frame 64 = .ok (.checkcast 48, 3) := by decide +kernel
theorem dX14_frame_67 : decode cX14_frame 67 = .ok (.astore_n 2, 1) := by decide +kernel
theorem dX14_frame_68 : decode cX14_frame 68 = .ok (.aload_n 2, 1) := by decide +kernel
theorem dX14_frame_69 : decode cX14_frame 69 = .ok (.getfield 53, 3) := by decide +kernel
theorem dX14_frame_72 : decode cX14_frame 72 = .ok (.bipush 99, 2) := by decide +kernel
theorem dX14_frame_74 : decode cX14_frame 74 = .ok (.if_icmp .ne 27, 3) := by decide +kernel
theorem dX14_frame_77 : decode cX14_frame 77 = .ok (.aload_n 2, 1) := by decide +kernel
theorem dX14_frame_78 : decode cX14_frame 78 = .ok (.getfield 159, 3) := by decide +kernel
theorem dX14_frame_81 : decode cX14_frame 81 = .ok (.ifCond .ne 20, 3) := by decide +kernel
theorem dX14_frame_84 : decode cX14_frame 84 = .ok (.aload_n 2, 1) := by decide +kernel
theorem dX14_frame_85 : decode cX14_frame 85 = .ok (.getfield 196, 3) := by decide +kernel
theorem dX14_frame_88 : decode cX14_frame 88 = .ok (.aload_n 0, 1) := by decide +kernel
theorem dX14_frame_89 : decode cX14_frame 89 = .ok (.aload_n 2, 1) := by decide +kernel
theorem dX14_frame_90 : decode cX14_frame 90 = .ok (.invokevirtual 189, 3) := by decide +kernel
theorem dX14_frame_93 : decode cX14_frame 93 = .ok (.if_icmp .le 8, 3) := by decide +kernel
theorem dX14_frame_96 : decode cX14_frame 96 = .ok (.aload_n 0, 1) := by decide +kernel
theorem dX14_frame_97 : decode cX14_frame 97 = .ok (.iload_n 1, 1) := by decide +kernel
theorem dX14_frame_98 : decode cX14_frame 98 = .ok (.invokevirtual 362, 3) := by decide +kernel
theorem dX14_frame_101 : decode cX14_frame 101 = .ok (.iinc 1 1, 3) := by decide +kernel
theorem dX14_frame_104 : decode cX14_frame 104 = .ok (.goto (-59), 3) := by decide +kernel
theorem dX14_frame_107 : decode cX14_frame 107 = .ok (.iconst 0, 1) := by decide +kernel
theorem dX14_frame_108 : decode cX14_frame 108 = .ok (.istore_n 1, 1) := by decide +kernel
theorem dX14_frame_109 : decode cX14_frame 109 = .ok (.iconst 0, 1) := by decide +kernel
theorem dX14_frame_110 : decode cX14_frame 110 = .ok (.istore_n 2, 1) := by decide +kernel
theorem dX14_frame_111 : decode cX14_frame 111 = .ok (.iload_n 2, 1) := by decide +kernel
theorem dX14_frame_112 : decode cX14_frame 112 = .ok (.bipush 12, 2) := by decide +kernel
theorem dX14_frame_114 : decode cX14_frame 114 = .ok (.if_icmp .ge 71, 3) := by decide +kernel
theorem dX14_frame_117 : decode cX14_frame 117 = .ok (.aload_n 0, 1) := by decide +kernel
theorem dX14_frame_118 : decode cX14_frame 118 = .ok (.getfield 18, 3) := by decide +kernel
theorem dX14_frame_121 : decode cX14_frame 121 = .ok (.iload_n 2, 1) := by decide +kernel
theorem dX14_frame_122 : decode cX14_frame 122 = .ok (.aaload, 1) := by decide +kernel
theorem dX14_frame_123 : decode cX14_frame 123 = .ok (.astore_n 3, 1) := by decide +kernel
theorem dX14_frame_124 : decode cX14_frame 124 = .ok (.aload_n 3, 1) := by decide +kernel
theorem dX14_frame_125 : decode cX14_frame 125 = .ok (.ifnull 30, 3) := by decide +kernel
theorem dX14_frame_128 : decode cX14_frame 128 = .ok (.aload_n 3, 1) := by decide +kernel
theorem dX14_frame_129 : decode cX14_frame 129 = .ok (.invokevirtual 226, 3) := by decide +kernel
theorem dX14_frame_132 : decode cX14_frame 132 = .ok (.ifCond .eq 23, 3) := by decide +kernel
theorem dX14_frame_135 : decode cX14_frame 135 = .ok (.aload_n 0, 1) := by decide +kernel
theorem dX14_frame_136 : decode cX14_frame 136 = .ok (.getfield 205, 3) := by decide +kernel
theorem dX14_frame_139 : decode cX14_frame 139 = .ok (.aload_n 3, 1) := by decide +kernel
theorem dX14_frame_140 : decode cX14_frame 140 = .ok (.getfield 229, 3) := by decide +kernel
theorem dX14_frame_143 : decode cX14_frame 143 = .ok (.irem, 1) := by decide +kernel
theorem dX14_frame_144 : decode cX14_frame 144 = .ok (.aload_n 3, 1) := by decide +kernel
theorem dX14_frame_145 : decode cX14_frame 145 = .ok (.getfield 232, 3) := by decide +kernel
theorem dX14_frame_148 : decode cX14_frame 148 = .ok (.if_icmp .ne 7, 3) := by decide +kernel
theorem dX14_frame_151 : decode cX14_frame 151 = .ok (.iconst 1, 1) := by decide +kernel
theorem dX14_frame_152 : decode cX14_frame 152 = .ok (.goto 4, 3) := by decide +kernel
theorem dX14_frame_155 : decode cX14_frame 155 = .ok (.iconst 0, 1) := by decide +kernel
theorem dX14_frame_156 : decode cX14_frame 156 = .ok (.istore 4, 2) := by decide +kernel
theorem dX14_frame_158 : decode cX14_frame 158 = .ok (.iload_n 1, 1) := by decide +kernel
theorem dX14_frame_159 : decode cX14_frame 159 = .ok (.iload 4, 2) := by decide +kernel
theorem dX14_frame_161 : decode cX14_frame 161 = .ok (.ifCond .eq 15, 3) := by decide +kernel
theorem dX14_frame_164 : decode cX14_frame 164 = .ok (.aload_n 0, 1) := by decide +kernel
theorem dX14_frame_165 : decode cX14_frame 165 = .ok (.iload_n 2, 1) := by decide +kernel
theorem dX14_frame_166 : decode cX14_frame 166 = .ok (.invokevirtual 397, 3) := by decide +kernel
theorem dX14_frame_169 : decode cX14_frame 169 = .ok (.ifCond .le 7, 3) := by decide +kernel
theorem dX14_frame_172 : decode cX14_frame 172 = .ok (.iconst 1, 1) := by decide +kernel
theorem dX14_frame_173 : decode cX14_frame 173 = .ok (.goto 4, 3) := by decide +kernel
theorem dX14_frame_176 : decode cX14_frame 176 = .ok (.iconst 0, 1) := by decide +kernel
theorem dX14_frame_177 : decode cX14_frame 177 = .ok (.iadd, 1) := by decide +kernel
theorem dX14_frame_178 : decode cX14_frame 178 = .ok (.istore_n 1, 1) := by decide +kernel
theorem dX14_frame_179 : decode cX14_frame 179 = .ok (.iinc 2 1, 3) := by decide +kernel
theorem dX14_frame_182 : decode cX14_frame 182 = .ok (.goto (-71), 3) := by decide +kernel
theorem dX14_frame_185 : decode cX14_frame 185 = .ok (.iload_n 1, 1) := by decide +kernel
theorem dX14_frame_186 : decode cX14_frame 186 = .ok (.aload_n 0, 1) := by decide +kernel
theorem dX14_frame_187 : decode cX14_frame 187 = .ok (.invokevirtual 400, 3) := by decide +kernel
theorem dX14_frame_190 : decode cX14_frame 190 = .ok (.iadd, 1) := by decide +kernel
theorem dX14_frame_191 : decode cX14_frame 191 = .ok (.ireturn, 1) := by decide +kernel
set_option maxRecDepth 20000 in
theorem ggX14_bulk_X12_isPeriodic : GoodIn wsX14_bulk wsX12_isPeriodic := goodIn_r _ [7, 8, 244, 245, 246, 247, 248, 249, 250, 251, 252, 253] (by decide +kernel) (by decide +kernel)
set_option maxRecDepth 20000 in
theorem gX14_bulk_X12_isPeriodic : GoodIn wsX14_bulk (wsV RX14 226 RX12 yX12_isPeriodic wsX12_isPeriodic) := goodIn_app (goodIn_of _ (by decide +kernel)) ggX14_bulk_X12_isPeriodic
set_option maxRecDepth 20000 in
theorem ggX14_bulk_X14_does : GoodIn wsX14_bulk wsX14_does := goodIn_ca (goodIn_r _ [13, 2, 14, 15, 16, 17, 18, 19, 20, 21, 22, 23, 24, 25, 26, 27, 28, 29, 30, 31, 32, 33, 34, 35, 36, 37, 38, 39, 40, 41, 42, 43, 44, 45, 46, 47, 48, 49, 50, 51, 12, 52, 53, 54, 55, 56, 57, 58, 59, 60, 61, 62, 63, 64, 65, 66, 67, 68, 69, 70, 71, 72, 73, 74, 75, 76, 77, 78, 79, 80, 81, 82, 83, 84, 85, 86, 87, 88, 89, 90, 91, 92, 93, 94, 95, 96, 97, 98, 99, 100, 101, 102, 103, 104, 105, 106, 107, 108, 109, 110, 111, 112, 113, 114, 115, 116, 117, 118, 119, 120, 121, 122, 123, 124, 125, 126, 127, 128, 129, 130, 131, 132, 133, 134, 135, 136, 137, 138, 139, 140, 141, 142, 143, 144, 145, 146, 147, 148, 149, 150, 151, 152, 153, 154, 155, 156, 157, 158, 159, 160, 161, 162, 163, 164, 165, 166, 167, 168, 169, 170, 171, 172, 173, 174, 175, 176, 177, 178, 179, 180, 181, 182, 183, 184, 185, 186, 187, 188, 189, 190, 191, 192, 193, 194, 195, 196, 197, 198, 199, 200, 201, 202, 203, 204, 205, 206, 207, 208, 209, 210, 211, 212, 213, 214, 215, 216, 217, 218, 219, 220, 221, 222, 223, 224, 225, 226, 227, 228, 229, 230, 231, 232, 233, 234, 235, 236, 237, 238, 239, 240, 241, 242, 243, 244, 245, 246, 247, 248, 249, 250, 251, 252, 253, 254, 255, 256, 257, 258, 259, 260, 261, 262, 263, 264, 265, 266, 267, 268, 269, 270, 271, 272, 273, 274, 275, 276, 277, 278, 279, 280, 281, 282, 283] (by decide +kernel) (by decide +kernel)) (goodIn_sub (fun _ h => List.mem_cons_of_mem _ (List.mem_append_right _ h)) (by decide +kernel))
set_option maxRecDepth 20000 in
theorem gX14_bulk_X14_does : GoodIn wsX14_bulk (wsV RX14 397 RX14 yX14_does wsX14_does) := goodIn_app (goodIn_of _ (by decide +kernel)) ggX14_bulk_X14_does
theorem dX14_bulk_0 : decode cX14_bulk 0 = .ok (.iconst 0, 1) := by decide +kernel
theorem dX14_bulk_1 : decode cX14_bulk 1 = .ok (.istore_n 1, 1) := by decide +kernel
theorem dX14_bulk_2 : decode cX14_bulk 2 = .ok (.iconst 0, 1) := by decide +kernel
theorem dX14_bulk_3 : decode cX14_bulk 3 = .ok (.istore_n 2, 1) := by decide +kernel
theorem dX14_bulk_4 : decode cX14_bulk 4 = .ok (.iconst 0, 1) := by decide +kernel
theorem dX14_bulk_5 : decode cX14_bulk 5 = .ok (.istore_n 3, 1) := by decide +kernel
theorem dX14_bulk_6 : decode cX14_bulk 6 = .ok (.aload_n 0, 1) := by decide +kernel
theorem dX14_bulk_7 : decode cX14_bulk 7 = .ok (.getfield 38, 3) := by decide +kernel
theorem dX14_bulk_10 : decode cX14_bulk 10 = .ok (.istore 4, 2) := by decide +kernel
theorem dX14_bulk_12 : decode cX14_bulk 12 = .ok (.iload_n 3, 1) := by decide +kernel
theorem dX14_bulk_13 : decode cX14_bulk 13 = .ok (.bipush 12, 2) := by decide +kernel
theorem dX14_bulk_15 : decode cX14_bulk 15 = .ok (.if_icmp .ge 132, 3) := by decide +kernel
theorem dX14_bulk_18 : decode cX14_bulk 18 = .ok (.iload 4, 2) := by decide +kernel
theorem dX14_bulk_20 : decode cX14_bulk 20 = .ok (.iconst 1, 1) := by decide +kernel
theorem dX14_bulk_21 : decode cX14_bulk 21 = .ok (.iadd, 1) := by decide +kernel
theorem dX14_bulk_22 : decode cX14_bulk 22 = .ok (.bipush 12, 2) := by decide +kernel
theorem dX14_bulk_24 : decode cX14_bulk 24 = .ok (.irem, 1) := by decide +kernel
theorem dX14_bulk_25 : decode cX14_bulk 25 = .ok (.istore 4, 2) := by decide +kernel
theorem dX14_bulk_27 : decode cX14_bulk 27 = .ok (.aload_n 0, 1) := by decide +kernel
theorem dX14_bulk_28 : decode cX14_bulk 28 = .ok (.getfield 18, 3) := by decide +kernel
theorem dX14_bulk_31 : decode cX14_bulk 31 = .ok (.iload 4, 2) := by decide +kernel
theorem dX14_bulk_33 : decode cX14_bulk 33 = .ok (.aaload, 1) := by decide +kernel
theorem dX14_bulk_34 : decode cX14_bulk 34 = .ok (.ifnull 29, 3) := by decide +kernel
theorem dX14_bulk_37 : decode cX14_bulk 37 = .ok (.aload_n 0, 1) := by decide +kernel
theorem dX14_bulk_38 : decode cX14_bulk 38 = .ok (.getfield 18, 3) := by decide +kernel
theorem dX14_bulk_41 : decode cX14_bulk 41 = .ok (.iload 4, 2) := by decide +kernel
theorem dX14_bulk_43 : decode cX14_bulk 43 = .ok (.aaload, 1) := by decide +kernel
theorem dX14_bulk_44 : decode cX14_bulk 44 = .ok (.invokevirtual 226, 3) := by decide +kernel
theorem dX14_bulk_47 : decode cX14_bulk 47 = .ok (.ifCond .ne 16, 3) := by decide +kernel
theorem dX14_bulk_50 : decode cX14_bulk 50 = .ok (.iload_n 1, 1) := by decide +kernel
theorem dX14_bulk_51 : decode cX14_bulk 51 = .ok (.iload 4, 2) := by decide +kernel
theorem dX14_bulk_53 : decode cX14_bulk 53 = .ok (.ishr, 1) := by decide +kernel
theorem dX14_bulk_54 : decode cX14_bulk 54 = .ok (.iconst 1, 1) := by decide +kernel
theorem dX14_bulk_55 : decode cX14_bulk 55 = .ok (.iand, 1) := by decide +kernel
theorem dX14_bulk_56 : decode cX14_bulk 56 = .ok (.ifCond .ne 7, 3) := by decide +kernel
theorem dX14_bulk_59 : decode cX14_bulk 59 = .ok (.iconst 1, 1) := by decide +kernel
theorem dX14_bulk_60 : decode cX14_bulk 60 = .ok (.goto 4, 3) := by decide +kernel
theorem dX14_bulk_63 : decode cX14_bulk 63 = .ok (.iconst 0, 1) := by decide +kernel
theorem dX14_bulk_64 : decode cX14_bulk 64 = .ok (.istore 5, 2) := by decide +kernel
theorem dX14_bulk_66 : decode cX14_bulk 66 = .ok (.iload 5, 2) := by decide +kernel
theorem dX14_bulk_68 : decode cX14_bulk 68 = .ok (.ifCond .eq 12, 3) := by decide +kernel
theorem dX14_bulk_71 : decode cX14_bulk 71 = .ok (.aload_n 0, 1) := by decide +kernel
theorem dX14_bulk_72 : decode cX14_bulk 72 = .ok (.iload 4, 2) := by decide +kernel
theorem dX14_bulk_74 : decode cX14_bulk 74 = .ok (.invokevirtual 397, 3) := by decide +kernel
theorem dX14_bulk_77 : decode cX14_bulk 77 = .ok (.goto 4, 3) := by decide +kernel
theorem dX14_bulk_80 : decode cX14_bulk 80 = .ok (.iconst 0, 1) := by decide +kernel
theorem dX14_bulk_81 : decode cX14_bulk 81 = .ok (.istore 6, 2) := by decide +kernel
theorem dX14_bulk_83 : decode cX14_bulk 83 = .ok (.iload_n 1, 1) := by decide +kernel
theorem dX14_bulk_84 : decode cX14_bulk 84 = .ok (.iload 6, 2) := by decide +kernel
theorem dX14_bulk_86 : decode cX14_bulk 86 = .ok (.iconst 2, 1) := by decide +kernel
theorem dX14_bulk_87 : decode cX14_bulk 87 = .ok (.if_icmp .ne 10, 3) := by decide +kernel
theorem dX14_bulk_90 : decode cX14_bulk 90 = .ok (.iconst 1, 1) := by decide +kernel
theorem dX14_bulk_91 : decode cX14_bulk 91 = .ok (.iload 4, 2) := by decide +kernel
theorem dX14_bulk_93 : decode cX14_bulk 93 = .ok (.ishl, 1) := by decide +kernel
theorem dX14_bulk_94 : decode cX14_bulk 94 = .ok (.goto 4, 3) := by decide +kernel
theorem dX14_bulk_97 : decode cX14_bulk 97 = .ok (.iconst 0, 1) := by decide +kernel
theorem dX14_bulk_98 : decode cX14_bulk 98 = .ok (.ior, 1) := by decide +kernel
theorem dX14_bulk_99 : decode cX14_bulk 99 = .ok (.istore_n 1, 1) := by decide +kernel
theorem dX14_bulk_100 : decode cX14_bulk 100 = .ok (.iload_n 2, 1) := by decide +kernel
theorem dX14_bulk_101 : decode cX14_bulk 101 = .ok (.iload 6, 2) := by decide +kernel
theorem dX14_bulk_103 : decode cX14_bulk 103 = .ok (.ifCond .le 7, 3) := by decide +kernel
theorem dX14_bulk_106 : decode cX14_bulk 106 = .ok (.iconst 1, 1) := by decide +kernel
theorem dX14_bulk_107 : decode cX14_bulk 107 = .ok (.goto 4, 3) := by decide +kernel
theorem dX14_bulk_110 : decode cX14_bulk 110 = .ok (.iconst 0, 1) := by decide +kernel
theorem dX14_bulk_111 : decode cX14_bulk 111 = .ok (.iadd, 1) := by decide +kernel
theorem dX14_bulk_112 : decode cX14_bulk 112 = .ok (.istore_n 2, 1) := by decide +kernel
theorem dX14_bulk_113 : decode cX14_bulk 113 = .ok (.aload_n 0, 1) := by decide +kernel
theorem dX14_bulk_114 : decode cX14_bulk 114 = .ok (.iload 6, 2) := by decide +kernel
theorem dX14_bulk_116 : decode cX14_bulk 116 = .ok (.ifCond .le 8, 3) := by decide +kernel
theorem dX14_bulk_119 : decode cX14_bulk 119 = .ok (.iload 4, 2) := by decide +kernel
theorem dX14_bulk_121 : decode cX14_bulk 121 = .ok (.goto 7, 3) := by decide +kernel
theorem dX14_bulk_124 : decode cX14_bulk 124 = .ok (.aload_n 0, 1) := by decide +kernel
theorem dX14_bulk_125 : decode cX14_bulk 125 = .ok (.getfield 38, 3) := by decide +kernel
theorem dX14_bulk_128 : decode cX14_bulk 128 = .ok (.putfield 38, 3) := by decide +kernel
theorem dX14_bulk_131 : decode cX14_bulk 131 = .ok (.iload 6, 2) := by decide +kernel
theorem dX14_bulk_133 : decode cX14_bulk 133 = .ok (.ifCond .le 7, 3) := by decide +kernel
theorem dX14_bulk_136 : decode cX14_bulk 136 = .ok (.iconst 0, 1) := by decide +kernel
theorem dX14_bulk_137 : decode cX14_bulk 137 = .ok (.goto 6, 3) := by decide +kernel
theorem dX14_bulk_140 : decode cX14_bulk 140 = .ok (.iload_n 3, 1) := by decide +kernel
theorem dX14_bulk_141 : decode cX14_bulk 141 = .ok (.iconst 1, 1) := by decide +kernel
theorem dX14_bulk_142 : decode cX14_bulk 142 = .ok (.iadd, 1) := by decide +kernel
theorem dX14_bulk_143 : decode cX14_bulk 143 = .ok (.istore_n 3, 1) := by decide +kernel
theorem dX14_bulk_144 : decode cX14_bulk 144 = .ok (.goto (-132), 3) := by decide +kernel
theorem dX14_bulk_147 : decode cX14_bulk 147 = .ok (.iload_n 2, 1) := by decide +kernel
theorem dX14_bulk_148 : decode cX14_bulk 148 = .ok (.ireturn, 1) := by decide +kernel
theorem dX14_frames_0 : decode cX14_frames 0 = .ok (.aload_n 0, 1) := by decide +kernel
theorem dX14_frames_1 : decode cX14_frames 1 = .ok (.iconst 0, 1) := by decide +kernel
theorem dX14_frames_2 : decode cX14_frames 2 = .ok (.putfield 61, 3) := by decide +kernel
theorem dX14_frames_5 : decode cX14_frames 5 = .ok (.aload_n 0, 1) := by decide +kernel
theorem dX14_frames_6 : decode cX14_frames 6 = .ok (.getfield 205, 3) := by decide +kernel
theorem dX14_frames_9 : decode cX14_frames 9 = .ok (.ireturn, 1) := by decide +kernel
set_option maxRecDepth 20000 in
theorem ggX14_left_X14_isDevice : GoodIn wsX14_left wsX14_isDevice := goodIn_r _ [9, 10, 11, 12, 13, 14, 15, 16, 17, 18, 8, 19, 20, 21, 22, 23, 24, 25, 26, 27, 28, 29, 30, 31, 32, 33, 34, 35, 36, 37, 38, 39, 40, 41] (by decide +kernel) (by decide +kernel)
set_option maxRecDepth 20000 in
theorem gX14_left_X14_isDevice : GoodIn wsX14_left (wsV RX14 72 RX14 yX14_isDevice wsX14_isDevice) := goodIn_app (goodIn_of _ (by decide +kernel)) ggX14_left_X14_isDevice
theorem dX14_left_0 : decode cX14_left 0 = .ok (.aload_n 0, 1) := by decide +kernel
theorem dX14_left_1 : decode cX14_left 1 = .ok (.iload_n 1, 1) := by decide +kernel
theorem dX14_left_2 : decode cX14_left 2 = .ok (.iconst (-1), 1) := by decide +kernel
theorem dX14_left_3 : decode cX14_left 3 = .ok (.if_icmp .eq 15, 3) := by decide +kernel
theorem dX14_left_6 : decode cX14_left 6 = .ok (.aload_n 0, 1) := by decide +kernel
theorem dX14_left_7 : decode cX14_left 7 = .ok (.iload_n 1, 1) := by decide +kernel
theorem dX14_left_8 : decode cX14_left 8 = .ok (.invokevirtual 72, 3) := by decide +kernel
theorem dX14_left_11 : decode cX14_left 11 = .ok (.ifCond .ne 7, 3) := by decide +kernel
theorem dX14_left_14 : decode cX14_left 14 = .ok (.iconst 1, 1) := by decide +kernel
theorem dX14_left_15 : decode cX14_left 15 = .ok (.goto 15, 3) := by decide +kernel
theorem dX14_left_18 : decode cX14_left 18 = .ok (.aload_n 0, 1) := by decide +kernel
theorem dX14_left_19 : decode cX14_left 19 = .ok (.getfield 205, 3) := by decide +kernel
theorem dX14_left_22 : decode cX14_left 22 = .ok (.ifCond .ne 7, 3) := by decide +kernel
theorem dX14_left_25 : decode cX14_left 25 = .ok (.iconst 2, 1) := by decide +kernel
theorem dX14_left_26 : decode cX14_left 26 = .ok (.goto 4, 3) := by decide +kernel
theorem dX14_left_29 : decode cX14_left 29 = .ok (.iconst 0, 1) := by decide +kernel
theorem dX14_left_30 : decode cX14_left 30 = .ok (.putfield 61, 3) := by decide +kernel
theorem dX14_left_33 : decode cX14_left 33 = .ok (.aload_n 0, 1) := by decide +kernel
theorem dX14_left_34 : decode cX14_left 34 = .ok (.getfield 61, 3) := by decide +kernel
theorem dX14_left_37 : decode cX14_left 37 = .ok (.ifCond .le 7, 3) := by decide +kernel
theorem dX14_left_40 : decode cX14_left 40 = .ok (.iconst 0, 1) := by decide +kernel
theorem dX14_left_41 : decode cX14_left 41 = .ok (.goto 21, 3) := by decide +kernel
theorem dX14_left_44 : decode cX14_left 44 = .ok (.iload_n 1, 1) := by decide +kernel
theorem dX14_left_45 : decode cX14_left 45 = .ok (.iconst (-1), 1) := by decide +kernel
theorem dX14_left_46 : decode cX14_left 46 = .ok (.if_icmp .ne 10, 3) := by decide +kernel
theorem dX14_left_49 : decode cX14_left 49 = .ok (.aload_n 0, 1) := by decide +kernel
theorem dX14_left_50 : decode cX14_left 50 = .ok (.getfield 42, 3) := by decide +kernel
theorem dX14_left_53 : decode cX14_left 53 = .ok (.goto 9, 3) := by decide +kernel
theorem dX14_left_56 : decode cX14_left 56 = .ok (.aload_n 0, 1) := by decide +kernel
theorem dX14_left_57 : decode cX14_left 57 = .ok (.getfield 45, 3) := by decide +kernel
theorem dX14_left_60 : decode cX14_left 60 = .ok (.iload_n 1, 1) := by decide +kernel
theorem dX14_left_61 : decode cX14_left 61 = .ok (.iaload, 1) := by decide +kernel
theorem dX14_left_62 : decode cX14_left 62 = .ok (.ireturn, 1) := by decide +kernel
set_option maxRecDepth 20000 in
theorem ggX14_events_Jx4a65c_size_8abf5 : GoodIn wsX14_events wsJx4a65c_size_8abf5 := goodIn_r _ [7, 8, 28, 29, 30] (by decide +kernel) (by decide +kernel)
set_option maxRecDepth 20000 in
theorem gX14_events_Jx4a65c_size_8abf5 : GoodIn wsX14_events (wsV RX14 64 RJx4a65c yJx4a65c_size_8abf5 wsJx4a65c_size_8abf5) := goodIn_app (goodIn_of _ (by decide +kernel)) ggX14_events_Jx4a65c_size_8abf5
theorem dX14_events_0 : decode cX14_events 0 = .ok (.aload_n 0, 1) := by decide +kernel
theorem dX14_events_1 : decode cX14_events 1 = .ok (.iconst 0, 1) := by decide +kernel
theorem dX14_events_2 : decode cX14_events 2 = .ok (.putfield 61, 3) := by decide +kernel
theorem dX14_events_5 : decode cX14_events 5 = .ok (.aload_n 0, 1) := by decide +kernel
theorem dX14_events_6 : decode cX14_events 6 = .ok (.getfield 28, 3) := by decide +kernel
theorem dX14_events_9 : decode cX14_events 9 = .ok (.invokevirtual 64, 3) := by decide +kernel
theorem dX14_events_12 : decode cX14_events 12 = .ok (.ireturn, 1) := by decide +kernel
set_option maxRecDepth 20000 in
theorem ggX14_event_Jx4a65c_isEmpty_aae02 : GoodIn wsX14_event wsJx4a65c_isEmpty_aae02 := goodIn_r _ [9, 10, 53, 54, 55] (by decide +kernel) (by decide +kernel)
set_option maxRecDepth 20000 in
theorem gX14_event_Jx4a65c_isEmpty_aae02 : GoodIn wsX14_event (wsV RX14 202 RJx4a65c yJx4a65c_isEmpty_aae02 wsJx4a65c_isEmpty_aae02) := goodIn_app (goodIn_of _ (by decide +kernel)) ggX14_event_Jx4a65c_isEmpty_aae02
set_option maxRecDepth 20000 in
theorem ggX14_event_Jx4a65c_remove_915e3 : GoodIn wsX14_event wsJx4a65c_remove_915e3 := goodIn_r _ [14, 10, 15, 16, 17, 18, 19, 20, 21, 22, 23, 24, 25, 26, 8, 27, 28, 29, 30, 31, 32, 33, 53, 54, 55] (by decide +kernel) (by decide +kernel)
set_option maxRecDepth 20000 in
theorem gX14_event_Jx4a65c_remove_915e3 : GoodIn wsX14_event (wsV RX14 272 RJx4a65c yJx4a65c_remove_915e3 wsJx4a65c_remove_915e3) := goodIn_app (goodIn_of _ (by decide +kernel)) ggX14_event_Jx4a65c_remove_915e3
theorem dX14_event_0 : decode cX14_event 0 = .ok (.aload_n 0, 1) := by decide +kernel
theorem dX14_event_1 : decode cX14_event 1 = .ok (.aload_n 0, 1) := by decide +kernel
theorem dX14_event_2 : decode cX14_event 2 = .ok (.getfield 28, 3) := by decide +kernel
theorem dX14_event_5 : decode cX14_event 5 = .ok (.invokevirtual 202, 3) := by decide +kernel
theorem dX14_event_8 : decode cX14_event 8 = .ok (.ifCond .eq 7, 3) := by decide +kernel
theorem dX14_event_11 : decode cX14_event 11 = .ok (.iconst 1, 1) := by decide +kernel
theorem dX14_event_12 : decode cX14_event 12 = .ok (.goto 4, 3) := by decide +kernel
theorem dX14_event_15 : decode cX14_event 15 = .ok (.iconst 0, 1) := by decide +kernel
theorem dX14_event_16 : decode cX14_event 16 = .ok (.putfield 61, 3) := by decide +kernel
theorem dX14_event_19 : decode cX14_event 19 = .ok (.aload_n 0, 1) := by decide +kernel
theorem dX14_event_20 : decode cX14_event 20 = .ok (.getfield 61, 3) := by decide +kernel
theorem dX14_event_23 : decode cX14_event 23 = .ok (.ifCond .le 6, 3) := by decide +kernel
theorem dX14_event_26 : decode cX14_event 26 = .ok (.bipush 32, 2) := by decide +kernel
theorem dX14_event_28 : decode cX14_event 28 = .ok (.ireturn, 1) := by decide +kernel
theorem dX14_event_29 : decode cX14_event 29 = .ok (.aload_n 0, 1) := by decide +kernel
theorem dX14_event_30 : decode cX14_event 30 = .ok (.aload_n 0, 1) := by decide +kernel
theorem dX14_event_31 : decode cX14_event 31 = .ok (.getfield 28, 3) := by decide +kernel
theorem dX14_event_34 : decode cX14_event 34 = .ok (.iconst 0, 1) := by decide +kernel
theorem dX14_event_35 : decode cX14_event 35 = .ok (.invokevirtual 272, 3) := by decide +kernel
theorem dX14_event_38 : decode cX14_event 38 = .ok (.checkcast 169, 3) := by decide +kernel
theorem dX14_event_41 : decode cX14_event 41 = .ok (.putfield 31, 3) := by decide +kernel
theorem dX14_event_44 : decode cX14_event 44 = .ok (.aload_n 0, 1) := by decide +kernel
theorem dX14_event_45 : decode cX14_event 45 = .ok (.getfield 31, 3) := by decide +kernel
theorem dX14_event_48 : decode cX14_event 48 = .ok (.iconst 0, 1) := by decide +kernel
theorem dX14_event_49 : decode cX14_event 49 = .ok (.iaload, 1) := by decide +kernel
theorem dX14_event_50 : decode cX14_event 50 = .ok (.i2c, 1) := by decide +kernel
theorem dX14_event_51 : decode cX14_event 51 = .ok (.ireturn, 1) := by decide +kernel
theorem dX14_eventPipe_0 : decode cX14_eventPipe 0 = .ok (.aload_n 0, 1) := by decide +kernel
theorem dX14_eventPipe_1 : decode cX14_eventPipe 1 = .ok (.aload_n 0, 1) := by decide +kernel
theorem dX14_eventPipe_2 : decode cX14_eventPipe 2 = .ok (.getfield 31, 3) := by decide +kernel
theorem dX14_eventPipe_5 : decode cX14_eventPipe 5 = .ok (.arraylength, 1) := by decide +kernel
theorem dX14_eventPipe_6 : decode cX14_eventPipe 6 = .ok (.ifCond .ne 7, 3) := by decide +kernel
theorem dX14_eventPipe_9 : decode cX14_eventPipe 9 = .ok (.iconst 1, 1) := by decide +kernel
theorem dX14_eventPipe_10 : decode cX14_eventPipe 10 = .ok (.goto 4, 3) := by decide +kernel
theorem dX14_eventPipe_13 : decode cX14_eventPipe 13 = .ok (.iconst 0, 1) := by decide +kernel
theorem dX14_eventPipe_14 : decode cX14_eventPipe 14 = .ok (.putfield 61, 3) := by decide +kernel
theorem dX14_eventPipe_17 : decode cX14_eventPipe 17 = .ok (.aload_n 0, 1) := by decide +kernel
theorem dX14_eventPipe_18 : decode cX14_eventPipe 18 = .ok (.getfield 61, 3) := by decide +kernel
theorem dX14_eventPipe_21 : decode cX14_eventPipe 21 = .ok (.ifCond .le 7, 3) := by decide +kernel
theorem dX14_eventPipe_24 : decode cX14_eventPipe 24 = .ok (.iconst 0, 1) := by decide +kernel
theorem dX14_eventPipe_25 : decode cX14_eventPipe 25 = .ok (.goto 9, 3) := by decide +kernel
theorem dX14_eventPipe_28 : decode cX14_eventPipe 28 = .ok (.aload_n 0, 1) := by decide +kernel
theorem dX14_eventPipe_29 : decode cX14_eventPipe 29 = .ok (.getfield 31, 3) := by decide +kernel
theorem dX14_eventPipe_32 : decode cX14_eventPipe 32 = .ok (.iconst 1, 1) := by decide +kernel
theorem dX14_eventPipe_33 : decode cX14_eventPipe 33 = .ok (.iaload, 1) := by decide +kernel
theorem dX14_eventPipe_34 : decode cX14_eventPipe 34 = .ok (.ireturn, 1) := by decide +kernel
theorem dX14_eventBytes_0 : decode cX14_eventBytes 0 = .ok (.aload_n 0, 1) := by decide +kernel
theorem dX14_eventBytes_1 : decode cX14_eventBytes 1 = .ok (.aload_n 0, 1) := by decide +kernel
theorem dX14_eventBytes_2 : decode cX14_eventBytes 2 = .ok (.getfield 31, 3) := by decide +kernel
theorem dX14_eventBytes_5 : decode cX14_eventBytes 5 = .ok (.arraylength, 1) := by decide +kernel
theorem dX14_eventBytes_6 : decode cX14_eventBytes 6 = .ok (.ifCond .ne 7, 3) := by decide +kernel
theorem dX14_eventBytes_9 : decode cX14_eventBytes 9 = .ok (.iconst 1, 1) := by decide +kernel
theorem dX14_eventBytes_10 : decode cX14_eventBytes 10 = .ok (.goto 4, 3) := by decide +kernel
theorem dX14_eventBytes_13 : decode cX14_eventBytes 13 = .ok (.iconst 0, 1) := by decide +kernel
theorem dX14_eventBytes_14 : decode cX14_eventBytes 14 = .ok (.putfield 61, 3) := by decide +kernel
theorem dX14_eventBytes_17 : decode cX14_eventBytes 17 = .ok (.aload_n 0, 1) := by decide +kernel
theorem dX14_eventBytes_18 : decode cX14_eventBytes 18 = .ok (.getfield 61, 3) := by decide +kernel
theorem dX14_eventBytes_21 : decode cX14_eventBytes 21 = .ok (.ifCond .le 7, 3) := by decide +kernel
theorem dX14_eventBytes_24 : decode cX14_eventBytes 24 = .ok (.iconst 0, 1) := by decide +kernel
theorem dX14_eventBytes_25 : decode cX14_eventBytes 25 = .ok (.goto 9, 3) := by decide +kernel
theorem dX14_eventBytes_28 : decode cX14_eventBytes 28 = .ok (.aload_n 0, 1) := by decide +kernel
theorem dX14_eventBytes_29 : decode cX14_eventBytes 29 = .ok (.getfield 31, 3) := by decide +kernel
theorem dX14_eventBytes_32 : decode cX14_eventBytes 32 = .ok (.iconst 2, 1) := by decide +kernel
theorem dX14_eventBytes_33 : decode cX14_eventBytes 33 = .ok (.iaload, 1) := by decide +kernel
theorem dX14_eventBytes_34 : decode cX14_eventBytes 34 = .ok (.ireturn, 1) := by decide +kernel
theorem dX14_missed_0 : decode cX14_missed 0 = .ok (.aload_n 0, 1) := by decide +kernel
theorem dX14_missed_1 : decode cX14_missed 1 = .ok (.iconst 0, 1) := by decide +kernel
theorem dX14_missed_2 : decode cX14_missed 2 = .ok (.putfield 61, 3) := by decide +kernel
theorem dX14_missed_5 : decode cX14_missed 5 = .ok (.aload_n 0, 1) := by decide +kernel
theorem dX14_missed_6 : decode cX14_missed 6 = .ok (.getfield 287, 3) := by decide +kernel
theorem dX14_missed_9 : decode cX14_missed 9 = .ok (.ireturn, 1) := by decide +kernel
set_option maxRecDepth 20000 in
theorem ggX14_noEnd_X14_isEnd : GoodIn wsX14_noEnd wsX14_isEnd := goodIn_r _ [8, 1, 2, 9, 10, 11, 7, 12, 13, 14, 15, 16, 17, 18, 19, 20, 21, 22, 23, 24, 25, 26, 27, 28, 29, 30, 31, 32, 33, 34, 35, 36, 37, 38, 39, 40, 41, 42, 43, 44, 45, 46, 47, 48, 49, 50, 51, 52, 53, 54, 55, 56, 57, 58, 59, 60, 61, 62, 63, 64, 65, 66, 67, 68, 69, 70, 71, 72, 73, 79, 80, 81] (by decide +kernel) (by decide +kernel)
set_option maxRecDepth 20000 in
theorem gX14_noEnd_X14_isEnd : GoodIn wsX14_noEnd (wsV RX14 256 RX14 yX14_isEnd wsX14_isEnd) := goodIn_app (goodIn_of _ (by decide +kernel)) ggX14_noEnd_X14_isEnd
set_option maxRecDepth 20000 in
theorem ggX14_noEnd_Jx4a65c_get_915e3 : GoodIn wsX14_noEnd wsJx4a65c_get_915e3 := goodIn_r _ [25, 18, 26, 27, 28, 29, 30, 31, 32, 33, 34, 35, 36, 16, 37, 38, 79, 80, 81] (by decide +kernel) (by decide +kernel)
set_option maxRecDepth 20000 in
theorem gX14_noEnd_Jx4a65c_get_915e3 : GoodIn wsX14_noEnd (wsV RX14 76 RJx4a65c yJx4a65c_get_915e3 wsJx4a65c_get_915e3) := goodIn_app (goodIn_of _ (by decide +kernel)) ggX14_noEnd_Jx4a65c_get_915e3
theorem dX14_noEnd_0 : decode cX14_noEnd 0 = .ok (.aload_n 0, 1) := by decide +kernel
theorem dX14_noEnd_1 : decode cX14_noEnd 1 = .ok (.aload_n 0, 1) := by decide +kernel
theorem dX14_noEnd_2 : decode cX14_noEnd 2 = .ok (.iload_n 1, 1) := by decide +kernel
theorem dX14_noEnd_3 : decode cX14_noEnd 3 = .ok (.iload_n 2, 1) := by decide +kernel
theorem dX14_noEnd_4 : decode cX14_noEnd 4 = .ok (.invokevirtual 256, 3) := by decide +kernel
theorem dX14_noEnd_7 : decode cX14_noEnd 7 = .ok (.ifCond .ne 7, 3) := by decide +kernel
theorem dX14_noEnd_10 : decode cX14_noEnd 10 = .ok (.iconst 1, 1) := by decide +kernel
theorem dX14_noEnd_11 : decode cX14_noEnd 11 = .ok (.goto 31, 3) := by decide +kernel
theorem dX14_noEnd_14 : decode cX14_noEnd 14 = .ok (.aload_n 0, 1) := by decide +kernel
theorem dX14_noEnd_15 : decode cX14_noEnd 15 = .ok (.getfield 10, 3) := by decide +kernel
theorem dX14_noEnd_18 : decode cX14_noEnd 18 = .ok (.iload_n 1, 1) := by decide +kernel
theorem dX14_noEnd_19 : decode cX14_noEnd 19 = .ok (.invokevirtual 76, 3) := by decide +kernel
theorem dX14_noEnd_22 : decode cX14_noEnd 22 = .ok (.checkcast 48, 3) := by decide +kernel
theorem dX14_noEnd_25 : decode cX14_noEnd 25 = .ok (.getfield 96, 3) := by decide +kernel
theorem dX14_noEnd_28 : decode cX14_noEnd 28 = .ok (.iload_n 2, 1) := by decide +kernel
theorem dX14_noEnd_29 : decode cX14_noEnd 29 = .ok (.aaload, 1) := by decide +kernel
theorem dX14_noEnd_30 : decode cX14_noEnd 30 = .ok (.getfield 300, 3) := by decide +kernel
theorem dX14_noEnd_33 : decode cX14_noEnd 33 = .ok (.iload_n 3, 1) := by decide +kernel
theorem dX14_noEnd_34 : decode cX14_noEnd 34 = .ok (.if_icmp .eq 7, 3) := by decide +kernel
theorem dX14_noEnd_37 : decode cX14_noEnd 37 = .ok (.iconst 2, 1) := by decide +kernel
theorem dX14_noEnd_38 : decode cX14_noEnd 38 = .ok (.goto 4, 3) := by decide +kernel
theorem dX14_noEnd_41 : decode cX14_noEnd 41 = .ok (.iconst 0, 1) := by decide +kernel
theorem dX14_noEnd_42 : decode cX14_noEnd 42 = .ok (.putfield 61, 3) := by decide +kernel
theorem dX14_noEnd_45 : decode cX14_noEnd 45 = .ok (.aload_n 0, 1) := by decide +kernel
theorem dX14_noEnd_46 : decode cX14_noEnd 46 = .ok (.getfield 61, 3) := by decide +kernel
theorem dX14_noEnd_49 : decode cX14_noEnd 49 = .ok (.ifCond .le 7, 3) := by decide +kernel
theorem dX14_noEnd_52 : decode cX14_noEnd 52 = .ok (.iconst 1, 1) := by decide +kernel
theorem dX14_noEnd_53 : decode cX14_noEnd 53 = .ok (.goto 4, 3) := by decide +kernel
theorem dX14_noEnd_56 : decode cX14_noEnd 56 = .ok (.iconst 0, 1) := by decide +kernel
theorem dX14_noEnd_57 : decode cX14_noEnd 57 = .ok (.ireturn, 1) := by decide +kernel
set_option maxRecDepth 20000 in
theorem ggX14_taken__X14_noEnd : GoodIn wsX14_taken_ wsX14_noEnd := goodIn_r _ [7, 1, 2, 8, 9, 10, 11, 6, 12, 13, 14, 15, 16, 17, 18, 19, 20, 21, 22, 23, 24, 25, 26, 27, 28, 29, 30, 31, 32, 33, 34, 35, 36, 37, 38, 39, 40, 41, 42, 43, 44, 45, 46, 47, 48, 49, 50, 51, 52, 53, 54, 55, 56, 57, 58, 59, 60, 61, 62, 63, 64, 65, 66, 67, 68, 69, 70, 71, 72, 73, 74, 75, 76, 77, 78, 79, 80, 81, 82, 83, 84, 85] (by decide +kernel) (by decide +kernel)
set_option maxRecDepth 20000 in
theorem gX14_taken__X14_noEnd : GoodIn wsX14_taken_ (wsV RX14 403 RX14 yX14_noEnd wsX14_noEnd) := goodIn_app (goodIn_of _ (by decide +kernel)) ggX14_taken__X14_noEnd
set_option maxRecDepth 20000 in
theorem ggX14_taken__Jx4a65c_get_915e3 : GoodIn wsX14_taken_ wsJx4a65c_get_915e3 := goodIn_r _ [29, 22, 30, 31, 32, 33, 34, 35, 36, 37, 38, 39, 40, 20, 41, 42, 83, 84, 85] (by decide +kernel) (by decide +kernel)
set_option maxRecDepth 20000 in
theorem gX14_taken__Jx4a65c_get_915e3 : GoodIn wsX14_taken_ (wsV RX14 76 RJx4a65c yJx4a65c_get_915e3 wsJx4a65c_get_915e3) := goodIn_app (goodIn_of _ (by decide +kernel)) ggX14_taken__Jx4a65c_get_915e3
set_option maxRecDepth 20000 in
theorem ggX14_taken__Jx4a65c_size_8abf5 : GoodIn wsX14_taken_ wsJx4a65c_size_8abf5 := goodIn_r _ [21, 22, 83, 84, 85] (by decide +kernel) (by decide +kernel)
set_option maxRecDepth 20000 in
theorem gX14_taken__Jx4a65c_size_8abf5 : GoodIn wsX14_taken_ (wsV RX14 64 RJx4a65c yJx4a65c_size_8abf5 wsJx4a65c_size_8abf5) := goodIn_app (goodIn_of _ (by decide +kernel)) ggX14_taken__Jx4a65c_size_8abf5
theorem dX14_taken__0 : decode cX14_taken_ 0 = .ok (.aload_n 0, 1) := by decide +kernel
theorem dX14_taken__1 : decode cX14_taken_ 1 = .ok (.iload_n 1, 1) := by decide +kernel
theorem dX14_taken__2 : decode cX14_taken_ 2 = .ok (.iload_n 2, 1) := by decide +kernel
theorem dX14_taken__3 : decode cX14_taken_ 3 = .ok (.iconst 0, 1) := by decide +kernel
theorem dX14_taken__4 : decode cX14_taken_ 4 = .ok (.invokevirtual 403, 3) := by decide +kernel
theorem dX14_taken__7 : decode cX14_taken_ 7 = .ok (.ifCond .eq 7, 3) := by decide +kernel
theorem dX14_taken__10 : decode cX14_taken_ 10 = .ok (.iconst 0, 1) := by decide +kernel
theorem dX14_taken__11 : decode cX14_taken_ 11 = .ok (.goto 25, 3) := by decide +kernel
theorem dX14_taken__14 : decode cX14_taken_ 14 = .ok (.aload_n 0, 1) := by decide +kernel
theorem dX14_taken__15 : decode cX14_taken_ 15 = .ok (.getfield 10, 3) := by decide +kernel
theorem dX14_taken__18 : decode cX14_taken_ 18 = .ok (.iload_n 1, 1) := by decide +kernel
theorem dX14_taken__19 : decode cX14_taken_ 19 = .ok (.invokevirtual 76, 3) := by decide +kernel
theorem dX14_taken__22 : decode cX14_taken_ 22 = .ok (.checkcast 48, 3) := by decide +kernel
theorem dX14_taken__25 : decode cX14_taken_ 25 = .ok (.getfield 96, 3) := by decide +kernel
theorem dX14_taken__28 : decode cX14_taken_ 28 = .ok (.iload_n 2, 1) := by decide +kernel
theorem dX14_taken__29 : decode cX14_taken_ 29 = .ok (.aaload, 1) := by decide +kernel
theorem dX14_taken__30 : decode cX14_taken_ 30 = .ok (.getfield 320, 3) := by decide +kernel
theorem dX14_taken__33 : decode cX14_taken_ 33 = .ok (.invokevirtual 64, 3) := by decide +kernel
theorem dX14_taken__36 : decode cX14_taken_ 36 = .ok (.ireturn, 1) := by decide +kernel
set_option maxRecDepth 20000 in
theorem ggX14_lastOf_Jx4a65c_size_8abf5 : GoodIn wsX14_lastOf wsJx4a65c_size_8abf5 := goodIn_r _ [11, 12, 59, 60, 61] (by decide +kernel) (by decide +kernel)
set_option maxRecDepth 20000 in
theorem gX14_lastOf_Jx4a65c_size_8abf5 : GoodIn wsX14_lastOf (wsV RX14 64 RJx4a65c yJx4a65c_size_8abf5 wsJx4a65c_size_8abf5) := goodIn_app (goodIn_of _ (by decide +kernel)) ggX14_lastOf_Jx4a65c_size_8abf5
set_option maxRecDepth 20000 in
theorem ggX14_lastOf_X14_in : GoodIn wsX14_lastOf wsX14_in := goodIn_r _ [16] (by decide +kernel) (by decide +kernel)
set_option maxRecDepth 20000 in
theorem gX14_lastOf_X14_in : GoodIn wsX14_lastOf (va_wsS RX14 68 yX14_in wsX14_in) := goodIn_app (goodIn_of _ (by decide +kernel)) ggX14_lastOf_X14_in
set_option maxRecDepth 20000 in
theorem ggX14_lastOf_Jx4a65c_get_915e3 : GoodIn wsX14_lastOf wsJx4a65c_get_915e3 := goodIn_r _ [20, 12, 21, 22, 23, 24, 25, 26, 27, 28, 29, 30, 31, 10, 32, 33, 59, 60, 61] (by decide +kernel) (by decide +kernel)
set_option maxRecDepth 20000 in
theorem gX14_lastOf_Jx4a65c_get_915e3 : GoodIn wsX14_lastOf (wsV RX14 76 RJx4a65c yJx4a65c_get_915e3 wsJx4a65c_get_915e3) := goodIn_app (goodIn_of _ (by decide +kernel)) ggX14_lastOf_Jx4a65c_get_915e3
set_option maxRecDepth 20000 in
theorem ggX14_lastOf_J6_intValue_8abf5 : GoodIn wsX14_lastOf wsJ6_intValue_8abf5 := goodIn_r _ [38, 39, 62] (by decide +kernel) (by decide +kernel)
set_option maxRecDepth 20000 in
theorem gX14_lastOf_J6_intValue_8abf5 : GoodIn wsX14_lastOf (wsV RX14 222 RJ6 yJ6_intValue_8abf5 wsJ6_intValue_8abf5) := goodIn_app (goodIn_of _ (by decide +kernel)) ggX14_lastOf_J6_intValue_8abf5
theorem dX14_lastOf_0 : decode cX14_lastOf 0 = .ok (.aload_n 0, 1) := by decide +kernel
theorem dX14_lastOf_1 : decode cX14_lastOf 1 = .ok (.iload_n 2, 1) := by decide +kernel
theorem dX14_lastOf_2 : decode cX14_lastOf 2 = .ok (.iconst 0, 1) := by decide +kernel
theorem dX14_lastOf_3 : decode cX14_lastOf 3 = .ok (.bipush 32, 2) := by decide +kernel
theorem dX14_lastOf_5 : decode cX14_lastOf 5 = .ok (.aload_n 1, 1) := by decide +kernel
theorem dX14_lastOf_6 : decode cX14_lastOf 6 = .ok (.invokevirtual 64, 3) := by decide +kernel
theorem dX14_lastOf_9 : decode cX14_lastOf 9 = .ok (.invokestatic 341, 3) := by decide +kernel
theorem dX14_lastOf_12 : decode cX14_lastOf 12 = .ok (.iconst 1, 1) := by decide +kernel
theorem dX14_lastOf_13 : decode cX14_lastOf 13 = .ok (.isub, 1) := by decide +kernel
theorem dX14_lastOf_14 : decode cX14_lastOf 14 = .ok (.invokestatic 68, 3) := by decide +kernel
theorem dX14_lastOf_17 : decode cX14_lastOf 17 = .ok (.ifCond .eq 7, 3) := by decide +kernel
theorem dX14_lastOf_20 : decode cX14_lastOf 20 = .ok (.iconst 0, 1) := by decide +kernel
theorem dX14_lastOf_21 : decode cX14_lastOf 21 = .ok (.goto 4, 3) := by decide +kernel
theorem dX14_lastOf_24 : decode cX14_lastOf 24 = .ok (.iload_n 3, 1) := by decide +kernel
theorem dX14_lastOf_25 : decode cX14_lastOf 25 = .ok (.putfield 61, 3) := by decide +kernel
theorem dX14_lastOf_28 : decode cX14_lastOf 28 = .ok (.aload_n 0, 1) := by decide +kernel
theorem dX14_lastOf_29 : decode cX14_lastOf 29 = .ok (.getfield 61, 3) := by decide +kernel
theorem dX14_lastOf_32 : decode cX14_lastOf 32 = .ok (.ifCond .le 7, 3) := by decide +kernel
theorem dX14_lastOf_35 : decode cX14_lastOf 35 = .ok (.iconst 0, 1) := by decide +kernel
theorem dX14_lastOf_36 : decode cX14_lastOf 36 = .ok (.goto 21, 3) := by decide +kernel
theorem dX14_lastOf_39 : decode cX14_lastOf 39 = .ok (.aload_n 1, 1) := by decide +kernel
theorem dX14_lastOf_40 : decode cX14_lastOf 40 = .ok (.aload_n 1, 1) := by decide +kernel
theorem dX14_lastOf_41 : decode cX14_lastOf 41 = .ok (.invokevirtual 64, 3) := by decide +kernel
theorem dX14_lastOf_44 : decode cX14_lastOf 44 = .ok (.iconst 1, 1) := by decide +kernel
theorem dX14_lastOf_45 : decode cX14_lastOf 45 = .ok (.isub, 1) := by decide +kernel
theorem dX14_lastOf_46 : decode cX14_lastOf 46 = .ok (.iload_n 2, 1) := by decide +kernel
theorem dX14_lastOf_47 : decode cX14_lastOf 47 = .ok (.isub, 1) := by decide +kernel
theorem dX14_lastOf_48 : decode cX14_lastOf 48 = .ok (.invokevirtual 76, 3) := by decide +kernel
theorem dX14_lastOf_51 : decode cX14_lastOf 51 = .ok (.checkcast 213, 3) := by decide +kernel
theorem dX14_lastOf_54 : decode cX14_lastOf 54 = .ok (.invokevirtual 222, 3) := by decide +kernel
theorem dX14_lastOf_57 : decode cX14_lastOf 57 = .ok (.ireturn, 1) := by decide +kernel
set_option maxRecDepth 20000 in
theorem ggX14_takenAt_X14_noEnd : GoodIn wsX14_takenAt wsX14_noEnd := goodIn_r _ [7, 1, 2, 8, 9, 10, 11, 6, 12, 13, 14, 15, 16, 17, 18, 19, 20, 21, 22, 23, 24, 25, 26, 27, 28, 29, 30, 31, 32, 33, 34, 35, 36, 37, 38, 39, 40, 41, 42, 58, 59, 60, 61, 62, 63, 64, 65, 66, 67, 68, 69, 70, 71, 72, 73, 74, 75, 76, 77, 78, 79, 80, 81, 82, 83, 84, 85, 86, 87, 88, 89, 90, 91, 92, 93, 94, 95, 96, 97, 98, 99, 100] (by decide +kernel) (by decide +kernel)
set_option maxRecDepth 20000 in
theorem gX14_takenAt_X14_noEnd : GoodIn wsX14_takenAt (wsV RX14 403 RX14 yX14_noEnd wsX14_noEnd) := goodIn_app (goodIn_of _ (by decide +kernel)) ggX14_takenAt_X14_noEnd
set_option maxRecDepth 20000 in
theorem ggX14_takenAt_Jx4a65c_get_915e3 : GoodIn wsX14_takenAt wsJx4a65c_get_915e3 := goodIn_r _ [29, 22, 30, 31, 32, 33, 34, 35, 36, 37, 38, 39, 40, 20, 41, 42, 98, 99, 100] (by decide +kernel) (by decide +kernel)
set_option maxRecDepth 20000 in
theorem gX14_takenAt_Jx4a65c_get_915e3 : GoodIn wsX14_takenAt (wsV RX14 76 RJx4a65c yJx4a65c_get_915e3 wsJx4a65c_get_915e3) := goodIn_app (goodIn_of _ (by decide +kernel)) ggX14_takenAt_Jx4a65c_get_915e3
set_option maxRecDepth 20000 in
theorem ggX14_takenAt_X14_lastOf : GoodIn wsX14_takenAt wsX14_lastOf := goodIn_r _ [46, 47, 48, 49, 50, 8, 51, 17, 18, 19, 20, 21, 22, 23, 24, 6, 25, 26, 27, 28, 29, 30, 31, 32, 33, 34, 35, 36, 37, 38, 39, 40, 41, 42, 52, 53, 54, 55, 56, 57, 58, 59, 60, 61, 62, 63, 64, 65, 66, 67, 68, 69, 70, 71, 72, 73, 74, 75, 76, 98, 99, 100, 101] (by decide +kernel) (by decide +kernel)
set_option maxRecDepth 20000 in
theorem gX14_takenAt_X14_lastOf : GoodIn wsX14_takenAt (wsV RX14 407 RX14 yX14_lastOf wsX14_lastOf) := goodIn_app (goodIn_of _ (by decide +kernel)) ggX14_takenAt_X14_lastOf
theorem dX14_takenAt_0 : decode cX14_takenAt 0 = .ok (.aload_n 0, 1) := by decide +kernel
theorem dX14_takenAt_1 : decode cX14_takenAt 1 = .ok (.iload_n 1, 1) := by decide +kernel
theorem dX14_takenAt_2 : decode cX14_takenAt 2 = .ok (.iload_n 2, 1) := by decide +kernel
theorem dX14_takenAt_3 : decode cX14_takenAt 3 = .ok (.iconst 0, 1) := by decide +kernel
theorem dX14_takenAt_4 : decode cX14_takenAt 4 = .ok (.invokevirtual 403, 3) := by decide +kernel
theorem dX14_takenAt_7 : decode cX14_takenAt 7 = .ok (.ifCond .eq 7, 3) := by decide +kernel
theorem dX14_takenAt_10 : decode cX14_takenAt 10 = .ok (.iconst 0, 1) := by decide +kernel
theorem dX14_takenAt_11 : decode cX14_takenAt 11 = .ok (.goto 28, 3) := by decide +kernel
theorem dX14_takenAt_14 : decode cX14_takenAt 14 = .ok (.aload_n 0, 1) := by decide +kernel
theorem dX14_takenAt_15 : decode cX14_takenAt 15 = .ok (.aload_n 0, 1) := by decide +kernel
theorem dX14_takenAt_16 : decode cX14_takenAt 16 = .ok (.getfield 10, 3) := by decide +kernel
theorem dX14_takenAt_19 : decode cX14_takenAt 19 = .ok (.iload_n 1, 1) := by decide +kernel
theorem dX14_takenAt_20 : decode cX14_takenAt 20 = .ok (.invokevirtual 76, 3) := by decide +kernel
theorem dX14_takenAt_23 : decode cX14_takenAt 23 = .ok (.checkcast 48, 3) := by decide +kernel
theorem dX14_takenAt_26 : decode cX14_takenAt 26 = .ok (.getfield 96, 3) := by decide +kernel
theorem dX14_takenAt_29 : decode cX14_takenAt 29 = .ok (.iload_n 2, 1) := by decide +kernel
theorem dX14_takenAt_30 : decode cX14_takenAt 30 = .ok (.aaload, 1) := by decide +kernel
theorem dX14_takenAt_31 : decode cX14_takenAt 31 = .ok (.getfield 320, 3) := by decide +kernel
theorem dX14_takenAt_34 : decode cX14_takenAt 34 = .ok (.iload_n 3, 1) := by decide +kernel
theorem dX14_takenAt_35 : decode cX14_takenAt 35 = .ok (.iconst 3, 1) := by decide +kernel
theorem dX14_takenAt_36 : decode cX14_takenAt 36 = .ok (.invokevirtual 407, 3) := by decide +kernel
theorem dX14_takenAt_39 : decode cX14_takenAt 39 = .ok (.ireturn, 1) := by decide +kernel
set_option maxRecDepth 20000 in
theorem ggX14_waiting_X14_noEnd : GoodIn wsX14_waiting wsX14_noEnd := goodIn_r _ [7, 1, 2, 8, 9, 10, 11, 6, 12, 13, 14, 15, 16, 17, 18, 19, 20, 21, 22, 23, 24, 25, 26, 27, 28, 29, 30, 31, 32, 33, 34, 35, 36, 37, 38, 39, 40, 41, 42, 43, 44, 45, 46, 47, 48, 49, 50, 51, 52, 53, 54, 55, 56, 57, 58, 59, 60, 61, 62, 63, 64, 65, 66, 67, 68, 69, 70, 71, 72, 73, 74, 75, 76, 77, 78, 79, 80, 81, 82, 83, 84, 85] (by decide +kernel) (by decide +kernel)
set_option maxRecDepth 20000 in
theorem gX14_waiting_X14_noEnd : GoodIn wsX14_waiting (wsV RX14 403 RX14 yX14_noEnd wsX14_noEnd) := goodIn_app (goodIn_of _ (by decide +kernel)) ggX14_waiting_X14_noEnd
set_option maxRecDepth 20000 in
theorem ggX14_waiting_Jx4a65c_get_915e3 : GoodIn wsX14_waiting wsJx4a65c_get_915e3 := goodIn_r _ [29, 22, 30, 31, 32, 33, 34, 35, 36, 37, 38, 39, 40, 20, 41, 42, 83, 84, 85] (by decide +kernel) (by decide +kernel)
set_option maxRecDepth 20000 in
theorem gX14_waiting_Jx4a65c_get_915e3 : GoodIn wsX14_waiting (wsV RX14 76 RJx4a65c yJx4a65c_get_915e3 wsJx4a65c_get_915e3) := goodIn_app (goodIn_of _ (by decide +kernel)) ggX14_waiting_Jx4a65c_get_915e3
set_option maxRecDepth 20000 in
theorem ggX14_waiting_Jx4a65c_size_8abf5 : GoodIn wsX14_waiting wsJx4a65c_size_8abf5 := goodIn_r _ [21, 22, 83, 84, 85] (by decide +kernel) (by decide +kernel)
set_option maxRecDepth 20000 in
theorem gX14_waiting_Jx4a65c_size_8abf5 : GoodIn wsX14_waiting (wsV RX14 64 RJx4a65c yJx4a65c_size_8abf5 wsJx4a65c_size_8abf5) := goodIn_app (goodIn_of _ (by decide +kernel)) ggX14_waiting_Jx4a65c_size_8abf5
theorem dX14_waiting_0 : decode cX14_waiting 0 = .ok (.aload_n 0, 1) := by decide +kernel
theorem dX14_waiting_1 : decode cX14_waiting 1 = .ok (.iload_n 1, 1) := by decide +kernel
theorem dX14_waiting_2 : decode cX14_waiting 2 = .ok (.iload_n 2, 1) := by decide +kernel
theorem dX14_waiting_3 : decode cX14_waiting 3 = .ok (.iconst 1, 1) := by decide +kernel
theorem dX14_waiting_4 : decode cX14_waiting 4 = .ok (.invokevirtual 403, 3) := by decide +kernel
theorem dX14_waiting_7 : decode cX14_waiting 7 = .ok (.ifCond .eq 7, 3) := by decide +kernel
theorem dX14_waiting_10 : decode cX14_waiting 10 = .ok (.iconst 0, 1) := by decide +kernel
theorem dX14_waiting_11 : decode cX14_waiting 11 = .ok (.goto 25, 3) := by decide +kernel
theorem dX14_waiting_14 : decode cX14_waiting 14 = .ok (.aload_n 0, 1) := by decide +kernel
theorem dX14_waiting_15 : decode cX14_waiting 15 = .ok (.getfield 10, 3) := by decide +kernel
theorem dX14_waiting_18 : decode cX14_waiting 18 = .ok (.iload_n 1, 1) := by decide +kernel
theorem dX14_waiting_19 : decode cX14_waiting 19 = .ok (.invokevirtual 76, 3) := by decide +kernel
theorem dX14_waiting_22 : decode cX14_waiting 22 = .ok (.checkcast 48, 3) := by decide +kernel
theorem dX14_waiting_25 : decode cX14_waiting 25 = .ok (.getfield 96, 3) := by decide +kernel
theorem dX14_waiting_28 : decode cX14_waiting 28 = .ok (.iload_n 2, 1) := by decide +kernel
theorem dX14_waiting_29 : decode cX14_waiting 29 = .ok (.aaload, 1) := by decide +kernel
theorem dX14_waiting_30 : decode cX14_waiting 30 = .ok (.getfield 320, 3) := by decide +kernel
theorem dX14_waiting_33 : decode cX14_waiting 33 = .ok (.invokevirtual 64, 3) := by decide +kernel
theorem dX14_waiting_36 : decode cX14_waiting 36 = .ok (.ireturn, 1) := by decide +kernel
set_option maxRecDepth 20000 in
theorem ggX14_got_Jx4a65c_size_8abf5 : GoodIn wsX14_got wsJx4a65c_size_8abf5 := goodIn_r _ [7, 8, 28, 29, 30] (by decide +kernel) (by decide +kernel)
set_option maxRecDepth 20000 in
theorem gX14_got_Jx4a65c_size_8abf5 : GoodIn wsX14_got (wsV RX14 64 RJx4a65c yJx4a65c_size_8abf5 wsJx4a65c_size_8abf5) := goodIn_app (goodIn_of _ (by decide +kernel)) ggX14_got_Jx4a65c_size_8abf5
theorem dX14_got_0 : decode cX14_got 0 = .ok (.aload_n 0, 1) := by decide +kernel
theorem dX14_got_1 : decode cX14_got 1 = .ok (.iconst 0, 1) := by decide +kernel
theorem dX14_got_2 : decode cX14_got 2 = .ok (.putfield 61, 3) := by decide +kernel
theorem dX14_got_5 : decode cX14_got 5 = .ok (.aload_n 0, 1) := by decide +kernel
theorem dX14_got_6 : decode cX14_got 6 = .ok (.getfield 35, 3) := by decide +kernel
theorem dX14_got_9 : decode cX14_got 9 = .ok (.invokevirtual 64, 3) := by decide +kernel
theorem dX14_got_12 : decode cX14_got 12 = .ok (.ireturn, 1) := by decide +kernel
set_option maxRecDepth 20000 in
theorem ggX14_gotAt_X14_lastOf : GoodIn wsX14_gotAt wsX14_lastOf := goodIn_r _ [6, 7, 8, 9, 10, 11, 12, 13, 14, 15, 16, 17, 18, 19, 20, 5, 21, 22, 23, 24, 25, 26, 27, 28, 29, 30, 31, 32, 33, 34, 35, 36, 37, 38, 39, 40, 41, 42, 43, 44, 45, 46, 47, 48, 49, 50, 51, 52, 53, 54, 55, 56, 57, 58, 59, 60, 61, 62, 63, 64, 65, 66, 67] (by decide +kernel) (by decide +kernel)
set_option maxRecDepth 20000 in
theorem gX14_gotAt_X14_lastOf : GoodIn wsX14_gotAt (wsV RX14 407 RX14 yX14_lastOf wsX14_lastOf) := goodIn_app (goodIn_of _ (by decide +kernel)) ggX14_gotAt_X14_lastOf
theorem dX14_gotAt_0 : decode cX14_gotAt 0 = .ok (.aload_n 0, 1) := by decide +kernel
theorem dX14_gotAt_1 : decode cX14_gotAt 1 = .ok (.aload_n 0, 1) := by decide +kernel
theorem dX14_gotAt_2 : decode cX14_gotAt 2 = .ok (.getfield 35, 3) := by decide +kernel
theorem dX14_gotAt_5 : decode cX14_gotAt 5 = .ok (.iload_n 1, 1) := by decide +kernel
theorem dX14_gotAt_6 : decode cX14_gotAt 6 = .ok (.iconst 1, 1) := by decide +kernel
theorem dX14_gotAt_7 : decode cX14_gotAt 7 = .ok (.invokevirtual 407, 3) := by decide +kernel
theorem dX14_gotAt_10 : decode cX14_gotAt 10 = .ok (.ireturn, 1) := by decide +kernel
theorem dX14_packets_0 : decode cX14_packets 0 = .ok (.aload_n 0, 1) := by decide +kernel
theorem dX14_packets_1 : decode cX14_packets 1 = .ok (.iload_n 1, 1) := by decide +kernel
theorem dX14_packets_2 : decode cX14_packets 2 = .ok (.bipush 116, 2) := by decide +kernel
theorem dX14_packets_4 : decode cX14_packets 4 = .ok (.if_icmp .eq 15, 3) := by decide +kernel
theorem dX14_packets_7 : decode cX14_packets 7 = .ok (.iload_n 1, 1) := by decide +kernel
theorem dX14_packets_8 : decode cX14_packets 8 = .ok (.bipush 100, 2) := by decide +kernel
theorem dX14_packets_10 : decode cX14_packets 10 = .ok (.if_icmp .eq 9, 3) := by decide +kernel
theorem dX14_packets_13 : decode cX14_packets 13 = .ok (.iload_n 1, 1) := by decide +kernel
theorem dX14_packets_14 : decode cX14_packets 14 = .ok (.bipush 104, 2) := by decide +kernel
theorem dX14_packets_16 : decode cX14_packets 16 = .ok (.if_icmp .ne 7, 3) := by decide +kernel
theorem dX14_packets_19 : decode cX14_packets 19 = .ok (.iconst 0, 1) := by decide +kernel
theorem dX14_packets_20 : decode cX14_packets 20 = .ok (.goto 4, 3) := by decide +kernel
theorem dX14_packets_23 : decode cX14_packets 23 = .ok (.iconst 1, 1) := by decide +kernel
theorem dX14_packets_24 : decode cX14_packets 24 = .ok (.putfield 61, 3) := by decide +kernel
theorem dX14_packets_27 : decode cX14_packets 27 = .ok (.aload_n 0, 1) := by decide +kernel
theorem dX14_packets_28 : decode cX14_packets 28 = .ok (.getfield 61, 3) := by decide +kernel
theorem dX14_packets_31 : decode cX14_packets 31 = .ok (.ifCond .le 7, 3) := by decide +kernel
theorem dX14_packets_34 : decode cX14_packets 34 = .ok (.iconst 0, 1) := by decide +kernel
theorem dX14_packets_35 : decode cX14_packets 35 = .ok (.goto 33, 3) := by decide +kernel
theorem dX14_packets_38 : decode cX14_packets 38 = .ok (.iload_n 1, 1) := by decide +kernel
theorem dX14_packets_39 : decode cX14_packets 39 = .ok (.bipush 116, 2) := by decide +kernel
theorem dX14_packets_41 : decode cX14_packets 41 = .ok (.if_icmp .ne 10, 3) := by decide +kernel
theorem dX14_packets_44 : decode cX14_packets 44 = .ok (.aload_n 0, 1) := by decide +kernel
theorem dX14_packets_45 : decode cX14_packets 45 = .ok (.getfield 163, 3) := by decide +kernel
theorem dX14_packets_48 : decode cX14_packets 48 = .ok (.goto 20, 3) := by decide +kernel
theorem dX14_packets_51 : decode cX14_packets 51 = .ok (.iload_n 1, 1) := by decide +kernel
theorem dX14_packets_52 : decode cX14_packets 52 = .ok (.bipush 100, 2) := by decide +kernel
theorem dX14_packets_54 : decode cX14_packets 54 = .ok (.if_icmp .ne 10, 3) := by decide +kernel
theorem dX14_packets_57 : decode cX14_packets 57 = .ok (.aload_n 0, 1) := by decide +kernel
theorem dX14_packets_58 : decode cX14_packets 58 = .ok (.getfield 366, 3) := by decide +kernel
theorem dX14_packets_61 : decode cX14_packets 61 = .ok (.goto 7, 3) := by decide +kernel
theorem dX14_packets_64 : decode cX14_packets 64 = .ok (.aload_n 0, 1) := by decide +kernel
theorem dX14_packets_65 : decode cX14_packets 65 = .ok (.getfield 381, 3) := by decide +kernel
theorem dX14_packets_68 : decode cX14_packets 68 = .ok (.ireturn, 1) := by decide +kernel
set_option maxRecDepth 20000 in
theorem ggX14_blame_X14_noDevice : GoodIn wsX14_blame wsX14_noDevice := goodIn_r _ [7, 8, 9, 10, 11, 6, 12, 1, 13, 14, 15, 16, 17, 18, 19, 20, 21, 39, 40, 41, 42, 43, 44, 45, 46, 47, 48, 49, 50, 51, 52, 53, 54, 55, 56, 57, 74, 75, 76] (by decide +kernel) (by decide +kernel)
set_option maxRecDepth 20000 in
theorem gX14_blame_X14_noDevice : GoodIn wsX14_blame (wsV RX14 90 RX14 yX14_noDevice wsX14_noDevice) := goodIn_app (goodIn_of _ (by decide +kernel)) ggX14_blame_X14_noDevice
set_option maxRecDepth 20000 in
theorem ggX14_blame_Jx4a65c_get_915e3 : GoodIn wsX14_blame wsJx4a65c_get_915e3 := goodIn_r _ [25, 18, 26, 27, 28, 29, 30, 31, 32, 33, 34, 35, 36, 16, 37, 38, 74, 75, 76] (by decide +kernel) (by decide +kernel)
set_option maxRecDepth 20000 in
theorem gX14_blame_Jx4a65c_get_915e3 : GoodIn wsX14_blame (wsV RX14 76 RJx4a65c yJx4a65c_get_915e3 wsJx4a65c_get_915e3) := goodIn_app (goodIn_of _ (by decide +kernel)) ggX14_blame_Jx4a65c_get_915e3
theorem dX14_blame_0 : decode cX14_blame 0 = .ok (.aload_n 0, 1) := by decide +kernel
theorem dX14_blame_1 : decode cX14_blame 1 = .ok (.iload_n 1, 1) := by decide +kernel
theorem dX14_blame_2 : decode cX14_blame 2 = .ok (.invokevirtual 90, 3) := by decide +kernel
theorem dX14_blame_5 : decode cX14_blame 5 = .ok (.ifCond .eq 7, 3) := by decide +kernel
theorem dX14_blame_8 : decode cX14_blame 8 = .ok (.iconst 0, 1) := by decide +kernel
theorem dX14_blame_9 : decode cX14_blame 9 = .ok (.goto 17, 3) := by decide +kernel
theorem dX14_blame_12 : decode cX14_blame 12 = .ok (.aload_n 0, 1) := by decide +kernel
theorem dX14_blame_13 : decode cX14_blame 13 = .ok (.getfield 10, 3) := by decide +kernel
theorem dX14_blame_16 : decode cX14_blame 16 = .ok (.iload_n 1, 1) := by decide +kernel
theorem dX14_blame_17 : decode cX14_blame 17 = .ok (.invokevirtual 76, 3) := by decide +kernel
theorem dX14_blame_20 : decode cX14_blame 20 = .ok (.checkcast 48, 3) := by decide +kernel
theorem dX14_blame_23 : decode cX14_blame 23 = .ok (.getfield 180, 3) := by decide +kernel
theorem dX14_blame_26 : decode cX14_blame 26 = .ok (.ireturn, 1) := by decide +kernel
set_option maxRecDepth 20000 in
theorem ggX14_causeOf_X14_noPipe : GoodIn wsX14_causeOf wsX14_noPipe := goodIn_r _ [7, 1, 2, 8, 9, 6, 10, 11, 12, 13, 14, 15, 16, 17, 18, 19, 20, 21, 22, 23, 24, 25, 26, 27, 28, 29] (by decide +kernel) (by decide +kernel)
set_option maxRecDepth 20000 in
theorem gX14_causeOf_X14_noPipe : GoodIn wsX14_causeOf (wsV RX14 293 RX14 yX14_noPipe wsX14_noPipe) := goodIn_app (goodIn_of _ (by decide +kernel)) ggX14_causeOf_X14_noPipe
theorem dX14_causeOf_0 : decode cX14_causeOf 0 = .ok (.aload_n 0, 1) := by decide +kernel
theorem dX14_causeOf_1 : decode cX14_causeOf 1 = .ok (.iload_n 1, 1) := by decide +kernel
theorem dX14_causeOf_2 : decode cX14_causeOf 2 = .ok (.invokevirtual 293, 3) := by decide +kernel
theorem dX14_causeOf_5 : decode cX14_causeOf 5 = .ok (.ifCond .eq 6, 3) := by decide +kernel
theorem dX14_causeOf_8 : decode cX14_causeOf 8 = .ok (.bipush 32, 2) := by decide +kernel
theorem dX14_causeOf_10 : decode cX14_causeOf 10 = .ok (.ireturn, 1) := by decide +kernel
theorem dX14_causeOf_11 : decode cX14_causeOf 11 = .ok (.aload_n 0, 1) := by decide +kernel
theorem dX14_causeOf_12 : decode cX14_causeOf 12 = .ok (.aload_n 0, 1) := by decide +kernel
theorem dX14_causeOf_13 : decode cX14_causeOf 13 = .ok (.getfield 18, 3) := by decide +kernel
theorem dX14_causeOf_16 : decode cX14_causeOf 16 = .ok (.iload_n 1, 1) := by decide +kernel
theorem dX14_causeOf_17 : decode cX14_causeOf 17 = .ok (.aaload, 1) := by decide +kernel
theorem dX14_causeOf_18 : decode cX14_causeOf 18 = .ok (.getfield 378, 3) := by decide +kernel
theorem dX14_causeOf_21 : decode cX14_causeOf 21 = .ok (.bipush 32, 2) := by decide +kernel
theorem dX14_causeOf_23 : decode cX14_causeOf 23 = .ok (.if_icmp .ne 7, 3) := by decide +kernel
theorem dX14_causeOf_26 : decode cX14_causeOf 26 = .ok (.iconst 2, 1) := by decide +kernel
theorem dX14_causeOf_27 : decode cX14_causeOf 27 = .ok (.goto 4, 3) := by decide +kernel
theorem dX14_causeOf_30 : decode cX14_causeOf 30 = .ok (.iconst 0, 1) := by decide +kernel
theorem dX14_causeOf_31 : decode cX14_causeOf 31 = .ok (.putfield 61, 3) := by decide +kernel
theorem dX14_causeOf_34 : decode cX14_causeOf 34 = .ok (.aload_n 0, 1) := by decide +kernel
theorem dX14_causeOf_35 : decode cX14_causeOf 35 = .ok (.getfield 18, 3) := by decide +kernel
theorem dX14_causeOf_38 : decode cX14_causeOf 38 = .ok (.iload_n 1, 1) := by decide +kernel
theorem dX14_causeOf_39 : decode cX14_causeOf 39 = .ok (.aaload, 1) := by decide +kernel
theorem dX14_causeOf_40 : decode cX14_causeOf 40 = .ok (.getfield 378, 3) := by decide +kernel
theorem dX14_causeOf_43 : decode cX14_causeOf 43 = .ok (.ireturn, 1) := by decide +kernel
theorem dX14_busyShare_0 : decode cX14_busyShare 0 = .ok (.aload_n 0, 1) := by decide +kernel
theorem dX14_busyShare_1 : decode cX14_busyShare 1 = .ok (.aload_n 0, 1) := by decide +kernel
theorem dX14_busyShare_2 : decode cX14_busyShare 2 = .ok (.getfield 205, 3) := by decide +kernel
theorem dX14_busyShare_5 : decode cX14_busyShare 5 = .ok (.ifCond .ne 7, 3) := by decide +kernel
theorem dX14_busyShare_8 : decode cX14_busyShare 8 = .ok (.iconst 1, 1) := by decide +kernel
theorem dX14_busyShare_9 : decode cX14_busyShare 9 = .ok (.goto 4, 3) := by decide +kernel
theorem dX14_busyShare_12 : decode cX14_busyShare 12 = .ok (.iconst 0, 1) := by decide +kernel
theorem dX14_busyShare_13 : decode cX14_busyShare 13 = .ok (.putfield 61, 3) := by decide +kernel
theorem dX14_busyShare_16 : decode cX14_busyShare 16 = .ok (.aload_n 0, 1) := by decide +kernel
theorem dX14_busyShare_17 : decode cX14_busyShare 17 = .ok (.getfield 61, 3) := by decide +kernel
theorem dX14_busyShare_20 : decode cX14_busyShare 20 = .ok (.ifCond .le 7, 3) := by decide +kernel
theorem dX14_busyShare_23 : decode cX14_busyShare 23 = .ok (.fconst 0, 1) := by decide +kernel
theorem dX14_busyShare_24 : decode cX14_busyShare 24 = .ok (.goto 17, 3) := by decide +kernel
theorem dX14_busyShare_27 : decode cX14_busyShare 27 = .ok (.aload_n 0, 1) := by decide +kernel
theorem dX14_busyShare_28 : decode cX14_busyShare 28 = .ok (.getfield 347, 3) := by decide +kernel
theorem dX14_busyShare_31 : decode cX14_busyShare 31 = .ok (.l2f, 1) := by decide +kernel
theorem dX14_busyShare_32 : decode cX14_busyShare 32 = .ok (.bipush 100, 2) := by decide +kernel
theorem dX14_busyShare_34 : decode cX14_busyShare 34 = .ok (.aload_n 0, 1) := by decide +kernel
theorem dX14_busyShare_35 : decode cX14_busyShare 35 = .ok (.getfield 205, 3) := by decide +kernel
theorem dX14_busyShare_38 : decode cX14_busyShare 38 = .ok (.imul, 1) := by decide +kernel
theorem dX14_busyShare_39 : decode cX14_busyShare 39 = .ok (.i2f, 1) := by decide +kernel
theorem dX14_busyShare_40 : decode cX14_busyShare 40 = .ok (.fdiv, 1) := by decide +kernel
theorem dX14_busyShare_41 : decode cX14_busyShare 41 = .ok (.freturn, 1) := by decide +kernel
theorem dX14_meanBytes_0 : decode cX14_meanBytes 0 = .ok (.aload_n 0, 1) := by decide +kernel
theorem dX14_meanBytes_1 : decode cX14_meanBytes 1 = .ok (.aload_n 0, 1) := by decide +kernel
theorem dX14_meanBytes_2 : decode cX14_meanBytes 2 = .ok (.getfield 277, 3) := by decide +kernel
theorem dX14_meanBytes_5 : decode cX14_meanBytes 5 = .ok (.ifCond .ne 7, 3) := by decide +kernel
theorem dX14_meanBytes_8 : decode cX14_meanBytes 8 = .ok (.iconst 1, 1) := by decide +kernel
theorem dX14_meanBytes_9 : decode cX14_meanBytes 9 = .ok (.goto 4, 3) := by decide +kernel
theorem dX14_meanBytes_12 : decode cX14_meanBytes 12 = .ok (.iconst 0, 1) := by decide +kernel
theorem dX14_meanBytes_13 : decode cX14_meanBytes 13 = .ok (.putfield 61, 3) := by decide +kernel
theorem dX14_meanBytes_16 : decode cX14_meanBytes 16 = .ok (.aload_n 0, 1) := by decide +kernel
theorem dX14_meanBytes_17 : decode cX14_meanBytes 17 = .ok (.getfield 61, 3) := by decide +kernel
theorem dX14_meanBytes_20 : decode cX14_meanBytes 20 = .ok (.ifCond .le 7, 3) := by decide +kernel
theorem dX14_meanBytes_23 : decode cX14_meanBytes 23 = .ok (.dconst 0, 1) := by decide +kernel
theorem dX14_meanBytes_24 : decode cX14_meanBytes 24 = .ok (.goto 14, 3) := by decide +kernel
theorem dX14_meanBytes_27 : decode cX14_meanBytes 27 = .ok (.aload_n 0, 1) := by decide +kernel
theorem dX14_meanBytes_28 : decode cX14_meanBytes 28 = .ok (.getfield 280, 3) := by decide +kernel
theorem dX14_meanBytes_31 : decode cX14_meanBytes 31 = .ok (.l2d, 1) := by decide +kernel
theorem dX14_meanBytes_32 : decode cX14_meanBytes 32 = .ok (.aload_n 0, 1) := by decide +kernel
theorem dX14_meanBytes_33 : decode cX14_meanBytes 33 = .ok (.getfield 277, 3) := by decide +kernel
theorem dX14_meanBytes_36 : decode cX14_meanBytes 36 = .ok (.i2d, 1) := by decide +kernel
theorem dX14_meanBytes_37 : decode cX14_meanBytes 37 = .ok (.ddiv, 1) := by decide +kernel
theorem dX14_meanBytes_38 : decode cX14_meanBytes 38 = .ok (.dreturn, 1) := by decide +kernel
set_option maxRecDepth 20000 in
theorem ggX14_checksum_Jx4a65c_iterator_32c93 : GoodIn wsX14_checksum wsJx4a65c_iterator_32c93 := goodIn_r _ [17, 18, 19, 20, 21, 22, 23, 24, 25, 26, 27, 28, 29, 30, 31, 109, 110, 111, 112, 113, 114, 115] (by decide +kernel) (by decide +kernel)
set_option maxRecDepth 20000 in
theorem gX14_checksum_Jx4a65c_iterator_32c93 : GoodIn wsX14_checksum (wsV RX14 108 RJx4a65c yJx4a65c_iterator_32c93 wsJx4a65c_iterator_32c93) := goodIn_app (goodIn_of _ (by decide +kernel)) ggX14_checksum_Jx4a65c_iterator_32c93
set_option maxRecDepth 20000 in
theorem ggX14_checksum_Jx35411_hasNext_aae02 : GoodIn wsX14_checksum wsJx35411_hasNext_aae02 := goodIn_r _ [35, 36, 24, 109, 110, 111, 112, 113, 114, 115] (by decide +kernel) (by decide +kernel)
set_option maxRecDepth 20000 in
theorem gX14_checksum_Jx35411_hasNext_aae02_f112Jx35411 : GoodIn wsX14_checksum (va_wsF RX14 112 RJx35411 ⟨"java/util/Iterator", "hasNext", "()Z"⟩ yJx35411_hasNext_aae02 wsJx35411_hasNext_aae02) := goodIn_app (goodIn_of _ (by decide +kernel)) ggX14_checksum_Jx35411_hasNext_aae02
set_option maxRecDepth 20000 in
theorem ggX14_checksum_Jx35411_next_0502b : GoodIn wsX14_checksum wsJx35411_next_0502b := goodIn_r _ [40, 36, 24, 41, 28, 42, 43, 44, 20, 45, 29, 30, 31, 109, 110, 111, 112, 113, 114, 115] (by decide +kernel) (by decide +kernel)
set_option maxRecDepth 20000 in
theorem gX14_checksum_Jx35411_next_0502b_f118Jx35411 : GoodIn wsX14_checksum (va_wsF RX14 118 RJx35411 ⟨"java/util/Iterator", "next", "()Ljava/lang/Object;"⟩ yJx35411_next_0502b wsJx35411_next_0502b) := goodIn_app (goodIn_of _ (by decide +kernel)) ggX14_checksum_Jx35411_next_0502b
set_option maxRecDepth 20000 in
theorem ggX14_checksum_Jx4a65c_size_8abf5 : GoodIn wsX14_checksum wsJx4a65c_size_8abf5 := goodIn_r _ [49, 50, 113, 114, 115] (by decide +kernel) (by decide +kernel)
set_option maxRecDepth 20000 in
theorem gX14_checksum_Jx4a65c_size_8abf5 : GoodIn wsX14_checksum (wsV RX14 64 RJx4a65c yJx4a65c_size_8abf5 wsJx4a65c_size_8abf5) := goodIn_app (goodIn_of _ (by decide +kernel)) ggX14_checksum_Jx4a65c_size_8abf5
set_option maxRecDepth 20000 in
theorem ggX14_checksum_Jx4a65c_get_915e3 : GoodIn wsX14_checksum wsJx4a65c_get_915e3 := goodIn_r _ [54, 50, 55, 56, 57, 58, 59, 60, 61, 62, 63, 64, 65, 16, 66, 67, 113, 114, 115] (by decide +kernel) (by decide +kernel)
set_option maxRecDepth 20000 in
theorem gX14_checksum_Jx4a65c_get_915e3 : GoodIn wsX14_checksum (wsV RX14 76 RJx4a65c yJx4a65c_get_915e3 wsJx4a65c_get_915e3) := goodIn_app (goodIn_of _ (by decide +kernel)) ggX14_checksum_Jx4a65c_get_915e3
set_option maxRecDepth 20000 in
theorem ggX14_checksum_J6_intValue_8abf5 : GoodIn wsX14_checksum wsJ6_intValue_8abf5 := goodIn_r _ [72, 73, 116] (by decide +kernel) (by decide +kernel)
set_option maxRecDepth 20000 in
theorem gX14_checksum_J6_intValue_8abf5 : GoodIn wsX14_checksum (wsV RX14 222 RJ6 yJ6_intValue_8abf5 wsJ6_intValue_8abf5) := goodIn_app (goodIn_of _ (by decide +kernel)) ggX14_checksum_J6_intValue_8abf5
theorem dX14_checksum_0 : decode cX14_checksum 0 = .ok (.aload_n 0, 1) := by decide +kernel
theorem dX14_checksum_1 : decode cX14_checksum 1 = .ok (.iconst 0, 1) := by decide +kernel
theorem dX14_checksum_2 : decode cX14_checksum 2 = .ok (.putfield 61, 3) := by decide +kernel
theorem dX14_checksum_5 : decode cX14_checksum 5 = .ok (.ldc2_w 411, 3) := by decide +kernel
theorem dX14_checksum_8 : decode cX14_checksum 8 = .ok (.lstore_n 1, 1) := by decide +kernel
theorem dX14_checksum_9 : decode cX14_checksum 9 = .ok (.aload_n 0, 1) := by decide +kernel
theorem dX14_checksum_10 : decode cX14_checksum 10 = .ok (.getfield 10, 3) := by decide +kernel
theorem dX14_checksum_13 : decode cX14_checksum 13 = .ok (.invokevirtual 108, 3) := by decide +kernel
theorem dX14_checksum_16 : decode cX14_checksum 16 = .ok (.astore_n 3, 1) := by decide +kernel
theorem dX14_checksum_17 : decode cX14_checksum 17 = .ok (.aload_n 3, 1) := by decide +kernel
theorem dX14_checksum_18 : decode cX14_checksum 18 = .ok (.invokeinterface 112 1, 5) := by decide +kernel
theorem dX14_checksum_23 : decode cX14_checksum 23 = .ok (.ifCond .eq 48, 3) := by decide +kernel
theorem dX14_checksum_26 : decode cX14_checksum 26 = .ok (.aload_n 3, 1) := by decide +kernel
theorem dX14_checksum_27 : decode cX14_checksum 27 = .ok (.invokeinterface 118 1, 5) := by decide +kernel
theorem dX14_checksum_32 : decode cX14_checksum 32 = .ok (.checkcast 48, 3) := by decide +kernel
theorem dX14_checksum_35 : decode cX14_checksum 35 = .ok (.astore 4, 2) := by decide +kernel
theorem dX14_checksum_37 : decode cX14_checksum 37 = .ok (.ldc2_w 413, 3) := by decide +kernel
theorem dX14_checksum_40 : decode cX14_checksum 40 = .ok (.lload_n 1, 1) := by decide +kernel
theorem dX14_checksum_41 : decode cX14_checksum 41 = .ok (.lmul, 1) := by decide +kernel
theorem dX14_checksum_42 : decode cX14_checksum 42 = .ok (.aload 4, 2) := by decide +kernel
theorem dX14_checksum_44 : decode cX14_checksum 44 = .ok (.getfield 53, 3) := by decide +kernel
theorem dX14_checksum_47 : decode cX14_checksum 47 = .ok (.i2l, 1) := by decide +kernel
theorem dX14_checksum_48 : decode cX14_checksum 48 = .ok (.ladd, 1) := by decide +kernel
theorem dX14_checksum_49 : decode cX14_checksum 49 = .ok (.aload 4, 2) := by decide +kernel
theorem dX14_checksum_51 : decode cX14_checksum 51 = .ok (.getfield 140, 3) := by decide +kernel
theorem dX14_checksum_54 : decode cX14_checksum 54 = .ok (.i2l, 1) := by decide +kernel
theorem dX14_checksum_55 : decode cX14_checksum 55 = .ok (.ladd, 1) := by decide +kernel
theorem dX14_checksum_56 : decode cX14_checksum 56 = .ok (.ldc2_w 415, 3) := by decide +kernel
theorem dX14_checksum_59 : decode cX14_checksum 59 = .ok (.aload 4, 2) := by decide +kernel
theorem dX14_checksum_61 : decode cX14_checksum 61 = .ok (.getfield 180, 3) := by decide +kernel
theorem dX14_checksum_64 : decode cX14_checksum 64 = .ok (.i2l, 1) := by decide +kernel
theorem dX14_checksum_65 : decode cX14_checksum 65 = .ok (.lmul, 1) := by decide +kernel
theorem dX14_checksum_66 : decode cX14_checksum 66 = .ok (.ladd, 1) := by decide +kernel
theorem dX14_checksum_67 : decode cX14_checksum 67 = .ok (.lstore_n 1, 1) := by decide +kernel
theorem dX14_checksum_68 : decode cX14_checksum 68 = .ok (.goto (-51), 3) := by decide +kernel
theorem dX14_checksum_71 : decode cX14_checksum 71 = .ok (.iconst 0, 1) := by decide +kernel
theorem dX14_checksum_72 : decode cX14_checksum 72 = .ok (.aload_n 0, 1) := by decide +kernel
theorem dX14_checksum_73 : decode cX14_checksum 73 = .ok (.getfield 35, 3) := by decide +kernel
theorem dX14_checksum_76 : decode cX14_checksum 76 = .ok (.invokevirtual 64, 3) := by decide +kernel
theorem dX14_checksum_79 : decode cX14_checksum 79 = .ok (.bipush 32, 2) := by decide +kernel
theorem dX14_checksum_81 : decode cX14_checksum 81 = .ok (.isub, 1) := by decide +kernel
theorem dX14_checksum_82 : decode cX14_checksum 82 = .ok (.invokestatic 251, 3) := by decide +kernel
theorem dX14_checksum_85 : decode cX14_checksum 85 = .ok (.istore_n 3, 1) := by decide +kernel
theorem dX14_checksum_86 : decode cX14_checksum 86 = .ok (.iload_n 3, 1) := by decide +kernel
theorem dX14_checksum_87 : decode cX14_checksum 87 = .ok (.aload_n 0, 1) := by decide +kernel
theorem dX14_checksum_88 : decode cX14_checksum 88 = .ok (.getfield 35, 3) := by decide +kernel
theorem dX14_checksum_91 : decode cX14_checksum 91 = .ok (.invokevirtual 64, 3) := by decide +kernel
theorem dX14_checksum_94 : decode cX14_checksum 94 = .ok (.if_icmp .ge 31, 3) := by decide +kernel
theorem dX14_checksum_97 : decode cX14_checksum 97 = .ok (.ldc2_w 413, 3) := by decide +kernel
theorem dX14_checksum_100 : decode cX14_checksum 100 = .ok (.lload_n 1, 1) := by decide +kernel
theorem dX14_checksum_101 : decode cX14_checksum 101 = .ok (.lmul, 1) := by decide +kernel
theorem dX14_checksum_102 : decode cX14_checksum 102 = .ok (.aload_n 0, 1) := by decide +kernel
theorem dX14_checksum_103 : decode cX14_checksum 103 = .ok (.getfield 35, 3) := by decide +kernel
theorem dX14_checksum_106 : decode cX14_checksum 106 = .ok (.iload_n 3, 1) := by decide +kernel
theorem dX14_checksum_107 : decode cX14_checksum 107 = .ok (.invokevirtual 76, 3) := by decide +kernel
theorem dX14_checksum_110 : decode cX14_checksum 110 = .ok (.checkcast 213, 3) := by decide +kernel
theorem dX14_checksum_113 : decode cX14_checksum 113 = .ok (.invokevirtual 222, 3) := by decide +kernel
theorem dX14_checksum_116 : decode cX14_checksum 116 = .ok (.i2l, 1) := by decide +kernel
theorem dX14_checksum_117 : decode cX14_checksum 117 = .ok (.ladd, 1) := by decide +kernel
theorem dX14_checksum_118 : decode cX14_checksum 118 = .ok (.lstore_n 1, 1) := by decide +kernel
theorem dX14_checksum_119 : decode cX14_checksum 119 = .ok (.iinc 3 1, 3) := by decide +kernel
theorem dX14_checksum_122 : decode cX14_checksum 122 = .ok (.goto (-36), 3) := by decide +kernel
theorem dX14_checksum_125 : decode cX14_checksum 125 = .ok (.lload_n 1, 1) := by decide +kernel
theorem dX14_checksum_126 : decode cX14_checksum 126 = .ok (.lreturn, 1) := by decide +kernel
theorem dX14_isSound_0 : decode cX14_isSound 0 = .ok (.aload_n 0, 1) := by decide +kernel
theorem dX14_isSound_1 : decode cX14_isSound 1 = .ok (.iconst 0, 1) := by decide +kernel
theorem dX14_isSound_2 : decode cX14_isSound 2 = .ok (.putfield 61, 3) := by decide +kernel
theorem dX14_isSound_5 : decode cX14_isSound 5 = .ok (.iconst 1, 1) := by decide +kernel
theorem dX14_isSound_6 : decode cX14_isSound 6 = .ok (.ireturn, 1) := by decide +kernel
theorem dJx00060_init_a7421_0 : decode cJx00060_init_a7421 0 = .ok (.aload_n 0, 1) := by decide +kernel
theorem dJx00060_init_a7421_1 : decode cJx00060_init_a7421 1 = .ok (.aload_n 1, 1) := by decide +kernel
theorem dJx00060_init_a7421_2 : decode cJx00060_init_a7421 2 = .ok (.invokespecial 7, 3) := by decide +kernel
theorem dJx00060_init_a7421_5 : decode cJx00060_init_a7421 5 = .ok (.return_, 1) := by decide +kernel
theorem dJ11_isValidCodePoint_9a6ad_0 : decode cJ11_isValidCodePoint_9a6ad 0 = .ok (.iload_n 0, 1) := by decide +kernel
theorem dJ11_isValidCodePoint_9a6ad_1 : decode cJ11_isValidCodePoint_9a6ad 1 = .ok (.bipush 16, 2) := by decide +kernel
theorem dJ11_isValidCodePoint_9a6ad_3 : decode cJ11_isValidCodePoint_9a6ad 3 = .ok (.iushr, 1) := by decide +kernel
theorem dJ11_isValidCodePoint_9a6ad_4 : decode cJ11_isValidCodePoint_9a6ad 4 = .ok (.istore_n 1, 1) := by decide +kernel
theorem dJ11_isValidCodePoint_9a6ad_5 : decode cJ11_isValidCodePoint_9a6ad 5 = .ok (.iload_n 1, 1) := by decide +kernel
theorem dJ11_isValidCodePoint_9a6ad_6 : decode cJ11_isValidCodePoint_9a6ad 6 = .ok (.bipush 17, 2) := by decide +kernel
theorem dJ11_isValidCodePoint_9a6ad_8 : decode cJ11_isValidCodePoint_9a6ad 8 = .ok (.if_icmp .ge 7, 3) := by decide +kernel
theorem dJ11_isValidCodePoint_9a6ad_11 : decode cJ11_isValidCodePoint_9a6ad 11 = .ok (.iconst 1, 1) := by decide +kernel
theorem dJ11_isValidCodePoint_9a6ad_12 : decode cJ11_isValidCodePoint_9a6ad 12 = .ok (.goto 4, 3) := by decide +kernel
theorem dJ11_isValidCodePoint_9a6ad_15 : decode cJ11_isValidCodePoint_9a6ad 15 = .ok (.iconst 0, 1) := by decide +kernel
theorem dJ11_isValidCodePoint_9a6ad_16 : decode cJ11_isValidCodePoint_9a6ad 16 = .ok (.ireturn, 1) := by decide +kernel
theorem dJ11_highSurrogate_5068e_0 : decode cJ11_highSurrogate_5068e 0 = .ok (.iload_n 0, 1) := by decide +kernel
theorem dJ11_highSurrogate_5068e_1 : decode cJ11_highSurrogate_5068e 1 = .ok (.bipush 10, 2) := by decide +kernel
theorem dJ11_highSurrogate_5068e_3 : decode cJ11_highSurrogate_5068e 3 = .ok (.iushr, 1) := by decide +kernel
theorem dJ11_highSurrogate_5068e_4 : decode cJ11_highSurrogate_5068e 4 = .ok (.ldc 110, 2) := by decide +kernel
theorem dJ11_highSurrogate_5068e_6 : decode cJ11_highSurrogate_5068e 6 = .ok (.iadd, 1) := by decide +kernel
theorem dJ11_highSurrogate_5068e_7 : decode cJ11_highSurrogate_5068e 7 = .ok (.i2c, 1) := by decide +kernel
theorem dJ11_highSurrogate_5068e_8 : decode cJ11_highSurrogate_5068e 8 = .ok (.ireturn, 1) := by decide +kernel
theorem dJ11_lowSurrogate_5068e_0 : decode cJ11_lowSurrogate_5068e 0 = .ok (.iload_n 0, 1) := by decide +kernel
theorem dJ11_lowSurrogate_5068e_1 : decode cJ11_lowSurrogate_5068e 1 = .ok (.sipush 1023, 3) := by decide +kernel
theorem dJ11_lowSurrogate_5068e_4 : decode cJ11_lowSurrogate_5068e 4 = .ok (.iand, 1) := by decide +kernel
theorem dJ11_lowSurrogate_5068e_5 : decode cJ11_lowSurrogate_5068e 5 = .ok (.ldc 76, 2) := by decide +kernel
theorem dJ11_lowSurrogate_5068e_7 : decode cJ11_lowSurrogate_5068e 7 = .ok (.iadd, 1) := by decide +kernel
theorem dJ11_lowSurrogate_5068e_8 : decode cJ11_lowSurrogate_5068e 8 = .ok (.i2c, 1) := by decide +kernel
theorem dJ11_lowSurrogate_5068e_9 : decode cJ11_lowSurrogate_5068e 9 = .ok (.ireturn, 1) := by decide +kernel
set_option maxRecDepth 20000 in
theorem ggJ6_valueOf_2dffe_J6_init_d00df : GoodIn wsJ6_valueOf_2dffe wsJ6_init_d00df := goodIn_r _ [8, 9, 10, 11, 12, 13, 14, 15, 16, 17] (by decide +kernel) (by decide +kernel)
set_option maxRecDepth 20000 in
theorem gJ6_valueOf_2dffe_J6_init_d00df : GoodIn wsJ6_valueOf_2dffe (wsJ6_init_d00df) := ggJ6_valueOf_2dffe_J6_init_d00df
theorem dJ6_valueOf_2dffe_0 : decode cJ6_valueOf_2dffe 0 = .ok (.iload_n 0, 1) := by decide +kernel
theorem dJ6_valueOf_2dffe_1 : decode cJ6_valueOf_2dffe 1 = .ok (.bipush (-128), 2) := by decide +kernel
theorem dJ6_valueOf_2dffe_3 : decode cJ6_valueOf_2dffe 3 = .ok (.if_icmp .lt 20, 3) := by decide +kernel
theorem dJ6_valueOf_2dffe_6 : decode cJ6_valueOf_2dffe 6 = .ok (.iload_n 0, 1) := by decide +kernel
theorem dJ6_valueOf_2dffe_7 : decode cJ6_valueOf_2dffe 7 = .ok (.getstatic 191, 3) := by decide +kernel
theorem dJ6_valueOf_2dffe_10 : decode cJ6_valueOf_2dffe 10 = .ok (.if_icmp .gt 13, 3) := by decide +kernel
theorem dJ6_valueOf_2dffe_13 : decode cJ6_valueOf_2dffe 13 = .ok (.getstatic 195, 3) := by decide +kernel
theorem dJ6_valueOf_2dffe_16 : decode cJ6_valueOf_2dffe 16 = .ok (.iload_n 0, 1) := by decide +kernel
theorem dJ6_valueOf_2dffe_17 : decode cJ6_valueOf_2dffe 17 = .ok (.sipush 128, 3) := by decide +kernel
theorem dJ6_valueOf_2dffe_20 : decode cJ6_valueOf_2dffe 20 = .ok (.iadd, 1) := by decide +kernel
theorem dJ6_valueOf_2dffe_21 : decode cJ6_valueOf_2dffe 21 = .ok (.aaload, 1) := by decide +kernel
theorem dJ6_valueOf_2dffe_22 : decode cJ6_valueOf_2dffe 22 = .ok (.areturn, 1) := by decide +kernel
theorem dJ6_valueOf_2dffe_23 : decode cJ6_valueOf_2dffe 23 = .ok (.new 1, 3) := by decide +kernel
theorem dJ6_valueOf_2dffe_26 : decode cJ6_valueOf_2dffe 26 = .ok (.dup, 1) := by decide +kernel
theorem dJ6_valueOf_2dffe_27 : decode cJ6_valueOf_2dffe 27 = .ok (.iload_n 0, 1) := by decide +kernel
theorem dJ6_valueOf_2dffe_28 : decode cJ6_valueOf_2dffe 28 = .ok (.invokespecial 199, 3) := by decide +kernel
theorem dJ6_valueOf_2dffe_31 : decode cJ6_valueOf_2dffe 31 = .ok (.areturn, 1) := by decide +kernel
set_option maxRecDepth 20000 in
theorem ggJ6_init_d00df_Jxd2413_init_da8c8 : GoodIn wsJ6_init_d00df wsJxd2413_init_da8c8 := goodIn_r _ [5, 6, 7, 8] (by decide +kernel) (by decide +kernel)
set_option maxRecDepth 20000 in
theorem gJ6_init_d00df_Jxd2413_init_da8c8 : GoodIn wsJ6_init_d00df (wsJxd2413_init_da8c8) := ggJ6_init_d00df_Jxd2413_init_da8c8
theorem dJ6_init_d00df_0 : decode cJ6_init_d00df 0 = .ok (.aload_n 0, 1) := by decide +kernel
theorem dJ6_init_d00df_1 : decode cJ6_init_d00df 1 = .ok (.invokespecial 202, 3) := by decide +kernel
theorem dJ6_init_d00df_4 : decode cJ6_init_d00df 4 = .ok (.aload_n 0, 1) := by decide +kernel
theorem dJ6_init_d00df_5 : decode cJ6_init_d00df 5 = .ok (.iload_n 1, 1) := by decide +kernel
theorem dJ6_init_d00df_6 : decode cJ6_init_d00df 6 = .ok (.putfield 205, 3) := by decide +kernel
theorem dJ6_init_d00df_9 : decode cJ6_init_d00df 9 = .ok (.return_, 1) := by decide +kernel
theorem dJ6_intValue_8abf5_0 : decode cJ6_intValue_8abf5 0 = .ok (.aload_n 0, 1) := by decide +kernel
theorem dJ6_intValue_8abf5_1 : decode cJ6_intValue_8abf5 1 = .ok (.getfield 205, 3) := by decide +kernel
theorem dJ6_intValue_8abf5_4 : decode cJ6_intValue_8abf5 4 = .ok (.ireturn, 1) := by decide +kernel
theorem dJ9_max_7cf53_0 : decode cJ9_max_7cf53 0 = .ok (.iload_n 0, 1) := by decide +kernel
theorem dJ9_max_7cf53_1 : decode cJ9_max_7cf53 1 = .ok (.iload_n 1, 1) := by decide +kernel
theorem dJ9_max_7cf53_2 : decode cJ9_max_7cf53 2 = .ok (.if_icmp .lt 7, 3) := by decide +kernel
theorem dJ9_max_7cf53_5 : decode cJ9_max_7cf53 5 = .ok (.iload_n 0, 1) := by decide +kernel
theorem dJ9_max_7cf53_6 : decode cJ9_max_7cf53 6 = .ok (.goto 4, 3) := by decide +kernel
theorem dJ9_max_7cf53_9 : decode cJ9_max_7cf53 9 = .ok (.iload_n 1, 1) := by decide +kernel
theorem dJ9_max_7cf53_10 : decode cJ9_max_7cf53 10 = .ok (.ireturn, 1) := by decide +kernel
theorem dJ9_min_7cf53_0 : decode cJ9_min_7cf53 0 = .ok (.iload_n 0, 1) := by decide +kernel
theorem dJ9_min_7cf53_1 : decode cJ9_min_7cf53 1 = .ok (.iload_n 1, 1) := by decide +kernel
theorem dJ9_min_7cf53_2 : decode cJ9_min_7cf53 2 = .ok (.if_icmp .gt 7, 3) := by decide +kernel
theorem dJ9_min_7cf53_5 : decode cJ9_min_7cf53 5 = .ok (.iload_n 0, 1) := by decide +kernel
theorem dJ9_min_7cf53_6 : decode cJ9_min_7cf53 6 = .ok (.goto 4, 3) := by decide +kernel
theorem dJ9_min_7cf53_9 : decode cJ9_min_7cf53 9 = .ok (.iload_n 1, 1) := by decide +kernel
theorem dJ9_min_7cf53_10 : decode cJ9_min_7cf53 10 = .ok (.ireturn, 1) := by decide +kernel
theorem dJxd2413_init_da8c8_0 : decode cJxd2413_init_da8c8 0 = .ok (.aload_n 0, 1) := by decide +kernel
theorem dJxd2413_init_da8c8_1 : decode cJxd2413_init_da8c8 1 = .ok (.invokespecial 1, 3) := by decide +kernel
theorem dJxd2413_init_da8c8_4 : decode cJxd2413_init_da8c8 4 = .ok (.return_, 1) := by decide +kernel
set_option maxRecDepth 20000 in
theorem ggJ0_length_8abf5_J0_coder_7d493 : GoodIn wsJ0_length_8abf5 wsJ0_coder_7d493 := goodIn_r _ [6, 7, 8, 9, 10] (by decide +kernel) (by decide +kernel)
set_option maxRecDepth 20000 in
theorem gJ0_length_8abf5_J0_coder_7d493 : GoodIn wsJ0_length_8abf5 (wsV RJ0 335 RJ0 yJ0_coder_7d493 wsJ0_coder_7d493) := goodIn_app (goodIn_of _ (by decide +kernel)) ggJ0_length_8abf5_J0_coder_7d493
theorem dJ0_length_8abf5_0 : decode cJ0_length_8abf5 0 = .ok (.aload_n 0, 1) := by decide +kernel
theorem dJ0_length_8abf5_1 : decode cJ0_length_8abf5 1 = .ok (.getfield 9, 3) := by decide +kernel
theorem dJ0_length_8abf5_4 : decode cJ0_length_8abf5 4 = .ok (.arraylength, 1) := by decide +kernel
theorem dJ0_length_8abf5_5 : decode cJ0_length_8abf5 5 = .ok (.aload_n 0, 1) := by decide +kernel
theorem dJ0_length_8abf5_6 : decode cJ0_length_8abf5 6 = .ok (.invokevirtual 335, 3) := by decide +kernel
theorem dJ0_length_8abf5_9 : decode cJ0_length_8abf5 9 = .ok (.ishr, 1) := by decide +kernel
theorem dJ0_length_8abf5_10 : decode cJ0_length_8abf5 10 = .ok (.ireturn, 1) := by decide +kernel
set_option maxRecDepth 20000 in
theorem ggJ0_indexOf_0f7a4_J0_indexOf_7cf53 : GoodIn wsJ0_indexOf_0f7a4 wsJ0_indexOf_7cf53 := goodIn_r _ [5, 6, 7, 8, 9, 4, 10, 11, 12, 13, 14, 15, 16, 17, 18, 19, 20, 21, 22, 23, 24, 25, 26, 27, 28, 29, 30, 31, 32, 33, 34, 35, 36, 37, 38, 39, 40, 41, 42, 43, 44, 45, 46, 47, 48, 49, 50, 51, 52, 53, 54, 55, 56, 57, 58, 59, 60, 61, 62, 63, 64, 65, 66, 67, 68, 69, 70, 71, 72, 73, 74, 75, 76, 77, 78, 79, 80, 81, 82, 83, 84, 85, 86, 87] (by decide +kernel) (by decide +kernel)
set_option maxRecDepth 20000 in
theorem gJ0_indexOf_0f7a4_J0_indexOf_7cf53 : GoodIn wsJ0_indexOf_0f7a4 (wsV RJ0 633 RJ0 yJ0_indexOf_7cf53 wsJ0_indexOf_7cf53) := goodIn_app (goodIn_of _ (by decide +kernel)) ggJ0_indexOf_0f7a4_J0_indexOf_7cf53
theorem dJ0_indexOf_0f7a4_0 : decode cJ0_indexOf_0f7a4 0 = .ok (.aload_n 0, 1) := by decide +kernel
theorem dJ0_indexOf_0f7a4_1 : decode cJ0_indexOf_0f7a4 1 = .ok (.iload_n 1, 1) := by decide +kernel
theorem dJ0_indexOf_0f7a4_2 : decode cJ0_indexOf_0f7a4 2 = .ok (.iconst 0, 1) := by decide +kernel
theorem dJ0_indexOf_0f7a4_3 : decode cJ0_indexOf_0f7a4 3 = .ok (.invokevirtual 633, 3) := by decide +kernel
theorem dJ0_indexOf_0f7a4_6 : decode cJ0_indexOf_0f7a4 6 = .ok (.ireturn, 1) := by decide +kernel
set_option maxRecDepth 20000 in
theorem ggJ0_indexOf_7cf53_J0_isLatin1_aae02 : GoodIn wsJ0_indexOf_7cf53 wsJ0_isLatin1_aae02 := goodIn_r _ [6, 7, 8, 82, 83] (by decide +kernel) (by decide +kernel)
set_option maxRecDepth 20000 in
theorem gJ0_indexOf_7cf53_J0_isLatin1_aae02 : GoodIn wsJ0_indexOf_7cf53 (wsV RJ0 492 RJ0 yJ0_isLatin1_aae02 wsJ0_isLatin1_aae02) := goodIn_app (goodIn_of _ (by decide +kernel)) ggJ0_indexOf_7cf53_J0_isLatin1_aae02
set_option maxRecDepth 20000 in
theorem ggJ0_indexOf_7cf53_J0_length_8abf5 : GoodIn wsJ0_indexOf_7cf53 wsJ0_length_8abf5 := goodIn_r _ [12, 1, 13, 14, 15, 5, 16, 7, 8, 82, 83] (by decide +kernel) (by decide +kernel)
set_option maxRecDepth 20000 in
theorem gJ0_indexOf_7cf53_J0_length_8abf5 : GoodIn wsJ0_indexOf_7cf53 (wsV RJ0 505 RJ0 yJ0_length_8abf5 wsJ0_length_8abf5) := goodIn_app (goodIn_of _ (by decide +kernel)) ggJ0_indexOf_7cf53_J0_length_8abf5
set_option maxRecDepth 20000 in
theorem ggJ0_indexOf_7cf53_J1_indexOf_4cfef : GoodIn wsJ0_indexOf_7cf53 wsJ1_indexOf_4cfef := goodIn_r _ [20, 21, 22, 23, 24, 25, 26, 27, 28, 29, 19, 30, 31, 32, 33] (by decide +kernel) (by decide +kernel)
set_option maxRecDepth 20000 in
theorem gJ0_indexOf_7cf53_J1_indexOf_4cfef : GoodIn wsJ0_indexOf_7cf53 (va_wsS RJ0 637 yJ1_indexOf_4cfef wsJ1_indexOf_4cfef) := goodIn_app (goodIn_of _ (by decide +kernel)) ggJ0_indexOf_7cf53_J1_indexOf_4cfef
set_option maxRecDepth 20000 in
theorem ggJ0_indexOf_7cf53_J2_indexOf_4cfef : GoodIn wsJ0_indexOf_7cf53 wsJ2_indexOf_4cfef := goodIn_r _ [37, 38, 22, 23, 24, 39, 26, 27, 40, 41, 42, 36, 43, 44, 45, 46, 47, 48, 49, 50, 51, 5, 52, 53, 54, 55, 56, 57, 58, 59, 60, 61, 62, 63, 64, 65, 66, 67, 68, 69, 70, 71, 72, 73, 74, 75, 76, 77, 78, 79, 80, 81] (by decide +kernel) (by decide +kernel)
set_option maxRecDepth 20000 in
theorem gJ0_indexOf_7cf53_J2_indexOf_4cfef : GoodIn wsJ0_indexOf_7cf53 (va_wsS RJ0 640 yJ2_indexOf_4cfef wsJ2_indexOf_4cfef) := goodIn_app (goodIn_of _ (by decide +kernel)) ggJ0_indexOf_7cf53_J2_indexOf_4cfef
theorem dJ0_indexOf_7cf53_0 : decode cJ0_indexOf_7cf53 0 = .ok (.aload_n 0, 1) := by decide +kernel
theorem dJ0_indexOf_7cf53_1 : decode cJ0_indexOf_7cf53 1 = .ok (.invokevirtual 492, 3) := by decide +kernel
theorem dJ0_indexOf_7cf53_4 : decode cJ0_indexOf_7cf53 4 = .ok (.ifCond .eq 19, 3) := by decide +kernel
theorem dJ0_indexOf_7cf53_7 : decode cJ0_indexOf_7cf53 7 = .ok (.aload_n 0, 1) := by decide +kernel
theorem dJ0_indexOf_7cf53_8 : decode cJ0_indexOf_7cf53 8 = .ok (.getfield 9, 3) := by decide +kernel
theorem dJ0_indexOf_7cf53_11 : decode cJ0_indexOf_7cf53 11 = .ok (.iload_n 1, 1) := by decide +kernel
theorem dJ0_indexOf_7cf53_12 : decode cJ0_indexOf_7cf53 12 = .ok (.iload_n 2, 1) := by decide +kernel
theorem dJ0_indexOf_7cf53_13 : decode cJ0_indexOf_7cf53 13 = .ok (.aload_n 0, 1) := by decide +kernel
theorem dJ0_indexOf_7cf53_14 : decode cJ0_indexOf_7cf53 14 = .ok (.invokevirtual 505, 3) := by decide +kernel
theorem dJ0_indexOf_7cf53_17 : decode cJ0_indexOf_7cf53 17 = .ok (.invokestatic 637, 3) := by decide +kernel
theorem dJ0_indexOf_7cf53_20 : decode cJ0_indexOf_7cf53 20 = .ok (.goto 16, 3) := by decide +kernel
theorem dJ0_indexOf_7cf53_23 : decode cJ0_indexOf_7cf53 23 = .ok (.aload_n 0, 1) := by decide +kernel
theorem dJ0_indexOf_7cf53_24 : decode cJ0_indexOf_7cf53 24 = .ok (.getfield 9, 3) := by decide +kernel
theorem dJ0_indexOf_7cf53_27 : decode cJ0_indexOf_7cf53 27 = .ok (.iload_n 1, 1) := by decide +kernel
theorem dJ0_indexOf_7cf53_28 : decode cJ0_indexOf_7cf53 28 = .ok (.iload_n 2, 1) := by decide +kernel
theorem dJ0_indexOf_7cf53_29 : decode cJ0_indexOf_7cf53 29 = .ok (.aload_n 0, 1) := by decide +kernel
theorem dJ0_indexOf_7cf53_30 : decode cJ0_indexOf_7cf53 30 = .ok (.invokevirtual 505, 3) := by decide +kernel
theorem dJ0_indexOf_7cf53_33 : decode cJ0_indexOf_7cf53 33 = .ok (.invokestatic 640, 3) := by decide +kernel
theorem dJ0_indexOf_7cf53_36 : decode cJ0_indexOf_7cf53 36 = .ok (.ireturn, 1) := by decide +kernel
theorem dJ0_coder_7d493_0 : decode cJ0_coder_7d493 0 = .ok (.getstatic 38, 3) := by decide +kernel
theorem dJ0_coder_7d493_3 : decode cJ0_coder_7d493 3 = .ok (.ifCond .eq 10, 3) := by decide +kernel
theorem dJ0_coder_7d493_6 : decode cJ0_coder_7d493 6 = .ok (.aload_n 0, 1) := by decide +kernel
theorem dJ0_coder_7d493_7 : decode cJ0_coder_7d493 7 = .ok (.getfield 15, 3) := by decide +kernel
theorem dJ0_coder_7d493_10 : decode cJ0_coder_7d493 10 = .ok (.goto 4, 3) := by decide +kernel
theorem dJ0_coder_7d493_13 : decode cJ0_coder_7d493 13 = .ok (.iconst 1, 1) := by decide +kernel
theorem dJ0_coder_7d493_14 : decode cJ0_coder_7d493 14 = .ok (.ireturn, 1) := by decide +kernel
theorem dJ0_isLatin1_aae02_0 : decode cJ0_isLatin1_aae02 0 = .ok (.getstatic 38, 3) := by decide +kernel
theorem dJ0_isLatin1_aae02_3 : decode cJ0_isLatin1_aae02 3 = .ok (.ifCond .eq 14, 3) := by decide +kernel
theorem dJ0_isLatin1_aae02_6 : decode cJ0_isLatin1_aae02 6 = .ok (.aload_n 0, 1) := by decide +kernel
theorem dJ0_isLatin1_aae02_7 : decode cJ0_isLatin1_aae02 7 = .ok (.getfield 15, 3) := by decide +kernel
theorem dJ0_isLatin1_aae02_10 : decode cJ0_isLatin1_aae02 10 = .ok (.ifCond .ne 7, 3) := by decide +kernel
theorem dJ0_isLatin1_aae02_13 : decode cJ0_isLatin1_aae02 13 = .ok (.iconst 1, 1) := by decide +kernel
theorem dJ0_isLatin1_aae02_14 : decode cJ0_isLatin1_aae02 14 = .ok (.goto 4, 3) := by decide +kernel
theorem dJ0_isLatin1_aae02_17 : decode cJ0_isLatin1_aae02 17 = .ok (.iconst 0, 1) := by decide +kernel
theorem dJ0_isLatin1_aae02_18 : decode cJ0_isLatin1_aae02 18 = .ok (.ireturn, 1) := by decide +kernel
set_option maxRecDepth 20000 in
theorem ggJ0_checkBoundsBeginEnd_23922_J3_checkFromToIndex_8c36e : GoodIn wsJ0_checkBoundsBeginEnd_23922 wsJ3_checkFromToIndex_8c36e := goodIn_r _ [5] (by decide +kernel) (by decide +kernel)
set_option maxRecDepth 20000 in
theorem gJ0_checkBoundsBeginEnd_23922_J3_checkFromToIndex_8c36e : GoodIn wsJ0_checkBoundsBeginEnd_23922 (va_wsS RJ0 1062 yJ3_checkFromToIndex_8c36e wsJ3_checkFromToIndex_8c36e) := goodIn_app (goodIn_of _ (by decide +kernel)) ggJ0_checkBoundsBeginEnd_23922_J3_checkFromToIndex_8c36e
theorem dJ0_checkBoundsBeginEnd_23922_0 : decode cJ0_checkBoundsBeginEnd_23922 0 = .ok (.iload_n 0, 1) := by decide +kernel
theorem dJ0_checkBoundsBeginEnd_23922_1 : decode cJ0_checkBoundsBeginEnd_23922 1 = .ok (.iload_n 1, 1) := by decide +kernel
theorem dJ0_checkBoundsBeginEnd_23922_2 : decode cJ0_checkBoundsBeginEnd_23922 2 = .ok (.iload_n 2, 1) := by decide +kernel
theorem dJ0_checkBoundsBeginEnd_23922_3 : decode cJ0_checkBoundsBeginEnd_23922 3 = .ok (.getstatic 1053, 3) := by decide +kernel
theorem dJ0_checkBoundsBeginEnd_23922_6 : decode cJ0_checkBoundsBeginEnd_23922 6 = .ok (.invokestatic 1062, 3) := by decide +kernel
theorem dJ0_checkBoundsBeginEnd_23922_9 : decode cJ0_checkBoundsBeginEnd_23922 9 = .ok (.pop, 1) := by decide +kernel
theorem dJ0_checkBoundsBeginEnd_23922_10 : decode cJ0_checkBoundsBeginEnd_23922 10 = .ok (.return_, 1) := by decide +kernel
theorem dJ1_canEncode_9a6ad_0 : decode cJ1_canEncode_9a6ad 0 = .ok (.iload_n 0, 1) := by decide +kernel
theorem dJ1_canEncode_9a6ad_1 : decode cJ1_canEncode_9a6ad 1 = .ok (.ifCond .lt 14, 3) := by decide +kernel
theorem dJ1_canEncode_9a6ad_4 : decode cJ1_canEncode_9a6ad 4 = .ok (.iload_n 0, 1) := by decide +kernel
theorem dJ1_canEncode_9a6ad_5 : decode cJ1_canEncode_9a6ad 5 = .ok (.sipush 255, 3) := by decide +kernel
theorem dJ1_canEncode_9a6ad_8 : decode cJ1_canEncode_9a6ad 8 = .ok (.if_icmp .gt 7, 3) := by decide +kernel
theorem dJ1_canEncode_9a6ad_11 : decode cJ1_canEncode_9a6ad 11 = .ok (.iconst 1, 1) := by decide +kernel
theorem dJ1_canEncode_9a6ad_12 : decode cJ1_canEncode_9a6ad 12 = .ok (.goto 4, 3) := by decide +kernel
theorem dJ1_canEncode_9a6ad_15 : decode cJ1_canEncode_9a6ad 15 = .ok (.iconst 0, 1) := by decide +kernel
theorem dJ1_canEncode_9a6ad_16 : decode cJ1_canEncode_9a6ad 16 = .ok (.ireturn, 1) := by decide +kernel
set_option maxRecDepth 20000 in
theorem ggJ1_indexOf_4cfef_J1_canEncode_9a6ad : GoodIn wsJ1_indexOf_4cfef wsJ1_canEncode_9a6ad := goodIn_r _ [11] (by decide +kernel) (by decide +kernel)
set_option maxRecDepth 20000 in
theorem gJ1_indexOf_4cfef_J1_canEncode_9a6ad : GoodIn wsJ1_indexOf_4cfef (va_wsS RJ1 88 yJ1_canEncode_9a6ad wsJ1_canEncode_9a6ad) := goodIn_app (goodIn_of _ (by decide +kernel)) ggJ1_indexOf_4cfef_J1_canEncode_9a6ad
set_option maxRecDepth 20000 in
theorem ggJ1_indexOf_4cfef_J1_indexOfChar_4cfef : GoodIn wsJ1_indexOf_4cfef wsJ1_indexOfChar_4cfef := goodIn_r _ [14] (by decide +kernel) (by decide +kernel)
set_option maxRecDepth 20000 in
theorem gJ1_indexOf_4cfef_J1_indexOfChar_4cfef : GoodIn wsJ1_indexOf_4cfef (va_wsS RJ1 95 yJ1_indexOfChar_4cfef wsJ1_indexOfChar_4cfef) := goodIn_app (goodIn_of _ (by decide +kernel)) ggJ1_indexOf_4cfef_J1_indexOfChar_4cfef
theorem dJ1_indexOf_4cfef_0 : decode cJ1_indexOf_4cfef 0 = .ok (.iload_n 1, 1) := by decide +kernel
theorem dJ1_indexOf_4cfef_1 : decode cJ1_indexOf_4cfef 1 = .ok (.invokestatic 88, 3) := by decide +kernel
theorem dJ1_indexOf_4cfef_4 : decode cJ1_indexOf_4cfef 4 = .ok (.ifCond .ne 5, 3) := by decide +kernel
theorem dJ1_indexOf_4cfef_7 : decode cJ1_indexOf_4cfef 7 = .ok (.iconst (-1), 1) := by decide +kernel
theorem dJ1_indexOf_4cfef_8 : decode cJ1_indexOf_4cfef 8 = .ok (.ireturn, 1) := by decide +kernel
theorem dJ1_indexOf_4cfef_9 : decode cJ1_indexOf_4cfef 9 = .ok (.iload_n 2, 1) := by decide +kernel
theorem dJ1_indexOf_4cfef_10 : decode cJ1_indexOf_4cfef 10 = .ok (.iconst 0, 1) := by decide +kernel
theorem dJ1_indexOf_4cfef_11 : decode cJ1_indexOf_4cfef 11 = .ok (.invokestatic 92, 3) := by decide +kernel
theorem dJ1_indexOf_4cfef_14 : decode cJ1_indexOf_4cfef 14 = .ok (.istore_n 2, 1) := by decide +kernel
theorem dJ1_indexOf_4cfef_15 : decode cJ1_indexOf_4cfef 15 = .ok (.iload_n 3, 1) := by decide +kernel
theorem dJ1_indexOf_4cfef_16 : decode cJ1_indexOf_4cfef 16 = .ok (.aload_n 0, 1) := by decide +kernel
theorem dJ1_indexOf_4cfef_17 : decode cJ1_indexOf_4cfef 17 = .ok (.arraylength, 1) := by decide +kernel
theorem dJ1_indexOf_4cfef_18 : decode cJ1_indexOf_4cfef 18 = .ok (.invokestatic 38, 3) := by decide +kernel
theorem dJ1_indexOf_4cfef_21 : decode cJ1_indexOf_4cfef 21 = .ok (.istore_n 3, 1) := by decide +kernel
theorem dJ1_indexOf_4cfef_22 : decode cJ1_indexOf_4cfef 22 = .ok (.iload_n 2, 1) := by decide +kernel
theorem dJ1_indexOf_4cfef_23 : decode cJ1_indexOf_4cfef 23 = .ok (.iload_n 3, 1) := by decide +kernel
theorem dJ1_indexOf_4cfef_24 : decode cJ1_indexOf_4cfef 24 = .ok (.if_icmp .lt 5, 3) := by decide +kernel
theorem dJ1_indexOf_4cfef_27 : decode cJ1_indexOf_4cfef 27 = .ok (.iconst (-1), 1) := by decide +kernel
theorem dJ1_indexOf_4cfef_28 : decode cJ1_indexOf_4cfef 28 = .ok (.ireturn, 1) := by decide +kernel
theorem dJ1_indexOf_4cfef_29 : decode cJ1_indexOf_4cfef 29 = .ok (.aload_n 0, 1) := by decide +kernel
theorem dJ1_indexOf_4cfef_30 : decode cJ1_indexOf_4cfef 30 = .ok (.iload_n 1, 1) := by decide +kernel
theorem dJ1_indexOf_4cfef_31 : decode cJ1_indexOf_4cfef 31 = .ok (.iload_n 2, 1) := by decide +kernel
theorem dJ1_indexOf_4cfef_32 : decode cJ1_indexOf_4cfef 32 = .ok (.iload_n 3, 1) := by decide +kernel
theorem dJ1_indexOf_4cfef_33 : decode cJ1_indexOf_4cfef 33 = .ok (.invokestatic 95, 3) := by decide +kernel
theorem dJ1_indexOf_4cfef_36 : decode cJ1_indexOf_4cfef 36 = .ok (.ireturn, 1) := by decide +kernel
theorem dJ1_indexOfChar_4cfef_0 : decode cJ1_indexOfChar_4cfef 0 = .ok (.iload_n 1, 1) := by decide +kernel
theorem dJ1_indexOfChar_4cfef_1 : decode cJ1_indexOfChar_4cfef 1 = .ok (.i2b, 1) := by decide +kernel
theorem dJ1_indexOfChar_4cfef_2 : decode cJ1_indexOfChar_4cfef 2 = .ok (.istore 4, 2) := by decide +kernel
theorem dJ1_indexOfChar_4cfef_4 : decode cJ1_indexOfChar_4cfef 4 = .ok (.iload_n 2, 1) := by decide +kernel
theorem dJ1_indexOfChar_4cfef_5 : decode cJ1_indexOfChar_4cfef 5 = .ok (.istore 5, 2) := by decide +kernel
theorem dJ1_indexOfChar_4cfef_7 : decode cJ1_indexOfChar_4cfef 7 = .ok (.iload 5, 2) := by decide +kernel
theorem dJ1_indexOfChar_4cfef_9 : decode cJ1_indexOfChar_4cfef 9 = .ok (.iload_n 3, 1) := by decide +kernel
theorem dJ1_indexOfChar_4cfef_10 : decode cJ1_indexOfChar_4cfef 10 = .ok (.if_icmp .ge 21, 3) := by decide +kernel
theorem dJ1_indexOfChar_4cfef_13 : decode cJ1_indexOfChar_4cfef 13 = .ok (.aload_n 0, 1) := by decide +kernel
theorem dJ1_indexOfChar_4cfef_14 : decode cJ1_indexOfChar_4cfef 14 = .ok (.iload 5, 2) := by decide +kernel
theorem dJ1_indexOfChar_4cfef_16 : decode cJ1_indexOfChar_4cfef 16 = .ok (.baload, 1) := by decide +kernel
theorem dJ1_indexOfChar_4cfef_17 : decode cJ1_indexOfChar_4cfef 17 = .ok (.iload 4, 2) := by decide +kernel
theorem dJ1_indexOfChar_4cfef_19 : decode cJ1_indexOfChar_4cfef 19 = .ok (.if_icmp .ne 6, 3) := by decide +kernel
theorem dJ1_indexOfChar_4cfef_22 : decode cJ1_indexOfChar_4cfef 22 = .ok (.iload 5, 2) := by decide +kernel
theorem dJ1_indexOfChar_4cfef_24 : decode cJ1_indexOfChar_4cfef 24 = .ok (.ireturn, 1) := by decide +kernel
theorem dJ1_indexOfChar_4cfef_25 : decode cJ1_indexOfChar_4cfef 25 = .ok (.iinc 5 1, 3) := by decide +kernel
theorem dJ1_indexOfChar_4cfef_28 : decode cJ1_indexOfChar_4cfef 28 = .ok (.goto (-21), 3) := by decide +kernel
theorem dJ1_indexOfChar_4cfef_31 : decode cJ1_indexOfChar_4cfef 31 = .ok (.iconst (-1), 1) := by decide +kernel
theorem dJ1_indexOfChar_4cfef_32 : decode cJ1_indexOfChar_4cfef 32 = .ok (.ireturn, 1) := by decide +kernel
set_option maxRecDepth 20000 in
theorem ggJ2_getChar_3b067_J2_length_9d52b : GoodIn wsJ2_getChar_3b067 wsJ2_length_9d52b := goodIn_r _ [7] (by decide +kernel) (by decide +kernel)
set_option maxRecDepth 20000 in
theorem gJ2_getChar_3b067_J2_length_9d52b : GoodIn wsJ2_getChar_3b067 (va_wsS RJ2 48 yJ2_length_9d52b wsJ2_length_9d52b) := goodIn_app (goodIn_of _ (by decide +kernel)) ggJ2_getChar_3b067_J2_length_9d52b
theorem dJ2_getChar_3b067_0 : decode cJ2_getChar_3b067 0 = .ok (.getstatic 44, 3) := by decide +kernel
theorem dJ2_getChar_3b067_3 : decode cJ2_getChar_3b067 3 = .ok (.ifCond .ne 25, 3) := by decide +kernel
theorem dJ2_getChar_3b067_6 : decode cJ2_getChar_3b067 6 = .ok (.iload_n 1, 1) := by decide +kernel
theorem dJ2_getChar_3b067_7 : decode cJ2_getChar_3b067 7 = .ok (.ifCond .lt 11, 3) := by decide +kernel
theorem dJ2_getChar_3b067_10 : decode cJ2_getChar_3b067 10 = .ok (.iload_n 1, 1) := by decide +kernel
theorem dJ2_getChar_3b067_11 : decode cJ2_getChar_3b067 11 = .ok (.aload_n 0, 1) := by decide +kernel
theorem dJ2_getChar_3b067_12 : decode cJ2_getChar_3b067 12 = .ok (.invokestatic 48, 3) := by decide +kernel
theorem dJ2_getChar_3b067_15 : decode cJ2_getChar_3b067 15 = .ok (.if_icmp .lt 13, 3) := by decide +kernel
theorem dJ2_getChar_3b067_18 : decode cJ2_getChar_3b067 18 = .ok (.new 52, 3) := by decide +kernel
theorem dJ2_getChar_3b067_21 : decode cJ2_getChar_3b067 21 = .ok (.dup, 1) := by decide +kernel
theorem dJ2_getChar_3b067_22 : decode cJ2_getChar_3b067 22 = .ok (.ldc 54, 2) := by decide +kernel
theorem dJ2_getChar_3b067_24 : decode cJ2_getChar_3b067 24 = .ok (.invokespecial 56, 3) := by decide +kernel
theorem dJ2_getChar_3b067_27 : decode cJ2_getChar_3b067 27 = .ok (.athrow, 1) := by decide +kernel
theorem dJ2_getChar_3b067_28 : decode cJ2_getChar_3b067 28 = .ok (.iload_n 1, 1) := by decide +kernel
theorem dJ2_getChar_3b067_29 : decode cJ2_getChar_3b067 29 = .ok (.iconst 1, 1) := by decide +kernel
theorem dJ2_getChar_3b067_30 : decode cJ2_getChar_3b067 30 = .ok (.ishl, 1) := by decide +kernel
theorem dJ2_getChar_3b067_31 : decode cJ2_getChar_3b067 31 = .ok (.istore_n 1, 1) := by decide +kernel
theorem dJ2_getChar_3b067_32 : decode cJ2_getChar_3b067 32 = .ok (.aload_n 0, 1) := by decide +kernel
theorem dJ2_getChar_3b067_33 : decode cJ2_getChar_3b067 33 = .ok (.iload_n 1, 1) := by decide +kernel
theorem dJ2_getChar_3b067_34 : decode cJ2_getChar_3b067 34 = .ok (.iinc 1 1, 3) := by decide +kernel
theorem dJ2_getChar_3b067_37 : decode cJ2_getChar_3b067 37 = .ok (.baload, 1) := by decide +kernel
theorem dJ2_getChar_3b067_38 : decode cJ2_getChar_3b067 38 = .ok (.sipush 255, 3) := by decide +kernel
theorem dJ2_getChar_3b067_41 : decode cJ2_getChar_3b067 41 = .ok (.iand, 1) := by decide +kernel
theorem dJ2_getChar_3b067_42 : decode cJ2_getChar_3b067 42 = .ok (.getstatic 59, 3) := by decide +kernel
theorem dJ2_getChar_3b067_45 : decode cJ2_getChar_3b067 45 = .ok (.ishl, 1) := by decide +kernel
theorem dJ2_getChar_3b067_46 : decode cJ2_getChar_3b067 46 = .ok (.aload_n 0, 1) := by decide +kernel
theorem dJ2_getChar_3b067_47 : decode cJ2_getChar_3b067 47 = .ok (.iload_n 1, 1) := by decide +kernel
theorem dJ2_getChar_3b067_48 : decode cJ2_getChar_3b067 48 = .ok (.baload, 1) := by decide +kernel
theorem dJ2_getChar_3b067_49 : decode cJ2_getChar_3b067 49 = .ok (.sipush 255, 3) := by decide +kernel
theorem dJ2_getChar_3b067_52 : decode cJ2_getChar_3b067 52 = .ok (.iand, 1) := by decide +kernel
theorem dJ2_getChar_3b067_53 : decode cJ2_getChar_3b067 53 = .ok (.getstatic 63, 3) := by decide +kernel
theorem dJ2_getChar_3b067_56 : decode cJ2_getChar_3b067 56 = .ok (.ishl, 1) := by decide +kernel
theorem dJ2_getChar_3b067_57 : decode cJ2_getChar_3b067 57 = .ok (.ior, 1) := by decide +kernel
theorem dJ2_getChar_3b067_58 : decode cJ2_getChar_3b067 58 = .ok (.i2c, 1) := by decide +kernel
theorem dJ2_getChar_3b067_59 : decode cJ2_getChar_3b067 59 = .ok (.ireturn, 1) := by decide +kernel
theorem dJ2_length_9d52b_0 : decode cJ2_length_9d52b 0 = .ok (.aload_n 0, 1) := by decide +kernel
theorem dJ2_length_9d52b_1 : decode cJ2_length_9d52b 1 = .ok (.arraylength, 1) := by decide +kernel
theorem dJ2_length_9d52b_2 : decode cJ2_length_9d52b 2 = .ok (.iconst 1, 1) := by decide +kernel
theorem dJ2_length_9d52b_3 : decode cJ2_length_9d52b 3 = .ok (.ishr, 1) := by decide +kernel
theorem dJ2_length_9d52b_4 : decode cJ2_length_9d52b 4 = .ok (.ireturn, 1) := by decide +kernel
set_option maxRecDepth 20000 in
theorem ggJ2_indexOf_4cfef_J2_indexOfChar_4cfef : GoodIn wsJ2_indexOf_4cfef wsJ2_indexOfChar_4cfef := goodIn_r _ [12, 13, 14, 11, 15, 16, 17, 18, 19, 20, 21, 22, 23, 24, 25, 26, 27, 28, 29, 30, 31, 32, 33, 34, 35, 36] (by decide +kernel) (by decide +kernel)
set_option maxRecDepth 20000 in
theorem gJ2_indexOf_4cfef_J2_indexOfChar_4cfef : GoodIn wsJ2_indexOf_4cfef (va_wsS RJ2 228 yJ2_indexOfChar_4cfef wsJ2_indexOfChar_4cfef) := goodIn_app (goodIn_of _ (by decide +kernel)) ggJ2_indexOf_4cfef_J2_indexOfChar_4cfef
set_option maxRecDepth 20000 in
theorem ggJ2_indexOf_4cfef_J2_indexOfSupplementary_4cfef : GoodIn wsJ2_indexOf_4cfef wsJ2_indexOfSupplementary_4cfef := goodIn_r _ [39, 40, 41, 42, 43, 44, 45, 46, 47, 48, 49, 50, 51, 13, 14, 11, 15, 16, 17, 18, 19, 20, 21, 22, 23, 24, 25, 26, 27, 31, 32, 33, 34, 35, 36] (by decide +kernel) (by decide +kernel)
set_option maxRecDepth 20000 in
theorem gJ2_indexOf_4cfef_J2_indexOfSupplementary_4cfef : GoodIn wsJ2_indexOf_4cfef (va_wsS RJ2 232 yJ2_indexOfSupplementary_4cfef wsJ2_indexOfSupplementary_4cfef) := goodIn_app (goodIn_of _ (by decide +kernel)) ggJ2_indexOf_4cfef_J2_indexOfSupplementary_4cfef
theorem dJ2_indexOf_4cfef_0 : decode cJ2_indexOf_4cfef 0 = .ok (.iload_n 2, 1) := by decide +kernel
theorem dJ2_indexOf_4cfef_1 : decode cJ2_indexOf_4cfef 1 = .ok (.iconst 0, 1) := by decide +kernel
theorem dJ2_indexOf_4cfef_2 : decode cJ2_indexOf_4cfef 2 = .ok (.invokestatic 224, 3) := by decide +kernel
theorem dJ2_indexOf_4cfef_5 : decode cJ2_indexOf_4cfef 5 = .ok (.istore_n 2, 1) := by decide +kernel
theorem dJ2_indexOf_4cfef_6 : decode cJ2_indexOf_4cfef 6 = .ok (.iload_n 3, 1) := by decide +kernel
theorem dJ2_indexOf_4cfef_7 : decode cJ2_indexOf_4cfef 7 = .ok (.aload_n 0, 1) := by decide +kernel
theorem dJ2_indexOf_4cfef_8 : decode cJ2_indexOf_4cfef 8 = .ok (.arraylength, 1) := by decide +kernel
theorem dJ2_indexOf_4cfef_9 : decode cJ2_indexOf_4cfef 9 = .ok (.iconst 1, 1) := by decide +kernel
theorem dJ2_indexOf_4cfef_10 : decode cJ2_indexOf_4cfef 10 = .ok (.ishr, 1) := by decide +kernel
theorem dJ2_indexOf_4cfef_11 : decode cJ2_indexOf_4cfef 11 = .ok (.invokestatic 183, 3) := by decide +kernel
theorem dJ2_indexOf_4cfef_14 : decode cJ2_indexOf_4cfef 14 = .ok (.istore_n 3, 1) := by decide +kernel
theorem dJ2_indexOf_4cfef_15 : decode cJ2_indexOf_4cfef 15 = .ok (.iload_n 2, 1) := by decide +kernel
theorem dJ2_indexOf_4cfef_16 : decode cJ2_indexOf_4cfef 16 = .ok (.iload_n 3, 1) := by decide +kernel
theorem dJ2_indexOf_4cfef_17 : decode cJ2_indexOf_4cfef 17 = .ok (.if_icmp .lt 5, 3) := by decide +kernel
theorem dJ2_indexOf_4cfef_20 : decode cJ2_indexOf_4cfef 20 = .ok (.iconst (-1), 1) := by decide +kernel
theorem dJ2_indexOf_4cfef_21 : decode cJ2_indexOf_4cfef 21 = .ok (.ireturn, 1) := by decide +kernel
theorem dJ2_indexOf_4cfef_22 : decode cJ2_indexOf_4cfef 22 = .ok (.iload_n 1, 1) := by decide +kernel
theorem dJ2_indexOf_4cfef_23 : decode cJ2_indexOf_4cfef 23 = .ok (.ldc 227, 2) := by decide +kernel
theorem dJ2_indexOf_4cfef_25 : decode cJ2_indexOf_4cfef 25 = .ok (.if_icmp .ge 11, 3) := by decide +kernel
theorem dJ2_indexOf_4cfef_28 : decode cJ2_indexOf_4cfef 28 = .ok (.aload_n 0, 1) := by decide +kernel
theorem dJ2_indexOf_4cfef_29 : decode cJ2_indexOf_4cfef 29 = .ok (.iload_n 1, 1) := by decide +kernel
theorem dJ2_indexOf_4cfef_30 : decode cJ2_indexOf_4cfef 30 = .ok (.iload_n 2, 1) := by decide +kernel
theorem dJ2_indexOf_4cfef_31 : decode cJ2_indexOf_4cfef 31 = .ok (.iload_n 3, 1) := by decide +kernel
theorem dJ2_indexOf_4cfef_32 : decode cJ2_indexOf_4cfef 32 = .ok (.invokestatic 228, 3) := by decide +kernel
theorem dJ2_indexOf_4cfef_35 : decode cJ2_indexOf_4cfef 35 = .ok (.ireturn, 1) := by decide +kernel
theorem dJ2_indexOf_4cfef_36 : decode cJ2_indexOf_4cfef 36 = .ok (.aload_n 0, 1) := by decide +kernel
theorem dJ2_indexOf_4cfef_37 : decode cJ2_indexOf_4cfef 37 = .ok (.iload_n 1, 1) := by decide +kernel
theorem dJ2_indexOf_4cfef_38 : decode cJ2_indexOf_4cfef 38 = .ok (.iload_n 2, 1) := by decide +kernel
theorem dJ2_indexOf_4cfef_39 : decode cJ2_indexOf_4cfef 39 = .ok (.iload_n 3, 1) := by decide +kernel
theorem dJ2_indexOf_4cfef_40 : decode cJ2_indexOf_4cfef 40 = .ok (.invokestatic 232, 3) := by decide +kernel
theorem dJ2_indexOf_4cfef_43 : decode cJ2_indexOf_4cfef 43 = .ok (.ireturn, 1) := by decide +kernel
set_option maxRecDepth 20000 in
theorem ggJ2_indexOfChar_4cfef_J2_checkBoundsBeginEnd_d044e : GoodIn wsJ2_indexOfChar_4cfef wsJ2_checkBoundsBeginEnd_d044e := goodIn_r _ [4, 5, 6, 3, 7, 8, 9, 10, 11, 12, 13, 14, 15, 16] (by decide +kernel) (by decide +kernel)
set_option maxRecDepth 20000 in
theorem gJ2_indexOfChar_4cfef_J2_checkBoundsBeginEnd_d044e : GoodIn wsJ2_indexOfChar_4cfef (va_wsS RJ2 96 yJ2_checkBoundsBeginEnd_d044e wsJ2_checkBoundsBeginEnd_d044e) := goodIn_app (goodIn_of _ (by decide +kernel)) ggJ2_indexOfChar_4cfef_J2_checkBoundsBeginEnd_d044e
set_option maxRecDepth 20000 in
theorem ggJ2_indexOfChar_4cfef_J2_indexOfCharUnsafe_4cfef : GoodIn wsJ2_indexOfChar_4cfef wsJ2_indexOfCharUnsafe_4cfef := goodIn_r _ [19, 20, 21, 3, 22, 23, 24, 25, 5, 6, 7] (by decide +kernel) (by decide +kernel)
set_option maxRecDepth 20000 in
theorem gJ2_indexOfChar_4cfef_J2_indexOfCharUnsafe_4cfef : GoodIn wsJ2_indexOfChar_4cfef (va_wsS RJ2 244 yJ2_indexOfCharUnsafe_4cfef wsJ2_indexOfCharUnsafe_4cfef) := goodIn_app (goodIn_of _ (by decide +kernel)) ggJ2_indexOfChar_4cfef_J2_indexOfCharUnsafe_4cfef
theorem dJ2_indexOfChar_4cfef_0 : decode cJ2_indexOfChar_4cfef 0 = .ok (.iload_n 2, 1) := by decide +kernel
theorem dJ2_indexOfChar_4cfef_1 : decode cJ2_indexOfChar_4cfef 1 = .ok (.iload_n 3, 1) := by decide +kernel
theorem dJ2_indexOfChar_4cfef_2 : decode cJ2_indexOfChar_4cfef 2 = .ok (.aload_n 0, 1) := by decide +kernel
theorem dJ2_indexOfChar_4cfef_3 : decode cJ2_indexOfChar_4cfef 3 = .ok (.invokestatic 96, 3) := by decide +kernel
theorem dJ2_indexOfChar_4cfef_6 : decode cJ2_indexOfChar_4cfef 6 = .ok (.aload_n 0, 1) := by decide +kernel
theorem dJ2_indexOfChar_4cfef_7 : decode cJ2_indexOfChar_4cfef 7 = .ok (.iload_n 1, 1) := by decide +kernel
theorem dJ2_indexOfChar_4cfef_8 : decode cJ2_indexOfChar_4cfef 8 = .ok (.iload_n 2, 1) := by decide +kernel
theorem dJ2_indexOfChar_4cfef_9 : decode cJ2_indexOfChar_4cfef 9 = .ok (.iload_n 3, 1) := by decide +kernel
theorem dJ2_indexOfChar_4cfef_10 : decode cJ2_indexOfChar_4cfef 10 = .ok (.invokestatic 244, 3) := by decide +kernel
theorem dJ2_indexOfChar_4cfef_13 : decode cJ2_indexOfChar_4cfef 13 = .ok (.ireturn, 1) := by decide +kernel
set_option maxRecDepth 20000 in
theorem ggJ2_indexOfCharUnsafe_4cfef_J2_getChar_3b067 : GoodIn wsJ2_indexOfCharUnsafe_4cfef wsJ2_getChar_3b067 := goodIn_r _ [4, 5, 6, 7, 8, 9, 3, 10] (by decide +kernel) (by decide +kernel)
set_option maxRecDepth 20000 in
theorem gJ2_indexOfCharUnsafe_4cfef_J2_getChar_3b067 : GoodIn wsJ2_indexOfCharUnsafe_4cfef (va_wsS RJ2 71 yJ2_getChar_3b067 wsJ2_getChar_3b067) := goodIn_app (goodIn_of _ (by decide +kernel)) ggJ2_indexOfCharUnsafe_4cfef_J2_getChar_3b067
theorem dJ2_indexOfCharUnsafe_4cfef_0 : decode cJ2_indexOfCharUnsafe_4cfef 0 = .ok (.iload_n 2, 1) := by decide +kernel
theorem dJ2_indexOfCharUnsafe_4cfef_1 : decode cJ2_indexOfCharUnsafe_4cfef 1 = .ok (.istore 4, 2) := by decide +kernel
theorem dJ2_indexOfCharUnsafe_4cfef_3 : decode cJ2_indexOfCharUnsafe_4cfef 3 = .ok (.iload 4, 2) := by decide +kernel
theorem dJ2_indexOfCharUnsafe_4cfef_5 : decode cJ2_indexOfCharUnsafe_4cfef 5 = .ok (.iload_n 3, 1) := by decide +kernel
theorem dJ2_indexOfCharUnsafe_4cfef_6 : decode cJ2_indexOfCharUnsafe_4cfef 6 = .ok (.if_icmp .ge 22, 3) := by decide +kernel
theorem dJ2_indexOfCharUnsafe_4cfef_9 : decode cJ2_indexOfCharUnsafe_4cfef 9 = .ok (.aload_n 0, 1) := by decide +kernel
theorem dJ2_indexOfCharUnsafe_4cfef_10 : decode cJ2_indexOfCharUnsafe_4cfef 10 = .ok (.iload 4, 2) := by decide +kernel
theorem dJ2_indexOfCharUnsafe_4cfef_12 : decode cJ2_indexOfCharUnsafe_4cfef 12 = .ok (.invokestatic 71, 3) := by decide +kernel
theorem dJ2_indexOfCharUnsafe_4cfef_15 : decode cJ2_indexOfCharUnsafe_4cfef 15 = .ok (.iload_n 1, 1) := by decide +kernel
theorem dJ2_indexOfCharUnsafe_4cfef_16 : decode cJ2_indexOfCharUnsafe_4cfef 16 = .ok (.if_icmp .ne 6, 3) := by decide +kernel
theorem dJ2_indexOfCharUnsafe_4cfef_19 : decode cJ2_indexOfCharUnsafe_4cfef 19 = .ok (.iload 4, 2) := by decide +kernel
theorem dJ2_indexOfCharUnsafe_4cfef_21 : decode cJ2_indexOfCharUnsafe_4cfef 21 = .ok (.ireturn, 1) := by decide +kernel
theorem dJ2_indexOfCharUnsafe_4cfef_22 : decode cJ2_indexOfCharUnsafe_4cfef 22 = .ok (.iinc 4 1, 3) := by decide +kernel
theorem dJ2_indexOfCharUnsafe_4cfef_25 : decode cJ2_indexOfCharUnsafe_4cfef 25 = .ok (.goto (-22), 3) := by decide +kernel
theorem dJ2_indexOfCharUnsafe_4cfef_28 : decode cJ2_indexOfCharUnsafe_4cfef 28 = .ok (.iconst (-1), 1) := by decide +kernel
theorem dJ2_indexOfCharUnsafe_4cfef_29 : decode cJ2_indexOfCharUnsafe_4cfef 29 = .ok (.ireturn, 1) := by decide +kernel
set_option maxRecDepth 20000 in
theorem ggJ2_indexOfSupplementary_4cfef_J11_isValidCodePoint_9a6ad : GoodIn wsJ2_indexOfSupplementary_4cfef wsJ11_isValidCodePoint_9a6ad := goodIn_r _ [4] (by decide +kernel) (by decide +kernel)
set_option maxRecDepth 20000 in
theorem gJ2_indexOfSupplementary_4cfef_J11_isValidCodePoint_9a6ad : GoodIn wsJ2_indexOfSupplementary_4cfef (va_wsS RJ2 164 yJ11_isValidCodePoint_9a6ad wsJ11_isValidCodePoint_9a6ad) := goodIn_app (goodIn_of _ (by decide +kernel)) ggJ2_indexOfSupplementary_4cfef_J11_isValidCodePoint_9a6ad
set_option maxRecDepth 20000 in
theorem ggJ2_indexOfSupplementary_4cfef_J11_highSurrogate_5068e : GoodIn wsJ2_indexOfSupplementary_4cfef wsJ11_highSurrogate_5068e := goodIn_r _ [7, 8] (by decide +kernel) (by decide +kernel)
set_option maxRecDepth 20000 in
theorem gJ2_indexOfSupplementary_4cfef_J11_highSurrogate_5068e : GoodIn wsJ2_indexOfSupplementary_4cfef (va_wsS RJ2 157 yJ11_highSurrogate_5068e wsJ11_highSurrogate_5068e) := goodIn_app (goodIn_of _ (by decide +kernel)) ggJ2_indexOfSupplementary_4cfef_J11_highSurrogate_5068e
set_option maxRecDepth 20000 in
theorem ggJ2_indexOfSupplementary_4cfef_J11_lowSurrogate_5068e : GoodIn wsJ2_indexOfSupplementary_4cfef wsJ11_lowSurrogate_5068e := goodIn_r _ [11, 12] (by decide +kernel) (by decide +kernel)
set_option maxRecDepth 20000 in
theorem gJ2_indexOfSupplementary_4cfef_J11_lowSurrogate_5068e : GoodIn wsJ2_indexOfSupplementary_4cfef (va_wsS RJ2 161 yJ11_lowSurrogate_5068e wsJ11_lowSurrogate_5068e) := goodIn_app (goodIn_of _ (by decide +kernel)) ggJ2_indexOfSupplementary_4cfef_J11_lowSurrogate_5068e
set_option maxRecDepth 20000 in
theorem ggJ2_indexOfSupplementary_4cfef_J2_checkBoundsBeginEnd_d044e : GoodIn wsJ2_indexOfSupplementary_4cfef wsJ2_checkBoundsBeginEnd_d044e := goodIn_r _ [16, 17, 18, 15, 19, 20, 21, 22, 23, 24, 25, 26, 27, 28] (by decide +kernel) (by decide +kernel)
set_option maxRecDepth 20000 in
theorem gJ2_indexOfSupplementary_4cfef_J2_checkBoundsBeginEnd_d044e : GoodIn wsJ2_indexOfSupplementary_4cfef (va_wsS RJ2 96 yJ2_checkBoundsBeginEnd_d044e wsJ2_checkBoundsBeginEnd_d044e) := goodIn_app (goodIn_of _ (by decide +kernel)) ggJ2_indexOfSupplementary_4cfef_J2_checkBoundsBeginEnd_d044e
set_option maxRecDepth 20000 in
theorem ggJ2_indexOfSupplementary_4cfef_J2_getChar_3b067 : GoodIn wsJ2_indexOfSupplementary_4cfef wsJ2_getChar_3b067 := goodIn_r _ [31, 32, 33, 34, 17, 18, 15, 19] (by decide +kernel) (by decide +kernel)
set_option maxRecDepth 20000 in
theorem gJ2_indexOfSupplementary_4cfef_J2_getChar_3b067 : GoodIn wsJ2_indexOfSupplementary_4cfef (va_wsS RJ2 71 yJ2_getChar_3b067 wsJ2_getChar_3b067) := goodIn_app (goodIn_of _ (by decide +kernel)) ggJ2_indexOfSupplementary_4cfef_J2_getChar_3b067
theorem dJ2_indexOfSupplementary_4cfef_0 : decode cJ2_indexOfSupplementary_4cfef 0 = .ok (.iload_n 1, 1) := by decide +kernel
theorem dJ2_indexOfSupplementary_4cfef_1 : decode cJ2_indexOfSupplementary_4cfef 1 = .ok (.invokestatic 164, 3) := by decide +kernel
theorem dJ2_indexOfSupplementary_4cfef_4 : decode cJ2_indexOfSupplementary_4cfef 4 = .ok (.ifCond .eq 65, 3) := by decide +kernel
theorem dJ2_indexOfSupplementary_4cfef_7 : decode cJ2_indexOfSupplementary_4cfef 7 = .ok (.iload_n 1, 1) := by decide +kernel
theorem dJ2_indexOfSupplementary_4cfef_8 : decode cJ2_indexOfSupplementary_4cfef 8 = .ok (.invokestatic 157, 3) := by decide +kernel
theorem dJ2_indexOfSupplementary_4cfef_11 : decode cJ2_indexOfSupplementary_4cfef 11 = .ok (.istore 4, 2) := by decide +kernel
theorem dJ2_indexOfSupplementary_4cfef_13 : decode cJ2_indexOfSupplementary_4cfef 13 = .ok (.iload_n 1, 1) := by decide +kernel
theorem dJ2_indexOfSupplementary_4cfef_14 : decode cJ2_indexOfSupplementary_4cfef 14 = .ok (.invokestatic 161, 3) := by decide +kernel
theorem dJ2_indexOfSupplementary_4cfef_17 : decode cJ2_indexOfSupplementary_4cfef 17 = .ok (.istore 5, 2) := by decide +kernel
theorem dJ2_indexOfSupplementary_4cfef_19 : decode cJ2_indexOfSupplementary_4cfef 19 = .ok (.iload_n 2, 1) := by decide +kernel
theorem dJ2_indexOfSupplementary_4cfef_20 : decode cJ2_indexOfSupplementary_4cfef 20 = .ok (.iload_n 3, 1) := by decide +kernel
theorem dJ2_indexOfSupplementary_4cfef_21 : decode cJ2_indexOfSupplementary_4cfef 21 = .ok (.aload_n 0, 1) := by decide +kernel
theorem dJ2_indexOfSupplementary_4cfef_22 : decode cJ2_indexOfSupplementary_4cfef 22 = .ok (.invokestatic 96, 3) := by decide +kernel
theorem dJ2_indexOfSupplementary_4cfef_25 : decode cJ2_indexOfSupplementary_4cfef 25 = .ok (.iload_n 2, 1) := by decide +kernel
theorem dJ2_indexOfSupplementary_4cfef_26 : decode cJ2_indexOfSupplementary_4cfef 26 = .ok (.istore 6, 2) := by decide +kernel
theorem dJ2_indexOfSupplementary_4cfef_28 : decode cJ2_indexOfSupplementary_4cfef 28 = .ok (.iload 6, 2) := by decide +kernel
theorem dJ2_indexOfSupplementary_4cfef_30 : decode cJ2_indexOfSupplementary_4cfef 30 = .ok (.iload_n 3, 1) := by decide +kernel
theorem dJ2_indexOfSupplementary_4cfef_31 : decode cJ2_indexOfSupplementary_4cfef 31 = .ok (.iconst 1, 1) := by decide +kernel
theorem dJ2_indexOfSupplementary_4cfef_32 : decode cJ2_indexOfSupplementary_4cfef 32 = .ok (.isub, 1) := by decide +kernel
theorem dJ2_indexOfSupplementary_4cfef_33 : decode cJ2_indexOfSupplementary_4cfef 33 = .ok (.if_icmp .ge 36, 3) := by decide +kernel
theorem dJ2_indexOfSupplementary_4cfef_36 : decode cJ2_indexOfSupplementary_4cfef 36 = .ok (.aload_n 0, 1) := by decide +kernel
theorem dJ2_indexOfSupplementary_4cfef_37 : decode cJ2_indexOfSupplementary_4cfef 37 = .ok (.iload 6, 2) := by decide +kernel
theorem dJ2_indexOfSupplementary_4cfef_39 : decode cJ2_indexOfSupplementary_4cfef 39 = .ok (.invokestatic 71, 3) := by decide +kernel
theorem dJ2_indexOfSupplementary_4cfef_42 : decode cJ2_indexOfSupplementary_4cfef 42 = .ok (.iload 4, 2) := by decide +kernel
theorem dJ2_indexOfSupplementary_4cfef_44 : decode cJ2_indexOfSupplementary_4cfef 44 = .ok (.if_icmp .ne 19, 3) := by decide +kernel
theorem dJ2_indexOfSupplementary_4cfef_47 : decode cJ2_indexOfSupplementary_4cfef 47 = .ok (.aload_n 0, 1) := by decide +kernel
theorem dJ2_indexOfSupplementary_4cfef_48 : decode cJ2_indexOfSupplementary_4cfef 48 = .ok (.iload 6, 2) := by decide +kernel
theorem dJ2_indexOfSupplementary_4cfef_50 : decode cJ2_indexOfSupplementary_4cfef 50 = .ok (.iconst 1, 1) := by decide +kernel
theorem dJ2_indexOfSupplementary_4cfef_51 : decode cJ2_indexOfSupplementary_4cfef 51 = .ok (.iadd, 1) := by decide +kernel
theorem dJ2_indexOfSupplementary_4cfef_52 : decode cJ2_indexOfSupplementary_4cfef 52 = .ok (.invokestatic 71, 3) := by decide +kernel
theorem dJ2_indexOfSupplementary_4cfef_55 : decode cJ2_indexOfSupplementary_4cfef 55 = .ok (.iload 5, 2) := by decide +kernel
theorem dJ2_indexOfSupplementary_4cfef_57 : decode cJ2_indexOfSupplementary_4cfef 57 = .ok (.if_icmp .ne 6, 3) := by decide +kernel
theorem dJ2_indexOfSupplementary_4cfef_60 : decode cJ2_indexOfSupplementary_4cfef 60 = .ok (.iload 6, 2) := by decide +kernel
theorem dJ2_indexOfSupplementary_4cfef_62 : decode cJ2_indexOfSupplementary_4cfef 62 = .ok (.ireturn, 1) := by decide +kernel
theorem dJ2_indexOfSupplementary_4cfef_63 : decode cJ2_indexOfSupplementary_4cfef 63 = .ok (.iinc 6 1, 3) := by decide +kernel
theorem dJ2_indexOfSupplementary_4cfef_66 : decode cJ2_indexOfSupplementary_4cfef 66 = .ok (.goto (-38), 3) := by decide +kernel
theorem dJ2_indexOfSupplementary_4cfef_69 : decode cJ2_indexOfSupplementary_4cfef 69 = .ok (.iconst (-1), 1) := by decide +kernel
theorem dJ2_indexOfSupplementary_4cfef_70 : decode cJ2_indexOfSupplementary_4cfef 70 = .ok (.ireturn, 1) := by decide +kernel
set_option maxRecDepth 20000 in
theorem ggJ2_checkBoundsBeginEnd_d044e_J2_length_9d52b : GoodIn wsJ2_checkBoundsBeginEnd_d044e wsJ2_length_9d52b := goodIn_r _ [4] (by decide +kernel) (by decide +kernel)
set_option maxRecDepth 20000 in
theorem gJ2_checkBoundsBeginEnd_d044e_J2_length_9d52b : GoodIn wsJ2_checkBoundsBeginEnd_d044e (va_wsS RJ2 48 yJ2_length_9d52b wsJ2_length_9d52b) := goodIn_app (goodIn_of _ (by decide +kernel)) ggJ2_checkBoundsBeginEnd_d044e_J2_length_9d52b
set_option maxRecDepth 20000 in
theorem ggJ2_checkBoundsBeginEnd_d044e_J0_checkBoundsBeginEnd_23922 : GoodIn wsJ2_checkBoundsBeginEnd_d044e wsJ0_checkBoundsBeginEnd_23922 := goodIn_r _ [8, 9, 10, 11, 12, 13] (by decide +kernel) (by decide +kernel)
set_option maxRecDepth 20000 in
theorem gJ2_checkBoundsBeginEnd_d044e_J0_checkBoundsBeginEnd_23922 : GoodIn wsJ2_checkBoundsBeginEnd_d044e (va_wsS RJ2 241 yJ0_checkBoundsBeginEnd_23922 wsJ0_checkBoundsBeginEnd_23922) := goodIn_app (goodIn_of _ (by decide +kernel)) ggJ2_checkBoundsBeginEnd_d044e_J0_checkBoundsBeginEnd_23922
theorem dJ2_checkBoundsBeginEnd_d044e_0 : decode cJ2_checkBoundsBeginEnd_d044e 0 = .ok (.iload_n 0, 1) := by decide +kernel
theorem dJ2_checkBoundsBeginEnd_d044e_1 : decode cJ2_checkBoundsBeginEnd_d044e 1 = .ok (.iload_n 1, 1) := by decide +kernel
theorem dJ2_checkBoundsBeginEnd_d044e_2 : decode cJ2_checkBoundsBeginEnd_d044e 2 = .ok (.aload_n 2, 1) := by decide +kernel
theorem dJ2_checkBoundsBeginEnd_d044e_3 : decode cJ2_checkBoundsBeginEnd_d044e 3 = .ok (.invokestatic 48, 3) := by decide +kernel
theorem dJ2_checkBoundsBeginEnd_d044e_6 : decode cJ2_checkBoundsBeginEnd_d044e 6 = .ok (.invokestatic 241, 3) := by decide +kernel
theorem dJ2_checkBoundsBeginEnd_d044e_9 : decode cJ2_checkBoundsBeginEnd_d044e 9 = .ok (.return_, 1) := by decide +kernel
theorem dJxa1e45_init_da8c8_0 : decode cJxa1e45_init_da8c8 0 = .ok (.aload_n 0, 1) := by decide +kernel
theorem dJxa1e45_init_da8c8_1 : decode cJxa1e45_init_da8c8 1 = .ok (.invokespecial 1, 3) := by decide +kernel
theorem dJxa1e45_init_da8c8_4 : decode cJxa1e45_init_da8c8 4 = .ok (.return_, 1) := by decide +kernel
set_option maxRecDepth 20000 in
theorem ggJxc12de_init_da8c8_Jxa1e45_init_da8c8 : GoodIn wsJxc12de_init_da8c8 wsJxa1e45_init_da8c8 := goodIn_r _ [5, 6, 7, 8] (by decide +kernel) (by decide +kernel)
set_option maxRecDepth 20000 in
theorem gJxc12de_init_da8c8_Jxa1e45_init_da8c8 : GoodIn wsJxc12de_init_da8c8 (wsJxa1e45_init_da8c8) := ggJxc12de_init_da8c8_Jxa1e45_init_da8c8
theorem dJxc12de_init_da8c8_0 : decode cJxc12de_init_da8c8 0 = .ok (.aload_n 0, 1) := by decide +kernel
theorem dJxc12de_init_da8c8_1 : decode cJxc12de_init_da8c8 1 = .ok (.invokespecial 1, 3) := by decide +kernel
theorem dJxc12de_init_da8c8_4 : decode cJxc12de_init_da8c8 4 = .ok (.aload_n 0, 1) := by decide +kernel
theorem dJxc12de_init_da8c8_5 : decode cJxc12de_init_da8c8 5 = .ok (.iconst 0, 1) := by decide +kernel
theorem dJxc12de_init_da8c8_6 : decode cJxc12de_init_da8c8 6 = .ok (.putfield 7, 3) := by decide +kernel
theorem dJxc12de_init_da8c8_9 : decode cJxc12de_init_da8c8 9 = .ok (.return_, 1) := by decide +kernel
theorem dJx35411_init_45d68_0 : decode cJx35411_init_45d68 0 = .ok (.aload_n 0, 1) := by decide +kernel
theorem dJx35411_init_45d68_1 : decode cJx35411_init_45d68 1 = .ok (.aload_n 1, 1) := by decide +kernel
theorem dJx35411_init_45d68_2 : decode cJx35411_init_45d68 2 = .ok (.putfield 1, 3) := by decide +kernel
theorem dJx35411_init_45d68_5 : decode cJx35411_init_45d68 5 = .ok (.aload_n 0, 1) := by decide +kernel
theorem dJx35411_init_45d68_6 : decode cJx35411_init_45d68 6 = .ok (.invokespecial 7, 3) := by decide +kernel
theorem dJx35411_init_45d68_9 : decode cJx35411_init_45d68 9 = .ok (.aload_n 0, 1) := by decide +kernel
theorem dJx35411_init_45d68_10 : decode cJx35411_init_45d68 10 = .ok (.iconst (-1), 1) := by decide +kernel
theorem dJx35411_init_45d68_11 : decode cJx35411_init_45d68 11 = .ok (.putfield 13, 3) := by decide +kernel
theorem dJx35411_init_45d68_14 : decode cJx35411_init_45d68 14 = .ok (.aload_n 0, 1) := by decide +kernel
theorem dJx35411_init_45d68_15 : decode cJx35411_init_45d68 15 = .ok (.aload_n 0, 1) := by decide +kernel
theorem dJx35411_init_45d68_16 : decode cJx35411_init_45d68 16 = .ok (.getfield 1, 3) := by decide +kernel
theorem dJx35411_init_45d68_19 : decode cJx35411_init_45d68 19 = .ok (.getfield 17, 3) := by decide +kernel
theorem dJx35411_init_45d68_22 : decode cJx35411_init_45d68 22 = .ok (.putfield 22, 3) := by decide +kernel
theorem dJx35411_init_45d68_25 : decode cJx35411_init_45d68 25 = .ok (.return_, 1) := by decide +kernel
theorem dJx35411_hasNext_aae02_0 : decode cJx35411_hasNext_aae02 0 = .ok (.aload_n 0, 1) := by decide +kernel
theorem dJx35411_hasNext_aae02_1 : decode cJx35411_hasNext_aae02 1 = .ok (.getfield 25, 3) := by decide +kernel
theorem dJx35411_hasNext_aae02_4 : decode cJx35411_hasNext_aae02 4 = .ok (.aload_n 0, 1) := by decide +kernel
theorem dJx35411_hasNext_aae02_5 : decode cJx35411_hasNext_aae02 5 = .ok (.getfield 1, 3) := by decide +kernel
theorem dJx35411_hasNext_aae02_8 : decode cJx35411_hasNext_aae02 8 = .ok (.getfield 28, 3) := by decide +kernel
theorem dJx35411_hasNext_aae02_11 : decode cJx35411_hasNext_aae02 11 = .ok (.if_icmp .eq 7, 3) := by decide +kernel
theorem dJx35411_hasNext_aae02_14 : decode cJx35411_hasNext_aae02 14 = .ok (.iconst 1, 1) := by decide +kernel
theorem dJx35411_hasNext_aae02_15 : decode cJx35411_hasNext_aae02 15 = .ok (.goto 4, 3) := by decide +kernel
theorem dJx35411_hasNext_aae02_18 : decode cJx35411_hasNext_aae02 18 = .ok (.iconst 0, 1) := by decide +kernel
theorem dJx35411_hasNext_aae02_19 : decode cJx35411_hasNext_aae02 19 = .ok (.ireturn, 1) := by decide +kernel
set_option maxRecDepth 20000 in
theorem ggJx35411_next_0502b_Jx35411_checkForComodification_da8c8 : GoodIn wsJx35411_next_0502b wsJx35411_checkForComodification_da8c8 := goodIn_r _ [9, 2, 10, 11, 12, 13, 14, 15, 16, 17, 18, 19] (by decide +kernel) (by decide +kernel)
set_option maxRecDepth 20000 in
theorem gJx35411_next_0502b_Jx35411_checkForComodification_da8c8 : GoodIn wsJx35411_next_0502b (wsV RJx35411 31 RJx35411 yJx35411_checkForComodification_da8c8 wsJx35411_checkForComodification_da8c8) := goodIn_app (goodIn_of _ (by decide +kernel)) ggJx35411_next_0502b_Jx35411_checkForComodification_da8c8
theorem dJx35411_next_0502b_0 : decode cJx35411_next_0502b 0 = .ok (.aload_n 0, 1) := by decide +kernel
theorem dJx35411_next_0502b_1 : decode cJx35411_next_0502b 1 = .ok (.invokevirtual 31, 3) := by decide +kernel
theorem dJx35411_next_0502b_4 : decode cJx35411_next_0502b 4 = .ok (.aload_n 0, 1) := by decide +kernel
theorem dJx35411_next_0502b_5 : decode cJx35411_next_0502b 5 = .ok (.getfield 25, 3) := by decide +kernel
theorem dJx35411_next_0502b_8 : decode cJx35411_next_0502b 8 = .ok (.istore_n 1, 1) := by decide +kernel
theorem dJx35411_next_0502b_9 : decode cJx35411_next_0502b 9 = .ok (.iload_n 1, 1) := by decide +kernel
theorem dJx35411_next_0502b_10 : decode cJx35411_next_0502b 10 = .ok (.aload_n 0, 1) := by decide +kernel
theorem dJx35411_next_0502b_11 : decode cJx35411_next_0502b 11 = .ok (.getfield 1, 3) := by decide +kernel
theorem dJx35411_next_0502b_14 : decode cJx35411_next_0502b 14 = .ok (.getfield 28, 3) := by decide +kernel
theorem dJx35411_next_0502b_17 : decode cJx35411_next_0502b 17 = .ok (.if_icmp .lt 11, 3) := by decide +kernel
theorem dJx35411_next_0502b_20 : decode cJx35411_next_0502b 20 = .ok (.new 34, 3) := by decide +kernel
theorem dJx35411_next_0502b_23 : decode cJx35411_next_0502b 23 = .ok (.dup, 1) := by decide +kernel
theorem dJx35411_next_0502b_24 : decode cJx35411_next_0502b 24 = .ok (.invokespecial 36, 3) := by decide +kernel
theorem dJx35411_next_0502b_27 : decode cJx35411_next_0502b 27 = .ok (.athrow, 1) := by decide +kernel
theorem dJx35411_next_0502b_28 : decode cJx35411_next_0502b 28 = .ok (.aload_n 0, 1) := by decide +kernel
theorem dJx35411_next_0502b_29 : decode cJx35411_next_0502b 29 = .ok (.getfield 1, 3) := by decide +kernel
theorem dJx35411_next_0502b_32 : decode cJx35411_next_0502b 32 = .ok (.getfield 37, 3) := by decide +kernel
theorem dJx35411_next_0502b_35 : decode cJx35411_next_0502b 35 = .ok (.astore_n 2, 1) := by decide +kernel
theorem dJx35411_next_0502b_36 : decode cJx35411_next_0502b 36 = .ok (.iload_n 1, 1) := by decide +kernel
theorem dJx35411_next_0502b_37 : decode cJx35411_next_0502b 37 = .ok (.aload_n 2, 1) := by decide +kernel
theorem dJx35411_next_0502b_38 : decode cJx35411_next_0502b 38 = .ok (.arraylength, 1) := by decide +kernel
theorem dJx35411_next_0502b_39 : decode cJx35411_next_0502b 39 = .ok (.if_icmp .lt 11, 3) := by decide +kernel
theorem dJx35411_next_0502b_42 : decode cJx35411_next_0502b 42 = .ok (.new 41, 3) := by decide +kernel
theorem dJx35411_next_0502b_45 : decode cJx35411_next_0502b 45 = .ok (.dup, 1) := by decide +kernel
theorem dJx35411_next_0502b_46 : decode cJx35411_next_0502b 46 = .ok (.invokespecial 43, 3) := by decide +kernel
theorem dJx35411_next_0502b_49 : decode cJx35411_next_0502b 49 = .ok (.athrow, 1) := by decide +kernel
theorem dJx35411_next_0502b_50 : decode cJx35411_next_0502b 50 = .ok (.aload_n 0, 1) := by decide +kernel
theorem dJx35411_next_0502b_51 : decode cJx35411_next_0502b 51 = .ok (.iload_n 1, 1) := by decide +kernel
theorem dJx35411_next_0502b_52 : decode cJx35411_next_0502b 52 = .ok (.iconst 1, 1) := by decide +kernel
theorem dJx35411_next_0502b_53 : decode cJx35411_next_0502b 53 = .ok (.iadd, 1) := by decide +kernel
theorem dJx35411_next_0502b_54 : decode cJx35411_next_0502b 54 = .ok (.putfield 25, 3) := by decide +kernel
theorem dJx35411_next_0502b_57 : decode cJx35411_next_0502b 57 = .ok (.aload_n 2, 1) := by decide +kernel
theorem dJx35411_next_0502b_58 : decode cJx35411_next_0502b 58 = .ok (.aload_n 0, 1) := by decide +kernel
theorem dJx35411_next_0502b_59 : decode cJx35411_next_0502b 59 = .ok (.iload_n 1, 1) := by decide +kernel
theorem dJx35411_next_0502b_60 : decode cJx35411_next_0502b 60 = .ok (.dup_x1, 1) := by decide +kernel
theorem dJx35411_next_0502b_61 : decode cJx35411_next_0502b 61 = .ok (.putfield 13, 3) := by decide +kernel
theorem dJx35411_next_0502b_64 : decode cJx35411_next_0502b 64 = .ok (.aaload, 1) := by decide +kernel
theorem dJx35411_next_0502b_65 : decode cJx35411_next_0502b 65 = .ok (.areturn, 1) := by decide +kernel
theorem dJx35411_checkForComodification_da8c8_0 : decode cJx35411_checkForComodification_da8c8 0 = .ok (.aload_n 0, 1) := by decide +kernel
theorem dJx35411_checkForComodification_da8c8_1 : decode cJx35411_checkForComodification_da8c8 1 = .ok (.getfield 1, 3) := by decide +kernel
theorem dJx35411_checkForComodification_da8c8_4 : decode cJx35411_checkForComodification_da8c8 4 = .ok (.getfield 17, 3) := by decide +kernel
theorem dJx35411_checkForComodification_da8c8_7 : decode cJx35411_checkForComodification_da8c8 7 = .ok (.aload_n 0, 1) := by decide +kernel
theorem dJx35411_checkForComodification_da8c8_8 : decode cJx35411_checkForComodification_da8c8 8 = .ok (.getfield 22, 3) := by decide +kernel
theorem dJx35411_checkForComodification_da8c8_11 : decode cJx35411_checkForComodification_da8c8 11 = .ok (.if_icmp .eq 11, 3) := by decide +kernel
theorem dJx35411_checkForComodification_da8c8_14 : decode cJx35411_checkForComodification_da8c8 14 = .ok (.new 41, 3) := by decide +kernel
theorem dJx35411_checkForComodification_da8c8_17 : decode cJx35411_checkForComodification_da8c8 17 = .ok (.dup, 1) := by decide +kernel
theorem dJx35411_checkForComodification_da8c8_18 : decode cJx35411_checkForComodification_da8c8 18 = .ok (.invokespecial 43, 3) := by decide +kernel
theorem dJx35411_checkForComodification_da8c8_21 : decode cJx35411_checkForComodification_da8c8 21 = .ok (.athrow, 1) := by decide +kernel
theorem dJx35411_checkForComodification_da8c8_22 : decode cJx35411_checkForComodification_da8c8 22 = .ok (.return_, 1) := by decide +kernel
set_option maxRecDepth 20000 in
theorem ggJx4a65c_init_da8c8_Jxc12de_init_da8c8 : GoodIn wsJx4a65c_init_da8c8 wsJxc12de_init_da8c8 := goodIn_r _ [6, 7, 8, 9, 10, 11, 12, 13, 14, 15, 16, 17] (by decide +kernel) (by decide +kernel)
set_option maxRecDepth 20000 in
theorem gJx4a65c_init_da8c8_Jxc12de_init_da8c8 : GoodIn wsJx4a65c_init_da8c8 (wsJxc12de_init_da8c8) := ggJx4a65c_init_da8c8_Jxc12de_init_da8c8
theorem dJx4a65c_init_da8c8_0 : decode cJx4a65c_init_da8c8 0 = .ok (.aload_n 0, 1) := by decide +kernel
theorem dJx4a65c_init_da8c8_1 : decode cJx4a65c_init_da8c8 1 = .ok (.invokespecial 1, 3) := by decide +kernel
theorem dJx4a65c_init_da8c8_4 : decode cJx4a65c_init_da8c8 4 = .ok (.aload_n 0, 1) := by decide +kernel
theorem dJx4a65c_init_da8c8_5 : decode cJx4a65c_init_da8c8 5 = .ok (.getstatic 39, 3) := by decide +kernel
theorem dJx4a65c_init_da8c8_8 : decode cJx4a65c_init_da8c8 8 = .ok (.putfield 9, 3) := by decide +kernel
theorem dJx4a65c_init_da8c8_11 : decode cJx4a65c_init_da8c8 11 = .ok (.return_, 1) := by decide +kernel
set_option maxRecDepth 20000 in
theorem ggJx4a65c_grow_92f84_J8_newLength_cabcc : GoodIn wsJx4a65c_grow_92f84 wsJ8_newLength_cabcc := goodIn_r _ [11, 12, 4, 5, 6, 13, 14, 15, 10, 16] (by decide +kernel) (by decide +kernel)
set_option maxRecDepth 20000 in
theorem gJx4a65c_grow_92f84_J8_newLength_cabcc : GoodIn wsJx4a65c_grow_92f84 (va_wsS RJx4a65c 73 yJ8_newLength_cabcc wsJ8_newLength_cabcc) := goodIn_app (goodIn_of _ (by decide +kernel)) ggJx4a65c_grow_92f84_J8_newLength_cabcc
set_option maxRecDepth 20000 in
theorem ggJx4a65c_grow_92f84_J7_copyOf_1904c : GoodIn wsJx4a65c_grow_92f84 wsJ7_copyOf_1904c := goodIn_r _ [20, 21, 22, 23, 24, 25, 26, 19, 27, 28, 29, 30, 31, 5, 32, 33, 34, 35, 36] (by decide +kernel) (by decide +kernel)
set_option maxRecDepth 20000 in
theorem gJx4a65c_grow_92f84_J7_copyOf_1904c : GoodIn wsJx4a65c_grow_92f84 (va_wsS RJx4a65c 66 yJ7_copyOf_1904c wsJ7_copyOf_1904c) := goodIn_app (goodIn_of _ (by decide +kernel)) ggJx4a65c_grow_92f84_J7_copyOf_1904c
theorem dJx4a65c_grow_92f84_0 : decode cJx4a65c_grow_92f84 0 = .ok (.aload_n 0, 1) := by decide +kernel
theorem dJx4a65c_grow_92f84_1 : decode cJx4a65c_grow_92f84 1 = .ok (.getfield 9, 3) := by decide +kernel
theorem dJx4a65c_grow_92f84_4 : decode cJx4a65c_grow_92f84 4 = .ok (.arraylength, 1) := by decide +kernel
theorem dJx4a65c_grow_92f84_5 : decode cJx4a65c_grow_92f84 5 = .ok (.istore_n 2, 1) := by decide +kernel
theorem dJx4a65c_grow_92f84_6 : decode cJx4a65c_grow_92f84 6 = .ok (.iload_n 2, 1) := by decide +kernel
theorem dJx4a65c_grow_92f84_7 : decode cJx4a65c_grow_92f84 7 = .ok (.ifCond .gt 13, 3) := by decide +kernel
theorem dJx4a65c_grow_92f84_10 : decode cJx4a65c_grow_92f84 10 = .ok (.aload_n 0, 1) := by decide +kernel
theorem dJx4a65c_grow_92f84_11 : decode cJx4a65c_grow_92f84 11 = .ok (.getfield 9, 3) := by decide +kernel
theorem dJx4a65c_grow_92f84_14 : decode cJx4a65c_grow_92f84 14 = .ok (.getstatic 39, 3) := by decide +kernel
theorem dJx4a65c_grow_92f84_17 : decode cJx4a65c_grow_92f84 17 = .ok (.if_acmp .eq 28, 3) := by decide +kernel
theorem dJx4a65c_grow_92f84_20 : decode cJx4a65c_grow_92f84 20 = .ok (.iload_n 2, 1) := by decide +kernel
theorem dJx4a65c_grow_92f84_21 : decode cJx4a65c_grow_92f84 21 = .ok (.iload_n 1, 1) := by decide +kernel
theorem dJx4a65c_grow_92f84_22 : decode cJx4a65c_grow_92f84 22 = .ok (.iload_n 2, 1) := by decide +kernel
theorem dJx4a65c_grow_92f84_23 : decode cJx4a65c_grow_92f84 23 = .ok (.isub, 1) := by decide +kernel
theorem dJx4a65c_grow_92f84_24 : decode cJx4a65c_grow_92f84 24 = .ok (.iload_n 2, 1) := by decide +kernel
theorem dJx4a65c_grow_92f84_25 : decode cJx4a65c_grow_92f84 25 = .ok (.iconst 1, 1) := by decide +kernel
theorem dJx4a65c_grow_92f84_26 : decode cJx4a65c_grow_92f84 26 = .ok (.ishr, 1) := by decide +kernel
theorem dJx4a65c_grow_92f84_27 : decode cJx4a65c_grow_92f84 27 = .ok (.invokestatic 73, 3) := by decide +kernel
theorem dJx4a65c_grow_92f84_30 : decode cJx4a65c_grow_92f84 30 = .ok (.istore_n 3, 1) := by decide +kernel
theorem dJx4a65c_grow_92f84_31 : decode cJx4a65c_grow_92f84 31 = .ok (.aload_n 0, 1) := by decide +kernel
theorem dJx4a65c_grow_92f84_32 : decode cJx4a65c_grow_92f84 32 = .ok (.aload_n 0, 1) := by decide +kernel
theorem dJx4a65c_grow_92f84_33 : decode cJx4a65c_grow_92f84 33 = .ok (.getfield 9, 3) := by decide +kernel
theorem dJx4a65c_grow_92f84_36 : decode cJx4a65c_grow_92f84 36 = .ok (.iload_n 3, 1) := by decide +kernel
theorem dJx4a65c_grow_92f84_37 : decode cJx4a65c_grow_92f84 37 = .ok (.invokestatic 66, 3) := by decide +kernel
theorem dJx4a65c_grow_92f84_40 : decode cJx4a65c_grow_92f84 40 = .ok (.dup_x1, 1) := by decide +kernel
theorem dJx4a65c_grow_92f84_41 : decode cJx4a65c_grow_92f84 41 = .ok (.putfield 9, 3) := by decide +kernel
theorem dJx4a65c_grow_92f84_44 : decode cJx4a65c_grow_92f84 44 = .ok (.areturn, 1) := by decide +kernel
theorem dJx4a65c_grow_92f84_45 : decode cJx4a65c_grow_92f84 45 = .ok (.aload_n 0, 1) := by decide +kernel
theorem dJx4a65c_grow_92f84_46 : decode cJx4a65c_grow_92f84 46 = .ok (.bipush 10, 2) := by decide +kernel
theorem dJx4a65c_grow_92f84_48 : decode cJx4a65c_grow_92f84 48 = .ok (.iload_n 1, 1) := by decide +kernel
theorem dJx4a65c_grow_92f84_49 : decode cJx4a65c_grow_92f84 49 = .ok (.invokestatic 79, 3) := by decide +kernel
theorem dJx4a65c_grow_92f84_52 : decode cJx4a65c_grow_92f84 52 = .ok (.anewarray 7, 3) := by decide +kernel
theorem dJx4a65c_grow_92f84_55 : decode cJx4a65c_grow_92f84 55 = .ok (.dup_x1, 1) := by decide +kernel
theorem dJx4a65c_grow_92f84_56 : decode cJx4a65c_grow_92f84 56 = .ok (.putfield 9, 3) := by decide +kernel
theorem dJx4a65c_grow_92f84_59 : decode cJx4a65c_grow_92f84 59 = .ok (.areturn, 1) := by decide +kernel
set_option maxRecDepth 20000 in
theorem ggJx4a65c_grow_d5877_Jx4a65c_grow_92f84 : GoodIn wsJx4a65c_grow_d5877 wsJx4a65c_grow_92f84 := goodIn_r _ [6, 7, 8, 9, 10, 11, 12, 13, 14, 15, 16, 17, 18, 19, 20, 21, 22, 23, 24, 25, 26, 27, 28, 29, 30, 31, 32, 33, 34, 35, 36, 37, 38, 39, 40, 41, 42, 43, 44, 45] (by decide +kernel) (by decide +kernel)
set_option maxRecDepth 20000 in
theorem gJx4a65c_grow_d5877_Jx4a65c_grow_92f84 : GoodIn wsJx4a65c_grow_d5877 (wsV RJx4a65c 69 RJx4a65c yJx4a65c_grow_92f84 wsJx4a65c_grow_92f84) := goodIn_app (goodIn_of _ (by decide +kernel)) ggJx4a65c_grow_d5877_Jx4a65c_grow_92f84
theorem dJx4a65c_grow_d5877_0 : decode cJx4a65c_grow_d5877 0 = .ok (.aload_n 0, 1) := by decide +kernel
theorem dJx4a65c_grow_d5877_1 : decode cJx4a65c_grow_d5877 1 = .ok (.aload_n 0, 1) := by decide +kernel
theorem dJx4a65c_grow_d5877_2 : decode cJx4a65c_grow_d5877 2 = .ok (.getfield 48, 3) := by decide +kernel
theorem dJx4a65c_grow_d5877_5 : decode cJx4a65c_grow_d5877 5 = .ok (.iconst 1, 1) := by decide +kernel
theorem dJx4a65c_grow_d5877_6 : decode cJx4a65c_grow_d5877 6 = .ok (.iadd, 1) := by decide +kernel
theorem dJx4a65c_grow_d5877_7 : decode cJx4a65c_grow_d5877 7 = .ok (.invokevirtual 69, 3) := by decide +kernel
theorem dJx4a65c_grow_d5877_10 : decode cJx4a65c_grow_d5877 10 = .ok (.areturn, 1) := by decide +kernel
theorem dJx4a65c_size_8abf5_0 : decode cJx4a65c_size_8abf5 0 = .ok (.aload_n 0, 1) := by decide +kernel
theorem dJx4a65c_size_8abf5_1 : decode cJx4a65c_size_8abf5 1 = .ok (.getfield 48, 3) := by decide +kernel
theorem dJx4a65c_size_8abf5_4 : decode cJx4a65c_size_8abf5 4 = .ok (.ireturn, 1) := by decide +kernel
theorem dJx4a65c_isEmpty_aae02_0 : decode cJx4a65c_isEmpty_aae02 0 = .ok (.aload_n 0, 1) := by decide +kernel
theorem dJx4a65c_isEmpty_aae02_1 : decode cJx4a65c_isEmpty_aae02 1 = .ok (.getfield 48, 3) := by decide +kernel
theorem dJx4a65c_isEmpty_aae02_4 : decode cJx4a65c_isEmpty_aae02 4 = .ok (.ifCond .ne 7, 3) := by decide +kernel
theorem dJx4a65c_isEmpty_aae02_7 : decode cJx4a65c_isEmpty_aae02 7 = .ok (.iconst 1, 1) := by decide +kernel
theorem dJx4a65c_isEmpty_aae02_8 : decode cJx4a65c_isEmpty_aae02 8 = .ok (.goto 4, 3) := by decide +kernel
theorem dJx4a65c_isEmpty_aae02_11 : decode cJx4a65c_isEmpty_aae02 11 = .ok (.iconst 0, 1) := by decide +kernel
theorem dJx4a65c_isEmpty_aae02_12 : decode cJx4a65c_isEmpty_aae02 12 = .ok (.ireturn, 1) := by decide +kernel
set_option maxRecDepth 20000 in
theorem ggJx4a65c_toArray_d5877_J7_copyOf_1904c : GoodIn wsJx4a65c_toArray_d5877 wsJ7_copyOf_1904c := goodIn_r _ [6, 7, 8, 9, 10, 11, 12, 5, 13, 14, 15, 16, 17, 18, 19, 20, 21, 22, 23] (by decide +kernel) (by decide +kernel)
set_option maxRecDepth 20000 in
theorem gJx4a65c_toArray_d5877_J7_copyOf_1904c : GoodIn wsJx4a65c_toArray_d5877 (va_wsS RJx4a65c 66 yJ7_copyOf_1904c wsJ7_copyOf_1904c) := goodIn_app (goodIn_of _ (by decide +kernel)) ggJx4a65c_toArray_d5877_J7_copyOf_1904c
theorem dJx4a65c_toArray_d5877_0 : decode cJx4a65c_toArray_d5877 0 = .ok (.aload_n 0, 1) := by decide +kernel
theorem dJx4a65c_toArray_d5877_1 : decode cJx4a65c_toArray_d5877 1 = .ok (.getfield 9, 3) := by decide +kernel
theorem dJx4a65c_toArray_d5877_4 : decode cJx4a65c_toArray_d5877 4 = .ok (.aload_n 0, 1) := by decide +kernel
theorem dJx4a65c_toArray_d5877_5 : decode cJx4a65c_toArray_d5877 5 = .ok (.getfield 48, 3) := by decide +kernel
theorem dJx4a65c_toArray_d5877_8 : decode cJx4a65c_toArray_d5877 8 = .ok (.invokestatic 66, 3) := by decide +kernel
theorem dJx4a65c_toArray_d5877_11 : decode cJx4a65c_toArray_d5877 11 = .ok (.areturn, 1) := by decide +kernel
theorem dJx4a65c_elementData_915e3_0 : decode cJx4a65c_elementData_915e3 0 = .ok (.aload_n 0, 1) := by decide +kernel
theorem dJx4a65c_elementData_915e3_1 : decode cJx4a65c_elementData_915e3 1 = .ok (.getfield 9, 3) := by decide +kernel
theorem dJx4a65c_elementData_915e3_4 : decode cJx4a65c_elementData_915e3 4 = .ok (.iload_n 1, 1) := by decide +kernel
theorem dJx4a65c_elementData_915e3_5 : decode cJx4a65c_elementData_915e3 5 = .ok (.aaload, 1) := by decide +kernel
theorem dJx4a65c_elementData_915e3_6 : decode cJx4a65c_elementData_915e3 6 = .ok (.areturn, 1) := by decide +kernel
set_option maxRecDepth 20000 in
theorem ggJx4a65c_get_915e3_J15_checkIndex_7cf53 : GoodIn wsJx4a65c_get_915e3 wsJ15_checkIndex_7cf53 := goodIn_r _ [5, 6, 7, 8, 9] (by decide +kernel) (by decide +kernel)
set_option maxRecDepth 20000 in
theorem gJx4a65c_get_915e3_J15_checkIndex_7cf53 : GoodIn wsJx4a65c_get_915e3 (va_wsS RJx4a65c 118 yJ15_checkIndex_7cf53 wsJ15_checkIndex_7cf53) := goodIn_app (goodIn_of _ (by decide +kernel)) ggJx4a65c_get_915e3_J15_checkIndex_7cf53
set_option maxRecDepth 20000 in
theorem ggJx4a65c_get_915e3_Jx4a65c_elementData_915e3 : GoodIn wsJx4a65c_get_915e3 wsJx4a65c_elementData_915e3 := goodIn_r _ [14, 15, 16, 17, 18] (by decide +kernel) (by decide +kernel)
set_option maxRecDepth 20000 in
theorem gJx4a65c_get_915e3_Jx4a65c_elementData_915e3 : GoodIn wsJx4a65c_get_915e3 (wsV RJx4a65c 123 RJx4a65c yJx4a65c_elementData_915e3 wsJx4a65c_elementData_915e3) := goodIn_app (goodIn_of _ (by decide +kernel)) ggJx4a65c_get_915e3_Jx4a65c_elementData_915e3
theorem dJx4a65c_get_915e3_0 : decode cJx4a65c_get_915e3 0 = .ok (.iload_n 1, 1) := by decide +kernel
theorem dJx4a65c_get_915e3_1 : decode cJx4a65c_get_915e3 1 = .ok (.aload_n 0, 1) := by decide +kernel
theorem dJx4a65c_get_915e3_2 : decode cJx4a65c_get_915e3 2 = .ok (.getfield 48, 3) := by decide +kernel
theorem dJx4a65c_get_915e3_5 : decode cJx4a65c_get_915e3 5 = .ok (.invokestatic 118, 3) := by decide +kernel
theorem dJx4a65c_get_915e3_8 : decode cJx4a65c_get_915e3 8 = .ok (.pop, 1) := by decide +kernel
theorem dJx4a65c_get_915e3_9 : decode cJx4a65c_get_915e3 9 = .ok (.aload_n 0, 1) := by decide +kernel
theorem dJx4a65c_get_915e3_10 : decode cJx4a65c_get_915e3 10 = .ok (.iload_n 1, 1) := by decide +kernel
theorem dJx4a65c_get_915e3_11 : decode cJx4a65c_get_915e3 11 = .ok (.invokevirtual 123, 3) := by decide +kernel
theorem dJx4a65c_get_915e3_14 : decode cJx4a65c_get_915e3 14 = .ok (.areturn, 1) := by decide +kernel
set_option maxRecDepth 20000 in
theorem ggJx4a65c_add_72be8_Jx4a65c_grow_d5877 : GoodIn wsJx4a65c_add_72be8 wsJx4a65c_grow_d5877 := goodIn_r _ [6, 1, 7, 8, 9, 5, 10, 11, 12, 13, 14, 15, 16, 17, 18, 19, 20, 21, 22, 23, 24, 25, 26, 27, 28, 29, 30, 31, 32, 33, 34, 35, 36, 37, 38, 39, 40, 41, 42, 43, 44, 45, 46, 47, 48, 49] (by decide +kernel) (by decide +kernel)
set_option maxRecDepth 20000 in
theorem gJx4a65c_add_72be8_Jx4a65c_grow_d5877 : GoodIn wsJx4a65c_add_72be8 (wsV RJx4a65c 129 RJx4a65c yJx4a65c_grow_d5877 wsJx4a65c_grow_d5877) := goodIn_app (goodIn_of _ (by decide +kernel)) ggJx4a65c_add_72be8_Jx4a65c_grow_d5877
theorem dJx4a65c_add_72be8_0 : decode cJx4a65c_add_72be8 0 = .ok (.iload_n 3, 1) := by decide +kernel
theorem dJx4a65c_add_72be8_1 : decode cJx4a65c_add_72be8 1 = .ok (.aload_n 2, 1) := by decide +kernel
theorem dJx4a65c_add_72be8_2 : decode cJx4a65c_add_72be8 2 = .ok (.arraylength, 1) := by decide +kernel
theorem dJx4a65c_add_72be8_3 : decode cJx4a65c_add_72be8 3 = .ok (.if_icmp .ne 8, 3) := by decide +kernel
theorem dJx4a65c_add_72be8_6 : decode cJx4a65c_add_72be8 6 = .ok (.aload_n 0, 1) := by decide +kernel
theorem dJx4a65c_add_72be8_7 : decode cJx4a65c_add_72be8 7 = .ok (.invokevirtual 129, 3) := by decide +kernel
theorem dJx4a65c_add_72be8_10 : decode cJx4a65c_add_72be8 10 = .ok (.astore_n 2, 1) := by decide +kernel
theorem dJx4a65c_add_72be8_11 : decode cJx4a65c_add_72be8 11 = .ok (.aload_n 2, 1) := by decide +kernel
theorem dJx4a65c_add_72be8_12 : decode cJx4a65c_add_72be8 12 = .ok (.iload_n 3, 1) := by decide +kernel
theorem dJx4a65c_add_72be8_13 : decode cJx4a65c_add_72be8 13 = .ok (.aload_n 1, 1) := by decide +kernel
theorem dJx4a65c_add_72be8_14 : decode cJx4a65c_add_72be8 14 = .ok (.aastore, 1) := by decide +kernel
theorem dJx4a65c_add_72be8_15 : decode cJx4a65c_add_72be8 15 = .ok (.aload_n 0, 1) := by decide +kernel
theorem dJx4a65c_add_72be8_16 : decode cJx4a65c_add_72be8 16 = .ok (.iload_n 3, 1) := by decide +kernel
theorem dJx4a65c_add_72be8_17 : decode cJx4a65c_add_72be8 17 = .ok (.iconst 1, 1) := by decide +kernel
theorem dJx4a65c_add_72be8_18 : decode cJx4a65c_add_72be8 18 = .ok (.iadd, 1) := by decide +kernel
theorem dJx4a65c_add_72be8_19 : decode cJx4a65c_add_72be8 19 = .ok (.putfield 48, 3) := by decide +kernel
theorem dJx4a65c_add_72be8_22 : decode cJx4a65c_add_72be8 22 = .ok (.return_, 1) := by decide +kernel
set_option maxRecDepth 20000 in
theorem ggJx4a65c_add_9ea2d_Jx4a65c_add_72be8 : GoodIn wsJx4a65c_add_9ea2d wsJx4a65c_add_72be8 := goodIn_r _ [9, 4, 10, 11, 12, 8, 13, 14, 15, 16, 17, 3, 18, 19, 20, 21, 22, 23, 24, 25, 26, 27, 28, 29, 30, 31, 32, 33, 34, 35, 36, 37, 38, 39, 40, 41, 42, 43, 44, 45, 46, 47, 48, 49, 50, 51, 52, 53, 54, 55] (by decide +kernel) (by decide +kernel)
set_option maxRecDepth 20000 in
theorem gJx4a65c_add_9ea2d_Jx4a65c_add_72be8 : GoodIn wsJx4a65c_add_9ea2d (wsV RJx4a65c 131 RJx4a65c yJx4a65c_add_72be8 wsJx4a65c_add_72be8) := goodIn_app (goodIn_of _ (by decide +kernel)) ggJx4a65c_add_9ea2d_Jx4a65c_add_72be8
theorem dJx4a65c_add_9ea2d_0 : decode cJx4a65c_add_9ea2d 0 = .ok (.aload_n 0, 1) := by decide +kernel
theorem dJx4a65c_add_9ea2d_1 : decode cJx4a65c_add_9ea2d 1 = .ok (.dup, 1) := by decide +kernel
theorem dJx4a65c_add_9ea2d_2 : decode cJx4a65c_add_9ea2d 2 = .ok (.getfield 63, 3) := by decide +kernel
theorem dJx4a65c_add_9ea2d_5 : decode cJx4a65c_add_9ea2d 5 = .ok (.iconst 1, 1) := by decide +kernel
theorem dJx4a65c_add_9ea2d_6 : decode cJx4a65c_add_9ea2d 6 = .ok (.iadd, 1) := by decide +kernel
theorem dJx4a65c_add_9ea2d_7 : decode cJx4a65c_add_9ea2d 7 = .ok (.putfield 63, 3) := by decide +kernel
theorem dJx4a65c_add_9ea2d_10 : decode cJx4a65c_add_9ea2d 10 = .ok (.aload_n 0, 1) := by decide +kernel
theorem dJx4a65c_add_9ea2d_11 : decode cJx4a65c_add_9ea2d 11 = .ok (.aload_n 1, 1) := by decide +kernel
theorem dJx4a65c_add_9ea2d_12 : decode cJx4a65c_add_9ea2d 12 = .ok (.aload_n 0, 1) := by decide +kernel
theorem dJx4a65c_add_9ea2d_13 : decode cJx4a65c_add_9ea2d 13 = .ok (.getfield 9, 3) := by decide +kernel
theorem dJx4a65c_add_9ea2d_16 : decode cJx4a65c_add_9ea2d 16 = .ok (.aload_n 0, 1) := by decide +kernel
theorem dJx4a65c_add_9ea2d_17 : decode cJx4a65c_add_9ea2d 17 = .ok (.getfield 48, 3) := by decide +kernel
theorem dJx4a65c_add_9ea2d_20 : decode cJx4a65c_add_9ea2d 20 = .ok (.invokevirtual 131, 3) := by decide +kernel
theorem dJx4a65c_add_9ea2d_23 : decode cJx4a65c_add_9ea2d 23 = .ok (.iconst 1, 1) := by decide +kernel
theorem dJx4a65c_add_9ea2d_24 : decode cJx4a65c_add_9ea2d 24 = .ok (.ireturn, 1) := by decide +kernel
set_option maxRecDepth 20000 in
theorem ggJx4a65c_remove_915e3_J15_checkIndex_7cf53 : GoodIn wsJx4a65c_remove_915e3 wsJ15_checkIndex_7cf53 := goodIn_r _ [6, 7, 8, 9, 10] (by decide +kernel) (by decide +kernel)
set_option maxRecDepth 20000 in
theorem gJx4a65c_remove_915e3_J15_checkIndex_7cf53 : GoodIn wsJx4a65c_remove_915e3 (va_wsS RJx4a65c 118 yJ15_checkIndex_7cf53 wsJ15_checkIndex_7cf53) := goodIn_app (goodIn_of _ (by decide +kernel)) ggJx4a65c_remove_915e3_J15_checkIndex_7cf53
set_option maxRecDepth 20000 in
theorem ggJx4a65c_remove_915e3_Jx4a65c_fastRemove_b59b0 : GoodIn wsJx4a65c_remove_915e3 wsJx4a65c_fastRemove_b59b0 := goodIn_r _ [15, 16, 17, 1, 18, 19, 20, 21, 22, 23, 24] (by decide +kernel) (by decide +kernel)
set_option maxRecDepth 20000 in
theorem gJx4a65c_remove_915e3_Jx4a65c_fastRemove_b59b0 : GoodIn wsJx4a65c_remove_915e3 (wsV RJx4a65c 144 RJx4a65c yJx4a65c_fastRemove_b59b0 wsJx4a65c_fastRemove_b59b0) := goodIn_app (goodIn_of _ (by decide +kernel)) ggJx4a65c_remove_915e3_Jx4a65c_fastRemove_b59b0
theorem dJx4a65c_remove_915e3_0 : decode cJx4a65c_remove_915e3 0 = .ok (.iload_n 1, 1) := by decide +kernel
theorem dJx4a65c_remove_915e3_1 : decode cJx4a65c_remove_915e3 1 = .ok (.aload_n 0, 1) := by decide +kernel
theorem dJx4a65c_remove_915e3_2 : decode cJx4a65c_remove_915e3 2 = .ok (.getfield 48, 3) := by decide +kernel
theorem dJx4a65c_remove_915e3_5 : decode cJx4a65c_remove_915e3 5 = .ok (.invokestatic 118, 3) := by decide +kernel
theorem dJx4a65c_remove_915e3_8 : decode cJx4a65c_remove_915e3 8 = .ok (.pop, 1) := by decide +kernel
theorem dJx4a65c_remove_915e3_9 : decode cJx4a65c_remove_915e3 9 = .ok (.aload_n 0, 1) := by decide +kernel
theorem dJx4a65c_remove_915e3_10 : decode cJx4a65c_remove_915e3 10 = .ok (.getfield 9, 3) := by decide +kernel
theorem dJx4a65c_remove_915e3_13 : decode cJx4a65c_remove_915e3 13 = .ok (.astore_n 2, 1) := by decide +kernel
theorem dJx4a65c_remove_915e3_14 : decode cJx4a65c_remove_915e3 14 = .ok (.aload_n 2, 1) := by decide +kernel
theorem dJx4a65c_remove_915e3_15 : decode cJx4a65c_remove_915e3 15 = .ok (.iload_n 1, 1) := by decide +kernel
theorem dJx4a65c_remove_915e3_16 : decode cJx4a65c_remove_915e3 16 = .ok (.aaload, 1) := by decide +kernel
theorem dJx4a65c_remove_915e3_17 : decode cJx4a65c_remove_915e3 17 = .ok (.astore_n 3, 1) := by decide +kernel
theorem dJx4a65c_remove_915e3_18 : decode cJx4a65c_remove_915e3 18 = .ok (.aload_n 0, 1) := by decide +kernel
theorem dJx4a65c_remove_915e3_19 : decode cJx4a65c_remove_915e3 19 = .ok (.aload_n 2, 1) := by decide +kernel
theorem dJx4a65c_remove_915e3_20 : decode cJx4a65c_remove_915e3 20 = .ok (.iload_n 1, 1) := by decide +kernel
theorem dJx4a65c_remove_915e3_21 : decode cJx4a65c_remove_915e3 21 = .ok (.invokevirtual 144, 3) := by decide +kernel
theorem dJx4a65c_remove_915e3_24 : decode cJx4a65c_remove_915e3 24 = .ok (.aload_n 3, 1) := by decide +kernel
theorem dJx4a65c_remove_915e3_25 : decode cJx4a65c_remove_915e3 25 = .ok (.areturn, 1) := by decide +kernel
theorem dJx4a65c_fastRemove_b59b0_0 : decode cJx4a65c_fastRemove_b59b0 0 = .ok (.aload_n 0, 1) := by decide +kernel
theorem dJx4a65c_fastRemove_b59b0_1 : decode cJx4a65c_fastRemove_b59b0 1 = .ok (.dup, 1) := by decide +kernel
theorem dJx4a65c_fastRemove_b59b0_2 : decode cJx4a65c_fastRemove_b59b0 2 = .ok (.getfield 63, 3) := by decide +kernel
theorem dJx4a65c_fastRemove_b59b0_5 : decode cJx4a65c_fastRemove_b59b0 5 = .ok (.iconst 1, 1) := by decide +kernel
theorem dJx4a65c_fastRemove_b59b0_6 : decode cJx4a65c_fastRemove_b59b0 6 = .ok (.iadd, 1) := by decide +kernel
theorem dJx4a65c_fastRemove_b59b0_7 : decode cJx4a65c_fastRemove_b59b0 7 = .ok (.putfield 63, 3) := by decide +kernel
theorem dJx4a65c_fastRemove_b59b0_10 : decode cJx4a65c_fastRemove_b59b0 10 = .ok (.aload_n 0, 1) := by decide +kernel
theorem dJx4a65c_fastRemove_b59b0_11 : decode cJx4a65c_fastRemove_b59b0 11 = .ok (.getfield 48, 3) := by decide +kernel
theorem dJx4a65c_fastRemove_b59b0_14 : decode cJx4a65c_fastRemove_b59b0 14 = .ok (.iconst 1, 1) := by decide +kernel
theorem dJx4a65c_fastRemove_b59b0_15 : decode cJx4a65c_fastRemove_b59b0 15 = .ok (.isub, 1) := by decide +kernel
theorem dJx4a65c_fastRemove_b59b0_16 : decode cJx4a65c_fastRemove_b59b0 16 = .ok (.dup, 1) := by decide +kernel
theorem dJx4a65c_fastRemove_b59b0_17 : decode cJx4a65c_fastRemove_b59b0 17 = .ok (.istore_n 3, 1) := by decide +kernel
theorem dJx4a65c_fastRemove_b59b0_18 : decode cJx4a65c_fastRemove_b59b0 18 = .ok (.iload_n 2, 1) := by decide +kernel
theorem dJx4a65c_fastRemove_b59b0_19 : decode cJx4a65c_fastRemove_b59b0 19 = .ok (.if_icmp .le 15, 3) := by decide +kernel
theorem dJx4a65c_fastRemove_b59b0_22 : decode cJx4a65c_fastRemove_b59b0 22 = .ok (.aload_n 1, 1) := by decide +kernel
theorem dJx4a65c_fastRemove_b59b0_23 : decode cJx4a65c_fastRemove_b59b0 23 = .ok (.iload_n 2, 1) := by decide +kernel
theorem dJx4a65c_fastRemove_b59b0_24 : decode cJx4a65c_fastRemove_b59b0 24 = .ok (.iconst 1, 1) := by decide +kernel
theorem dJx4a65c_fastRemove_b59b0_25 : decode cJx4a65c_fastRemove_b59b0 25 = .ok (.iadd, 1) := by decide +kernel
theorem dJx4a65c_fastRemove_b59b0_26 : decode cJx4a65c_fastRemove_b59b0 26 = .ok (.aload_n 1, 1) := by decide +kernel
theorem dJx4a65c_fastRemove_b59b0_27 : decode cJx4a65c_fastRemove_b59b0 27 = .ok (.iload_n 2, 1) := by decide +kernel
theorem dJx4a65c_fastRemove_b59b0_28 : decode cJx4a65c_fastRemove_b59b0 28 = .ok (.iload_n 3, 1) := by decide +kernel
theorem dJx4a65c_fastRemove_b59b0_29 : decode cJx4a65c_fastRemove_b59b0 29 = .ok (.iload_n 2, 1) := by decide +kernel
theorem dJx4a65c_fastRemove_b59b0_30 : decode cJx4a65c_fastRemove_b59b0 30 = .ok (.isub, 1) := by decide +kernel
theorem dJx4a65c_fastRemove_b59b0_31 : decode cJx4a65c_fastRemove_b59b0 31 = .ok (.invokestatic 112, 3) := by decide +kernel
theorem dJx4a65c_fastRemove_b59b0_34 : decode cJx4a65c_fastRemove_b59b0 34 = .ok (.aload_n 1, 1) := by decide +kernel
theorem dJx4a65c_fastRemove_b59b0_35 : decode cJx4a65c_fastRemove_b59b0 35 = .ok (.aload_n 0, 1) := by decide +kernel
theorem dJx4a65c_fastRemove_b59b0_36 : decode cJx4a65c_fastRemove_b59b0 36 = .ok (.iload_n 3, 1) := by decide +kernel
theorem dJx4a65c_fastRemove_b59b0_37 : decode cJx4a65c_fastRemove_b59b0 37 = .ok (.dup_x1, 1) := by decide +kernel
theorem dJx4a65c_fastRemove_b59b0_38 : decode cJx4a65c_fastRemove_b59b0 38 = .ok (.putfield 48, 3) := by decide +kernel
theorem dJx4a65c_fastRemove_b59b0_41 : decode cJx4a65c_fastRemove_b59b0 41 = .ok (.aconst_null, 1) := by decide +kernel
theorem dJx4a65c_fastRemove_b59b0_42 : decode cJx4a65c_fastRemove_b59b0 42 = .ok (.aastore, 1) := by decide +kernel
theorem dJx4a65c_fastRemove_b59b0_43 : decode cJx4a65c_fastRemove_b59b0 43 = .ok (.return_, 1) := by decide +kernel
theorem dJx4a65c_clear_da8c8_0 : decode cJx4a65c_clear_da8c8 0 = .ok (.aload_n 0, 1) := by decide +kernel
theorem dJx4a65c_clear_da8c8_1 : decode cJx4a65c_clear_da8c8 1 = .ok (.dup, 1) := by decide +kernel
theorem dJx4a65c_clear_da8c8_2 : decode cJx4a65c_clear_da8c8 2 = .ok (.getfield 63, 3) := by decide +kernel
theorem dJx4a65c_clear_da8c8_5 : decode cJx4a65c_clear_da8c8 5 = .ok (.iconst 1, 1) := by decide +kernel
theorem dJx4a65c_clear_da8c8_6 : decode cJx4a65c_clear_da8c8 6 = .ok (.iadd, 1) := by decide +kernel
theorem dJx4a65c_clear_da8c8_7 : decode cJx4a65c_clear_da8c8 7 = .ok (.putfield 63, 3) := by decide +kernel
theorem dJx4a65c_clear_da8c8_10 : decode cJx4a65c_clear_da8c8 10 = .ok (.aload_n 0, 1) := by decide +kernel
theorem dJx4a65c_clear_da8c8_11 : decode cJx4a65c_clear_da8c8 11 = .ok (.getfield 9, 3) := by decide +kernel
theorem dJx4a65c_clear_da8c8_14 : decode cJx4a65c_clear_da8c8 14 = .ok (.astore_n 1, 1) := by decide +kernel
theorem dJx4a65c_clear_da8c8_15 : decode cJx4a65c_clear_da8c8 15 = .ok (.aload_n 0, 1) := by decide +kernel
theorem dJx4a65c_clear_da8c8_16 : decode cJx4a65c_clear_da8c8 16 = .ok (.getfield 48, 3) := by decide +kernel
theorem dJx4a65c_clear_da8c8_19 : decode cJx4a65c_clear_da8c8 19 = .ok (.istore_n 2, 1) := by decide +kernel
theorem dJx4a65c_clear_da8c8_20 : decode cJx4a65c_clear_da8c8 20 = .ok (.aload_n 0, 1) := by decide +kernel
theorem dJx4a65c_clear_da8c8_21 : decode cJx4a65c_clear_da8c8 21 = .ok (.iconst 0, 1) := by decide +kernel
theorem dJx4a65c_clear_da8c8_22 : decode cJx4a65c_clear_da8c8 22 = .ok (.dup_x1, 1) := by decide +kernel
theorem dJx4a65c_clear_da8c8_23 : decode cJx4a65c_clear_da8c8 23 = .ok (.putfield 48, 3) := by decide +kernel
theorem dJx4a65c_clear_da8c8_26 : decode cJx4a65c_clear_da8c8 26 = .ok (.istore_n 3, 1) := by decide +kernel
theorem dJx4a65c_clear_da8c8_27 : decode cJx4a65c_clear_da8c8 27 = .ok (.iload_n 3, 1) := by decide +kernel
theorem dJx4a65c_clear_da8c8_28 : decode cJx4a65c_clear_da8c8 28 = .ok (.iload_n 2, 1) := by decide +kernel
theorem dJx4a65c_clear_da8c8_29 : decode cJx4a65c_clear_da8c8 29 = .ok (.if_icmp .ge 13, 3) := by decide +kernel
theorem dJx4a65c_clear_da8c8_32 : decode cJx4a65c_clear_da8c8 32 = .ok (.aload_n 1, 1) := by decide +kernel
theorem dJx4a65c_clear_da8c8_33 : decode cJx4a65c_clear_da8c8 33 = .ok (.iload_n 3, 1) := by decide +kernel
theorem dJx4a65c_clear_da8c8_34 : decode cJx4a65c_clear_da8c8 34 = .ok (.aconst_null, 1) := by decide +kernel
theorem dJx4a65c_clear_da8c8_35 : decode cJx4a65c_clear_da8c8 35 = .ok (.aastore, 1) := by decide +kernel
theorem dJx4a65c_clear_da8c8_36 : decode cJx4a65c_clear_da8c8 36 = .ok (.iinc 3 1, 3) := by decide +kernel
theorem dJx4a65c_clear_da8c8_39 : decode cJx4a65c_clear_da8c8 39 = .ok (.goto (-12), 3) := by decide +kernel
theorem dJx4a65c_clear_da8c8_42 : decode cJx4a65c_clear_da8c8 42 = .ok (.return_, 1) := by decide +kernel
set_option maxRecDepth 20000 in
theorem ggJx4a65c_addAll_f0b43_Jx4a65c_toArray_d5877 : GoodIn wsJx4a65c_addAll_f0b43 wsJx4a65c_toArray_d5877 := goodIn_r _ [13, 3, 4, 14, 15, 16, 17, 18, 19, 20, 21, 22, 23, 24, 25, 26, 27, 28, 29, 30, 31, 6, 7, 8, 50, 51, 52] (by decide +kernel) (by decide +kernel)
set_option maxRecDepth 20000 in
theorem gJx4a65c_addAll_f0b43_Jx4a65c_toArray_d5877_f42Jx4a65c : GoodIn wsJx4a65c_addAll_f0b43 (va_wsF RJx4a65c 42 RJx4a65c ⟨"java/util/Collection", "toArray", "()[Ljava/lang/Object;"⟩ yJx4a65c_toArray_d5877 wsJx4a65c_toArray_d5877) := goodIn_app (goodIn_of _ (by decide +kernel)) ggJx4a65c_addAll_f0b43_Jx4a65c_toArray_d5877
set_option maxRecDepth 20000 in
theorem ggJx4a65c_addAll_f0b43_Jx4a65c_grow_92f84 : GoodIn wsJx4a65c_addAll_f0b43 wsJx4a65c_grow_92f84 := goodIn_r _ [35, 3, 36, 37, 38, 29, 39, 40, 41, 42, 43, 44, 45, 46, 47, 48, 49, 14, 15, 16, 17, 18, 19, 20, 21, 22, 23, 24, 25, 26, 27, 28, 30, 31, 6, 7, 8, 50, 51, 52] (by decide +kernel) (by decide +kernel)
set_option maxRecDepth 20000 in
theorem gJx4a65c_addAll_f0b43_Jx4a65c_grow_92f84 : GoodIn wsJx4a65c_addAll_f0b43 (wsV RJx4a65c 69 RJx4a65c yJx4a65c_grow_92f84 wsJx4a65c_grow_92f84) := goodIn_app (goodIn_of _ (by decide +kernel)) ggJx4a65c_addAll_f0b43_Jx4a65c_grow_92f84
theorem dJx4a65c_addAll_f0b43_0 : decode cJx4a65c_addAll_f0b43 0 = .ok (.aload_n 1, 1) := by decide +kernel
theorem dJx4a65c_addAll_f0b43_1 : decode cJx4a65c_addAll_f0b43 1 = .ok (.invokeinterface 42 1, 5) := by decide +kernel
theorem dJx4a65c_addAll_f0b43_6 : decode cJx4a65c_addAll_f0b43 6 = .ok (.astore_n 2, 1) := by decide +kernel
theorem dJx4a65c_addAll_f0b43_7 : decode cJx4a65c_addAll_f0b43 7 = .ok (.aload_n 0, 1) := by decide +kernel
theorem dJx4a65c_addAll_f0b43_8 : decode cJx4a65c_addAll_f0b43 8 = .ok (.dup, 1) := by decide +kernel
theorem dJx4a65c_addAll_f0b43_9 : decode cJx4a65c_addAll_f0b43 9 = .ok (.getfield 63, 3) := by decide +kernel
theorem dJx4a65c_addAll_f0b43_12 : decode cJx4a65c_addAll_f0b43 12 = .ok (.iconst 1, 1) := by decide +kernel
theorem dJx4a65c_addAll_f0b43_13 : decode cJx4a65c_addAll_f0b43 13 = .ok (.iadd, 1) := by decide +kernel
theorem dJx4a65c_addAll_f0b43_14 : decode cJx4a65c_addAll_f0b43 14 = .ok (.putfield 63, 3) := by decide +kernel
theorem dJx4a65c_addAll_f0b43_17 : decode cJx4a65c_addAll_f0b43 17 = .ok (.aload_n 2, 1) := by decide +kernel
theorem dJx4a65c_addAll_f0b43_18 : decode cJx4a65c_addAll_f0b43 18 = .ok (.arraylength, 1) := by decide +kernel
theorem dJx4a65c_addAll_f0b43_19 : decode cJx4a65c_addAll_f0b43 19 = .ok (.istore_n 3, 1) := by decide +kernel
theorem dJx4a65c_addAll_f0b43_20 : decode cJx4a65c_addAll_f0b43 20 = .ok (.iload_n 3, 1) := by decide +kernel
theorem dJx4a65c_addAll_f0b43_21 : decode cJx4a65c_addAll_f0b43 21 = .ok (.ifCond .ne 5, 3) := by decide +kernel
theorem dJx4a65c_addAll_f0b43_24 : decode cJx4a65c_addAll_f0b43 24 = .ok (.iconst 0, 1) := by decide +kernel
theorem dJx4a65c_addAll_f0b43_25 : decode cJx4a65c_addAll_f0b43 25 = .ok (.ireturn, 1) := by decide +kernel
theorem dJx4a65c_addAll_f0b43_26 : decode cJx4a65c_addAll_f0b43 26 = .ok (.iload_n 3, 1) := by decide +kernel
theorem dJx4a65c_addAll_f0b43_27 : decode cJx4a65c_addAll_f0b43 27 = .ok (.aload_n 0, 1) := by decide +kernel
theorem dJx4a65c_addAll_f0b43_28 : decode cJx4a65c_addAll_f0b43 28 = .ok (.getfield 9, 3) := by decide +kernel
theorem dJx4a65c_addAll_f0b43_31 : decode cJx4a65c_addAll_f0b43 31 = .ok (.dup, 1) := by decide +kernel
theorem dJx4a65c_addAll_f0b43_32 : decode cJx4a65c_addAll_f0b43 32 = .ok (.astore 4, 2) := by decide +kernel
theorem dJx4a65c_addAll_f0b43_34 : decode cJx4a65c_addAll_f0b43 34 = .ok (.arraylength, 1) := by decide +kernel
