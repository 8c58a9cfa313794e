section MM39
theorem dX14_open_0 : decode cX14_open 0 = .ok (.iload 4, 2) := by decide +kernel
theorem dX14_open_2 : decode cX14_open 2 = .ok (.iconst 1, 1) := by decide +kernel
theorem dX14_open_3 : decode cX14_open 3 = .ok (.if_icmp .eq 22, 3) := by decide +kernel
theorem dX14_open_6 : decode cX14_open 6 = .ok (.iload 4, 2) := by decide +kernel
theorem dX14_open_8 : decode cX14_open 8 = .ok (.iconst 2, 1) := by decide +kernel
theorem dX14_open_9 : decode cX14_open 9 = .ok (.if_icmp .eq 16, 3) := by decide +kernel
theorem dX14_open_12 : decode cX14_open 12 = .ok (.iload 4, 2) := by decide +kernel
theorem dX14_open_14 : decode cX14_open 14 = .ok (.iconst 4, 1) := by decide +kernel
theorem dX14_open_15 : decode cX14_open 15 = .ok (.if_icmp .eq 10, 3) := by decide +kernel
theorem dX14_open_18 : decode cX14_open 18 = .ok (.iload 4, 2) := by decide +kernel
theorem dX14_open_20 : decode cX14_open 20 = .ok (.bipush 8, 2) := by decide +kernel
theorem dX14_open_22 : decode cX14_open 22 = .ok (.if_icmp .ne 7, 3) := by decide +kernel
theorem dX14_open_25 : decode cX14_open 25 = .ok (.iconst 1, 1) := by decide +kernel
theorem dX14_open_26 : decode cX14_open 26 = .ok (.goto 4, 3) := by decide +kernel
theorem dX14_open_29 : decode cX14_open 29 = .ok (.iconst 0, 1) := by decide +kernel
theorem dX14_open_30 : decode cX14_open 30 = .ok (.istore 5, 2) := by decide +kernel
theorem dX14_open_32 : decode cX14_open 32 = .ok (.iload_n 3, 1) := by decide +kernel
theorem dX14_open_33 : decode cX14_open 33 = .ok (.bipush 98, 2) := by decide +kernel
theorem dX14_open_35 : decode cX14_open 35 = .ok (.if_icmp .eq 20, 3) := by decide +kernel
theorem dX14_open_38 : decode cX14_open 38 = .ok (.iload_n 3, 1) := by decide +kernel
theorem dX14_open_39 : decode cX14_open 39 = .ok (.bipush 105, 2) := by decide +kernel
theorem dX14_open_41 : decode cX14_open 41 = .ok (.if_icmp .eq 9, 3) := by decide +kernel
theorem dX14_open_44 : decode cX14_open 44 = .ok (.iload_n 3, 1) := by decide +kernel
theorem dX14_open_45 : decode cX14_open 45 = .ok (.bipush 115, 2) := by decide +kernel
theorem dX14_open_47 : decode cX14_open 47 = .ok (.if_icmp .ne 12, 3) := by decide +kernel
theorem dX14_open_50 : decode cX14_open 50 = .ok (.iload 5, 2) := by decide +kernel
theorem dX14_open_52 : decode cX14_open 52 = .ok (.ifCond .eq 7, 3) := by decide +kernel
theorem dX14_open_55 : decode cX14_open 55 = .ok (.iconst 1, 1) := by decide +kernel
theorem dX14_open_56 : decode cX14_open 56 = .ok (.goto 4, 3) := by decide +kernel
theorem dX14_open_59 : decode cX14_open 59 = .ok (.iconst 0, 1) := by decide +kernel
theorem dX14_open_60 : decode cX14_open 60 = .ok (.istore 6, 2) := by decide +kernel
theorem dX14_open_62 : decode cX14_open 62 = .ok (.aload_n 0, 1) := by decide +kernel
theorem dX14_open_63 : decode cX14_open 63 = .ok (.aload_n 0, 1) := by decide +kernel
theorem dX14_open_64 : decode cX14_open 64 = .ok (.iload_n 1, 1) := by decide +kernel
theorem dX14_open_65 : decode cX14_open 65 = .ok (.iload_n 2, 1) := by decide +kernel
theorem dX14_open_66 : decode cX14_open 66 = .ok (.invokevirtual 256, 3) := by decide +kernel
theorem dX14_open_69 : decode cX14_open 69 = .ok (.ifCond .ne 7, 3) := by decide +kernel
theorem dX14_open_72 : decode cX14_open 72 = .ok (.iconst 1, 1) := by decide +kernel
theorem dX14_open_73 : decode cX14_open 73 = .ok (.goto 36, 3) := by decide +kernel
theorem dX14_open_76 : decode cX14_open 76 = .ok (.iload 6, 2) := by decide +kernel
theorem dX14_open_78 : decode cX14_open 78 = .ok (.ifCond .ne 7, 3) := by decide +kernel
theorem dX14_open_81 : decode cX14_open 81 = .ok (.iconst 2, 1) := by decide +kernel
theorem dX14_open_82 : decode cX14_open 82 = .ok (.goto 27, 3) := by decide +kernel
theorem dX14_open_85 : decode cX14_open 85 = .ok (.aload_n 0, 1) := by decide +kernel
theorem dX14_open_86 : decode cX14_open 86 = .ok (.getfield 10, 3) := by decide +kernel
theorem dX14_open_89 : decode cX14_open 89 = .ok (.iload_n 1, 1) := by decide +kernel
theorem dX14_open_90 : decode cX14_open 90 = .ok (.invokevirtual 76, 3) := by decide +kernel
theorem dX14_open_93 : decode cX14_open 93 = .ok (.checkcast 48, 3) := by decide +kernel
theorem dX14_open_96 : decode cX14_open 96 = .ok (.getfield 53, 3) := by decide +kernel
theorem dX14_open_99 : decode cX14_open 99 = .ok (.bipush 99, 2) := by decide +kernel
theorem dX14_open_101 : decode cX14_open 101 = .ok (.if_icmp .eq 7, 3) := by decide +kernel
theorem dX14_open_104 : decode cX14_open 104 = .ok (.iconst 3, 1) := by decide +kernel
theorem dX14_open_105 : decode cX14_open 105 = .ok (.goto 4, 3) := by decide +kernel
theorem dX14_open_108 : decode cX14_open 108 = .ok (.iconst 0, 1) := by decide +kernel
theorem dX14_open_109 : decode cX14_open 109 = .ok (.putfield 61, 3) := by decide +kernel
theorem dX14_open_112 : decode cX14_open 112 = .ok (.iconst (-1), 1) := by decide +kernel
theorem dX14_open_113 : decode cX14_open 113 = .ok (.istore 7, 2) := by decide +kernel
theorem dX14_open_115 : decode cX14_open 115 = .ok (.bipush 11, 2) := by decide +kernel
theorem dX14_open_117 : decode cX14_open 117 = .ok (.istore 8, 2) := by decide +kernel
theorem dX14_open_119 : decode cX14_open 119 = .ok (.iload 8, 2) := by decide +kernel
theorem dX14_open_121 : decode cX14_open 121 = .ok (.ifCond .lt 82, 3) := by decide +kernel
theorem dX14_open_124 : decode cX14_open 124 = .ok (.aload_n 0, 1) := by decide +kernel
theorem dX14_open_125 : decode cX14_open 125 = .ok (.getfield 61, 3) := by decide +kernel
theorem dX14_open_128 : decode cX14_open 128 = .ok (.ifCond .ne 75, 3) := by decide +kernel
theorem dX14_open_131 : decode cX14_open 131 = .ok (.aload_n 0, 1) := by decide +kernel
theorem dX14_open_132 : decode cX14_open 132 = .ok (.getfield 18, 3) := by decide +kernel
theorem dX14_open_135 : decode cX14_open 135 = .ok (.iload 8, 2) := by decide +kernel
theorem dX14_open_137 : decode cX14_open 137 = .ok (.aaload, 1) := by decide +kernel
theorem dX14_open_138 : decode cX14_open 138 = .ok (.ifnonnull 8, 3) := by decide +kernel
theorem dX14_open_141 : decode cX14_open 141 = .ok (.iload 8, 2) := by decide +kernel
theorem dX14_open_143 : decode cX14_open 143 = .ok (.goto 5, 3) := by decide +kernel
theorem dX14_open_146 : decode cX14_open 146 = .ok (.iload 7, 2) := by decide +kernel
theorem dX14_open_148 : decode cX14_open 148 = .ok (.istore 7, 2) := by decide +kernel
theorem dX14_open_150 : decode cX14_open 150 = .ok (.aload_n 0, 1) := by decide +kernel
theorem dX14_open_151 : decode cX14_open 151 = .ok (.aload_n 0, 1) := by decide +kernel
theorem dX14_open_152 : decode cX14_open 152 = .ok (.getfield 18, 3) := by decide +kernel
theorem dX14_open_155 : decode cX14_open 155 = .ok (.iload 8, 2) := by decide +kernel
theorem dX14_open_157 : decode cX14_open 157 = .ok (.aaload, 1) := by decide +kernel
theorem dX14_open_158 : decode cX14_open 158 = .ok (.ifnull 35, 3) := by decide +kernel
theorem dX14_open_161 : decode cX14_open 161 = .ok (.aload_n 0, 1) := by decide +kernel
theorem dX14_open_162 : decode cX14_open 162 = .ok (.getfield 18, 3) := by decide +kernel
theorem dX14_open_165 : decode cX14_open 165 = .ok (.iload 8, 2) := by decide +kernel
theorem dX14_open_167 : decode cX14_open 167 = .ok (.aaload, 1) := by decide +kernel
theorem dX14_open_168 : decode cX14_open 168 = .ok (.getfield 133, 3) := by decide +kernel
theorem dX14_open_171 : decode cX14_open 171 = .ok (.iload_n 1, 1) := by decide +kernel
theorem dX14_open_172 : decode cX14_open 172 = .ok (.if_icmp .ne 21, 3) := by decide +kernel
theorem dX14_open_175 : decode cX14_open 175 = .ok (.aload_n 0, 1) := by decide +kernel
theorem dX14_open_176 : decode cX14_open 176 = .ok (.getfield 18, 3) := by decide +kernel
theorem dX14_open_179 : decode cX14_open 179 = .ok (.iload 8, 2) := by decide +kernel
theorem dX14_open_181 : decode cX14_open 181 = .ok (.aaload, 1) := by decide +kernel
theorem dX14_open_182 : decode cX14_open 182 = .ok (.getfield 235, 3) := by decide +kernel
theorem dX14_open_185 : decode cX14_open 185 = .ok (.iload_n 2, 1) := by decide +kernel
theorem dX14_open_186 : decode cX14_open 186 = .ok (.if_icmp .ne 7, 3) := by decide +kernel
theorem dX14_open_189 : decode cX14_open 189 = .ok (.iconst 3, 1) := by decide +kernel
theorem dX14_open_190 : decode cX14_open 190 = .ok (.goto 4, 3) := by decide +kernel
theorem dX14_open_193 : decode cX14_open 193 = .ok (.iconst 0, 1) := by decide +kernel
theorem dX14_open_194 : decode cX14_open 194 = .ok (.putfield 61, 3) := by decide +kernel
theorem dX14_open_197 : decode cX14_open 197 = .ok (.iinc 8 (-1), 3) := by decide +kernel
theorem dX14_open_200 : decode cX14_open 200 = .ok (.goto (-81), 3) := by decide +kernel
theorem dX14_open_203 : decode cX14_open 203 = .ok (.aload_n 0, 1) := by decide +kernel
theorem dX14_open_204 : decode cX14_open 204 = .ok (.getfield 61, 3) := by decide +kernel
theorem dX14_open_207 : decode cX14_open 207 = .ok (.ifCond .le 5, 3) := by decide +kernel
theorem dX14_open_210 : decode cX14_open 210 = .ok (.iconst 0, 1) := by decide +kernel
theorem dX14_open_211 : decode cX14_open 211 = .ok (.ireturn, 1) := by decide +kernel
theorem dX14_open_212 : decode cX14_open 212 = .ok (.new 16, 3) := by decide +kernel
theorem dX14_open_215 : decode cX14_open 215 = .ok (.dup, 1) := by decide +kernel
theorem dX14_open_216 : decode cX14_open 216 = .ok (.iload_n 1, 1) := by decide +kernel
theorem dX14_open_217 : decode cX14_open 217 = .ok (.iload_n 2, 1) := by decide +kernel
theorem dX14_open_218 : decode cX14_open 218 = .ok (.iload_n 3, 1) := by decide +kernel
theorem dX14_open_219 : decode cX14_open 219 = .ok (.iload 4, 2) := by decide +kernel
theorem dX14_open_221 : decode cX14_open 221 = .ok (.invokespecial 259, 3) := by decide +kernel
theorem dX14_open_224 : decode cX14_open 224 = .ok (.astore 8, 2) := by decide +kernel
theorem dX14_open_226 : decode cX14_open 226 = .ok (.aload 8, 2) := by decide +kernel
theorem dX14_open_228 : decode cX14_open 228 = .ok (.aload 8, 2) := by decide +kernel
theorem dX14_open_230 : decode cX14_open 230 = .ok (.invokevirtual 226, 3) := by decide +kernel
theorem dX14_open_233 : decode cX14_open 233 = .ok (.ifCond .eq 12, 3) := by decide +kernel
theorem dX14_open_236 : decode cX14_open 236 = .ok (.aload_n 0, 1) := by decide +kernel
theorem dX14_open_237 : decode cX14_open 237 = .ok (.aload 8, 2) := by decide +kernel
theorem dX14_open_239 : decode cX14_open 239 = .ok (.invokevirtual 262, 3) := by decide +kernel
theorem dX14_open_242 : decode cX14_open 242 = .ok (.goto 4, 3) := by decide +kernel
theorem dX14_open_245 : decode cX14_open 245 = .ok (.iconst (-1), 1) := by decide +kernel
theorem dX14_open_246 : decode cX14_open 246 = .ok (.putfield 232, 3) := by decide +kernel
theorem dX14_open_249 : decode cX14_open 249 = .ok (.aload_n 0, 1) := by decide +kernel
theorem dX14_open_250 : decode cX14_open 250 = .ok (.aload 8, 2) := by decide +kernel
theorem dX14_open_252 : decode cX14_open 252 = .ok (.invokevirtual 226, 3) := by decide +kernel
theorem dX14_open_255 : decode cX14_open 255 = .ok (.ifCond .eq 16, 3) := by decide +kernel
theorem dX14_open_258 : decode cX14_open 258 = .ok (.aload 8, 2) := by decide +kernel
theorem dX14_open_260 : decode cX14_open 260 = .ok (.getfield 232, 3) := by decide +kernel
theorem dX14_open_263 : decode cX14_open 263 = .ok (.iconst (-1), 1) := by decide +kernel
theorem dX14_open_264 : decode cX14_open 264 = .ok (.if_icmp .ne 7, 3) := by decide +kernel
theorem dX14_open_267 : decode cX14_open 267 = .ok (.iconst 3, 1) := by decide +kernel
theorem dX14_open_268 : decode cX14_open 268 = .ok (.goto 14, 3) := by decide +kernel
theorem dX14_open_271 : decode cX14_open 271 = .ok (.iload 7, 2) := by decide +kernel
theorem dX14_open_273 : decode cX14_open 273 = .ok (.iconst (-1), 1) := by decide +kernel
theorem dX14_open_274 : decode cX14_open 274 = .ok (.if_icmp .ne 7, 3) := by decide +kernel
theorem dX14_open_277 : decode cX14_open 277 = .ok (.iconst 4, 1) := by decide +kernel
theorem dX14_open_278 : decode cX14_open 278 = .ok (.goto 4, 3) := by decide +kernel
theorem dX14_open_281 : decode cX14_open 281 = .ok (.iconst 0, 1) := by decide +kernel
theorem dX14_open_282 : decode cX14_open 282 = .ok (.putfield 61, 3) := by decide +kernel
theorem dX14_open_285 : decode cX14_open 285 = .ok (.aload_n 0, 1) := by decide +kernel
theorem dX14_open_286 : decode cX14_open 286 = .ok (.getfield 61, 3) := by decide +kernel
theorem dX14_open_289 : decode cX14_open 289 = .ok (.ifCond .le 5, 3) := by decide +kernel
theorem dX14_open_292 : decode cX14_open 292 = .ok (.iconst 0, 1) := by decide +kernel
theorem dX14_open_293 : decode cX14_open 293 = .ok (.ireturn, 1) := by decide +kernel
theorem dX14_open_294 : decode cX14_open 294 = .ok (.aload_n 0, 1) := by decide +kernel
theorem dX14_open_295 : decode cX14_open 295 = .ok (.getfield 18, 3) := by decide +kernel
theorem dX14_open_298 : decode cX14_open 298 = .ok (.iload 7, 2) := by decide +kernel
theorem dX14_open_300 : decode cX14_open 300 = .ok (.aload 8, 2) := by decide +kernel
theorem dX14_open_302 : decode cX14_open 302 = .ok (.aastore, 1) := by decide +kernel
theorem dX14_open_303 : decode cX14_open 303 = .ok (.aload_n 0, 1) := by decide +kernel
theorem dX14_open_304 : decode cX14_open 304 = .ok (.getfield 10, 3) := by decide +kernel
theorem dX14_open_307 : decode cX14_open 307 = .ok (.iload_n 1, 1) := by decide +kernel
theorem dX14_open_308 : decode cX14_open 308 = .ok (.invokevirtual 76, 3) := by decide +kernel
theorem dX14_open_311 : decode cX14_open 311 = .ok (.checkcast 48, 3) := by decide +kernel
theorem dX14_open_314 : decode cX14_open 314 = .ok (.getfield 96, 3) := by decide +kernel
theorem dX14_open_317 : decode cX14_open 317 = .ok (.iload_n 2, 1) := by decide +kernel
theorem dX14_open_318 : decode cX14_open 318 = .ok (.aaload, 1) := by decide +kernel
theorem dX14_open_319 : decode cX14_open 319 = .ok (.astore 9, 2) := by decide +kernel
theorem dX14_open_321 : decode cX14_open 321 = .ok (.aload 9, 2) := by decide +kernel
theorem dX14_open_323 : decode cX14_open 323 = .ok (.iconst 0, 1) := by decide +kernel
theorem dX14_open_324 : decode cX14_open 324 = .ok (.putfield 266, 3) := by decide +kernel
theorem dX14_open_327 : decode cX14_open 327 = .ok (.aload 9, 2) := by decide +kernel
theorem dX14_open_329 : decode cX14_open 329 = .ok (.iconst (-1), 1) := by decide +kernel
theorem dX14_open_330 : decode cX14_open 330 = .ok (.putfield 269, 3) := by decide +kernel
theorem dX14_open_333 : decode cX14_open 333 = .ok (.iload 7, 2) := by decide +kernel
theorem dX14_open_335 : decode cX14_open 335 = .ok (.ireturn, 1) := by decide +kernel
set_option maxRecDepth 100000 in
set_option maxHeartbeats 4000000 in
theorem m_open (l : Launch) (D : va_G) (cy : Nat → ClassId) {eda ca : Nat} {ia : Nat → Nat} {σ : SG} {K : KM} {g : GH} {n S hw : Nat} (h : Inv eda ia K g n S hw σ) (hY : nY g) (hH : nH g) (x y ki iv : Int32) (hki : 0 ≤ ki.toInt ∧ ki.toInt ≤ 65535) (sz : Nat) : sgM l D cy eda ca ia σ sz yX14_open (Cond.code yX14_open cX14_open 10 (some .int) :: mWall) 7 173 2 13 [.ref (kA K), .int x, .int y, .int ki, .int iv] (fun v σ2 => (∃ y : Int32, v = some (.int y)) ∧ ∃ g2, (nY g2 ∧ nH g2) ∧ Inv eda ia K g2 n S hw σ2) := by
  refine sg_ofW (cc := cX14_open) (maxL := 10) (ret := (some .int)) (by decide) rfl (Nat.le_of_ble_eq_true rfl) (lv := [(0, .ref (kA K)), (1, .int x), (2, .int y), (3, .int ki), (4, .int iv)]) rfl (fun p e s m below meth c ls H N hrt hnm F hB hl => ?_) sz
  have hx := F.1.1
  have hb := F.1.2.1
  have hown := F.1.2.2.2.1
  generalize hlo : ([] : List Loc) = locs at hB ⊢
  clear hlo
  refine sg_jn 30 (P := fun H locs N ls st => sgB D cy s σ σ H locs N 0 ∧ lv_has ls 10 [(4, .int iv), (3, .int ki), (2, .int y), (1, .int x), (0, .ref (kA K))] ∧ ∃ b : Int32, st = [.int b] ∧ sgHd (¬ b = 0 → (iv = 1 ∨ iv = 2 ∨ iv = 4 ∨ iv = 8))) (fun H locs N ls st9 hj => ?_) (fun J30 => ?_)
  · skip
    clear hB hl
    obtain ⟨hB, hl, b30, rfl, p30⟩ := hj
    refine sg_jn 60 (P := fun H locs N ls st => sgB D cy s σ σ H locs N 0 ∧ lv_has ls 10 [(4, .int iv), (3, .int ki), (2, .int y), (1, .int x), (0, .ref (kA K))] ∧ ∃ b : Int32, st = [.int b] ∧ sgHd (¬ b = 0 → ki = 98 ∨ (iv = 1 ∨ iv = 2 ∨ iv = 4 ∨ iv = 8))) (fun H locs N ls st9 hj => ?_) (fun J60 => ?_)
    · skip
      clear hB hl
      obtain ⟨hB, hl, b60, rfl, p60⟩ := hj
      refine sg_jn 109 (P := fun H locs N ls st => sgB D cy s σ σ H locs N 0 ∧ lv_has ls 10 [(4, .int iv), (3, .int ki), (2, .int y), (1, .int x), (0, .ref (kA K))] ∧ ∃ t : Int32, st = [.int t, .ref (kA K)] ∧ 0 ≤ t.toInt ∧ sgHd (t = 0 → ((0 ≤ x.toInt ∧ x.toInt < n) ∧ (1 ≤ y.toInt ∧ y.toInt ≤ 3) ∧ (∃ q, iEn g σ x.toInt.toNat y.toInt.toNat = some q) ∧ (ki = 98 ∨ (iv = 1 ∨ iv = 2 ∨ iv = 4 ∨ iv = 8)) ∧ iSt g σ x.toInt.toNat = 99))) (fun H locs N ls st9 hj => ?_) (fun J109 => ?_)
      · skip
        clear hB hl
        obtain ⟨hB, hl, t9, rfl, pt0, p109⟩ := hj
        refine pf_X14_61 F hB dX14_open_109 (inv_A h) (fun H locs hBn => ?_)
        clear hB; have hB := hBn; clear hBn
        have hI109 := inv_PIc (t := 20) hB h (inv_A h) (by unfold iCn; omega)
        have e109 : sgI (sgPI σ (kA K) 0 t9) (kA K) 0 = t9 := by rw [sgI_PI, if_pos ⟨rfl, rfl⟩]
        refine lv_iconst (v := (-1)) hx hb dX14_open_112 (by decide) ?_
        refine lv_istore (lv' := [(7, .int _), (4, .int _), (3, .int _), (2, .int _), (1, .int _), (0, .ref _)]) hx hb dX14_open_113 hl (by decide) rfl (fun ls hl => ?_)
        refine lv_bipush (v := 11) hx hb dX14_open_115 (by decide) ?_
        refine lv_istore (lv' := [(8, .int _), (7, .int _), (4, .int _), (3, .int _), (2, .int _), (1, .int _), (0, .ref _)]) hx hb dX14_open_117 hl (by decide) rfl (fun ls hl => ?_)
        have key119 : ∃ (σ9 : SG) (i8 r7 t8 : Int32), sgB D cy s σ σ9 H locs N 0 ∧ lv_has ls 10 [(8, .int i8), (7, .int r7), (4, .int iv), (3, .int ki), (2, .int y), (1, .int x), (0, .ref (kA K))] ∧ Inv eda ia K g n S hw σ9 ∧ sgI σ9 (kA K) 0 = t8 ∧ (0 ≤ t8.toInt ∧ (-1 ≤ i8.toInt ∧ i8.toInt ≤ 11) ∧ (-1 ≤ r7.toInt ∧ r7.toInt ≤ 11)) ∧ sgHd (t8 = 0 → ((0 ≤ x.toInt ∧ x.toInt < n) ∧ (1 ≤ y.toInt ∧ y.toInt ≤ 3) ∧ (∃ q, iEn g σ9 x.toInt.toNat y.toInt.toNat = some q) ∧ (ki = 98 ∨ (iv = 1 ∨ iv = 2 ∨ iv = 4 ∨ iv = 8)) ∧ iSt g σ9 x.toInt.toNat = 99) ∧ ∀ k q : Nat, i8.toInt < k → k < 12 → sgR σ9 (kP K) k = some q → ¬ (sgI σ9 q 0 = x ∧ sgI σ9 q 1 = y)) := ⟨_, _, _, _, hB, (lv_sub hl [0, 1, 2, 3, 4, 5, 6] rfl), hI109, e109, ⟨pt0, ⟨by decide, by decide⟩, by decide, by decide⟩, fun z => ⟨(by have w := p109 z; exact ⟨w.1, w.2.1, w.2.2.1, w.2.2.2.1, iSt_th.trans w.2.2.2.2⟩), fun k q h1 h2 => absurd h1 (by show ¬ ((11 : Int32).toInt < (k : Int)); rw [show (11 : Int32).toInt = 11 from rfl]; omega)⟩⟩
        clear hB hl
        obtain ⟨σ9, i8, r7, t8, hB, hl, hI9, ht8, hb8, hg9⟩ := key119
        obtain ⟨d119, hd119⟩ : ∃ d : Nat, d = (i8.toInt + 1).toNat := ⟨_, rfl⟩
        induction d119 using Nat.strongRecOn generalizing H locs ls N σ9 i8 r7 t8
        rename_i d119 ih119
        obtain ⟨h80, ⟨hi1, hi2⟩, hr1, hr2⟩ := id hb8
        refine lv_iload hx hb dX14_open_119 (lv_at hl 0 rfl) ?_
        skip
        refine lv_if_lt (tgt := 203) hx hb dX14_open_121 (by decide) (fun c121 => ?_) (fun c121 => ?_)
        · refine lv_aload_n hx hb dX14_open_203 rfl (lv_at hl 6 rfl) ?_
          refine gf_X14_61 F hB dX14_open_204 (inv_A hI9) ?_
          rw [ht8]
          refine lv_if_le (tgt := 212) hx hb dX14_open_207 (by decide) (fun c207 => ?_) (fun c207 => ?_)
          · have h00 : t8 = 0 := by first | exact i_eq.mpr (by have w := i_le c207; have e0 : (0 : Int32).toInt = 0 := rfl; omega) | exact i_eq.mpr (by have w := i_nlt c207; have e0 : (0 : Int32).toInt = 0 := rfl; omega)
            have hg203 := (hg9 h00).1
            have hno9 : ∀ k q : Nat, k < 12 → sgR σ9 (kP K) k = some q → ¬ (sgI σ9 q 0 = x ∧ sgI σ9 q 1 = y) := by first | exact fun k q w1 w2 => (hg9 h00).2 k q (by have w := i_lt c121; have e0 : (0 : Int32).toInt = 0 := rfl; omega) w1 w2 | exact (c128 h00).elim
            refine sg_new (C := RX12) (T := TX12) (N0 := 10) (ci := 17) (ty0 := tyX12) F hB (fun w h => List.mem_cons_of_mem _ (mmu_X12 w h)) tyX12_ok (F.1.2.2.2.2 _ (List.mem_cons_of_mem _ (mm_2 _ (List.mem_of_getElem? (i := 33) rfl)))) (F.1.2.2.2.2 _ (List.mem_cons_of_mem _ (mm_8 _ (List.mem_of_getElem? (i := 28) rfl)))) (F.1.2.2.2.2 _ (List.mem_cons_of_mem _ (mm_8 _ (List.mem_of_getElem? (i := 15) rfl)))) rfl (by decide) (by decide +kernel) (Nat.le_of_ble_eq_true rfl) (Nat.add_le_add_right (Nat.le_of_ble_eq_true rfl) _) dX14_open_212 (fun q212 H N hq212 hs212 hBn => ?_)
            clear hB; have hB := hBn; clear hBn
            refine lv_dup hx hb dX14_open_215 rfl ?_
            refine lv_iload_n hx hb dX14_open_216 rfl (lv_at hl 5 rfl) ?_
            refine lv_iload_n hx hb dX14_open_217 rfl (lv_at hl 4 rfl) ?_
            refine lv_iload_n hx hb dX14_open_218 rfl (lv_at hl 3 rfl) ?_
            refine lv_iload hx hb dX14_open_219 (lv_at hl 2 rfl) ?_
            refine sg_callI F hB (m_ppI l D cy (show sgT (sgNw _ q212 18 0) q212 = 18 from by rw [sgNw_T, if_pos rfl]) x y ki iv hki _) (cwI 4 F.1.2.2.2.2 (mgN (mm_1 _ (List.mem_of_getElem? (i := 13) rfl))) rfl rfl rfl (F.1.2.2.2.2 _ (List.mem_cons_of_mem _ (mm_8 _ (List.mem_of_getElem? (i := 15) rfl)))) (F.1.2.2.2.2 _ (List.mem_cons_of_mem _ (mm_8 _ (List.mem_of_getElem? (i := 32) rfl)))) (F.1.2.2.2.2 _ (List.mem_cons_of_mem _ (mm_8 _ (List.mem_of_getElem? (i := 33) rfl)))) rfl ⟨by decide, by decide, by decide +kernel⟩ ⟨Nat.le_of_ble_eq_true rfl, Nat.le_of_ble_eq_true rfl⟩) rfl hl.1 rfl (Nat.le_of_ble_eq_true rfl) dX14_open_221 (Nat.le_of_ble_eq_true rfl) (Nat.add_le_add_right (Nat.le_of_ble_eq_true rfl) _)  (fun H locs v σ221 N hBn hX221 hP => ?_)
            clear hB; have hB := hBn; clear hBn
            obtain ⟨rfl, l9, hl9, rfl⟩ := hP
            obtain ⟨⟨hx1, hx2⟩, ⟨hy1, hy2⟩, ⟨x9, hx9⟩, hkk, hst⟩ := hg203
            have hx0 := nH_x hI9 hH (k := x.toInt.toNat) (j := y.toInt.toNat) (by omega) (by omega) hx9
            obtain ⟨hI221, hO221, tp221⟩ := inv_ppN hI9 hq212 (by exact hl9) (by omega) hx2 hy1 hy2 hkk hx9 (by exact sg_eda F hB)
            obtain ⟨f0, f1, f2, f3⟩ := ppF_4 (eda := eda) (σ := σ9) (p := q212) (l := l9) (dv := x) (ep := y) (ki := ki) (iv := iv)
            have hxF : iEn (gP g q212 l9) (ppF eda σ9 q212 l9 x y ki iv) x.toInt.toNat y.toInt.toNat = some x9 := iEn_nw hI9 hO221 (by omega) (by omega) rfl hx9
            have td9 := (inv_dv hI9 (k := x.toInt.toNat) (by omega)).2.1
            have hst2 : sgI (ppF eda σ9 q212 l9 x y ki iv) (gDv g x.toInt.toNat) 6 = 99 := ((hO221 _ (t_nz td9 (by decide))).2.2 6).1.trans hst
            refine lv_astore (lv' := [(8, .ref _), (7, .int _), (4, .int _), (3, .int _), (2, .int _), (1, .int _), (0, .ref _)]) hx hb dX14_open_224 hl (by decide) rfl (fun ls hl => ?_)
            refine sg_jn 246 (P := fun H locs N ls st => sgB D cy s σ (ppF eda σ9 q212 l9 x y ki iv) H locs N 13 ∧ lv_has ls 10 [(8, .ref q212), (7, .int r7), (4, .int iv), (3, .int ki), (2, .int y), (1, .int x), (0, .ref (kA K))] ∧ ∃ v : Int32, st = [.int v, .ref q212]) (fun H locs N ls st9 hj => ?_) (fun J246 => ?_)
            · skip
              clear hB hl
              obtain ⟨hB, hl, v246, rfl⟩ := hj
              refine pf_X14_232 F hB dX14_open_246 (by exact tp221) (fun H locs hBn => ?_)
              clear hB; have hB := hBn; clear hBn
              have hI246 := inv_PIc (t := 18) hB hI221 (by exact tp221) (by unfold iCn; omega)
              refine sg_jn 282 (P := fun H locs N ls st => sgB D cy s σ (sgPI (ppF eda σ9 q212 l9 x y ki iv) q212 4 v246) H locs N 13 ∧ lv_has ls 10 [(8, .ref q212), (7, .int r7), (4, .int iv), (3, .int ki), (2, .int y), (1, .int x), (0, .ref (kA K))] ∧ ∃ t : Int32, st = [.int t, .ref (kA K)] ∧ 0 ≤ t.toInt ∧ sgHd (t = 0 → 0 ≤ r7.toInt)) (fun H locs N ls st9 hj => ?_) (fun J282 => ?_)
              · skip
                clear hB hl
                obtain ⟨hB, hl, t282, rfl, h282, p282⟩ := hj
                refine pf_X14_61 F hB dX14_open_282 (inv_A hI246) (fun H locs hBn => ?_)
                clear hB; have hB := hBn; clear hBn
                have hI282 := inv_PIc (t := 20) hB hI246 (inv_A hI246) (by unfold iCn; omega)
                refine lv_aload_n hx hb dX14_open_285 rfl (lv_at hl 6 rfl) ?_
                refine gf_X14_61 F hB dX14_open_286 (inv_A hI282) ?_
                rw [sgI_PI, if_pos ⟨rfl, rfl⟩]
                refine lv_if_le (tgt := 294) hx hb dX14_open_289 (by decide) (fun c289 => ?_) (fun c289 => ?_)
                · have h282b : t282 = 0 := i_eq.mpr (by have w := i_le c289; have e0 : (0 : Int32).toInt = 0 := rfl; omega)
                  have hr0 := p282 h282b
                  have nA94 : q212 ≠ kA K := fun z => by have w : sgT σ9 q212 = 0 := hq212; rw [z, inv_A hI9] at w; exact absurd w (by decide)
                  have hz294 := inv_op (r := r7.toInt.toNat) (x := x9) hI282 (by exact hY) (by exact tp221) (fun e z q1 q2 => op_one hI9 hO221 (by omega) (by omega) hx9 f0 f1 nA94 (g2 := gP g q212 l9) (fun _ => rfl) q1 q2) (op_no hI282 ⟨hx1, by exact hx2⟩ ⟨hy1, hy2⟩ (by exact hxF) (op_no2 hI9 hO221 hq212 hno9)) (op_st (g2 := gP g q212 l9) f0 f1 nA94 (fun _ => rfl) hst2)
                  refine lv_aload_n hx hb dX14_open_294 rfl (lv_at hl 6 rfl) ?_
                  refine gr_X14_18 F hB dX14_open_295 (inv_A hI282) (inv_r2 hI282) ?_
                  refine lv_iload hx hb dX14_open_298 (lv_at hl 1 rfl) ?_
                  refine lv_aload hx hb dX14_open_300 (lv_at hl 0 rfl) ?_
                  refine sg_aast 9 (ci := 17) hx hb F.2.1 hB.1 rfl rfl rfl (by decide) dX14_open_302 (by exact (inv_tP hI282).1) (by exact tp221) hr0 (m_ltN (n := 12) (inv_tP hI282).2 (by omega)) (m_ltM (inv_tP hI282).2 (by decide)) (fun H locs hs1 => ?_)
                  have hBn := sgB_w hB hs1 (fun _ => rfl) (fun _ => rfl) (Nat.le_of_eq (sgPot_R (fun z9 => absurd ((Eq.symm (by exact (inv_tP hI282).1)).trans z9) (by decide))))
                  clear hB; have hB := hBn; clear hBn
                  obtain ⟨e9, hE318, hT318, hN318, hR318, tx318⟩ := op_en (r := r7.toInt.toNat) (v := some q212) hI282 (k := x.toInt.toNat) (j := y.toInt.toNat) (by omega) (by omega) (by exact hxF)
                  refine lv_aload_n hx hb dX14_open_303 rfl (lv_at hl 6 rfl) ?_
                  refine gr_X14_10 F hB dX14_open_304 (inv_A hz294) (inv_r1 hz294) ?_
                  refine lv_iload_n hx hb dX14_open_307 rfl (lv_at hl 5 rfl) ?_
                  refine sg_callV (ci := 4) F hB (m_getD l D cy hz294 x hx1 hx2 _) (cwV 1 F.1.2.2.2.2 (mgV (mm_4 _ (List.mem_of_getElem? (i := 3) rfl)) (mm_4 _ (List.mem_of_getElem? (i := 4) rfl)) (mm_4 _ (List.mem_of_getElem? (i := 5) rfl)) (mm_0 _ (List.mem_of_getElem? (i := 35) rfl)) (mm_3 _ (List.mem_of_getElem? (i := 34) rfl))) rfl rfl rfl ⟨rfl, by decide, by decide, by decide +kernel⟩ ⟨Nat.le_of_ble_eq_true rfl, Nat.le_of_ble_eq_true rfl⟩) rfl rfl (by decide) rfl hl.1 rfl (Nat.le_of_ble_eq_true rfl) dX14_open_308 (Nat.le_of_ble_eq_true rfl) (Nat.add_le_add_right (Nat.le_of_ble_eq_true rfl) _) (inv_tD hz294).1 (fun H locs v σ308 N hBn hX308 hP => ?_)
                  clear hB; have hB := hBn; clear hBn
                  obtain ⟨rfl, rfl⟩ := hP
                  have dv308 := (inv_dv hz294 (k := (x : Int32).toInt.toNat) (by omega)).2.1
                  refine va_castY hx hb hown (F.1.2.2.2.2 _ (List.mem_cons_of_mem _ (mm_4 _ (List.mem_of_getElem? (i := 2) rfl)))) (F.2.2.1.2.2 ("HubcascadeModel$Device", "HubcascadeModel$Device") (by decide +kernel)) (sg_recv (ci := 15) F.2.1 hB (by assumption) (by decide) rfl) dX14_open_311 ?_
                  refine gr_X14_96 F hB dX14_open_314 dv308 hE318 ?_
                  refine lv_iload_n hx hb dX14_open_317 rfl (lv_at hl 4 rfl) ?_
                  refine sg_aaldR 8 hx hb F.2.1 hB.1 rfl rfl dX14_open_318 hT318 (by omega) (m_ltN hN318 (by omega)) (m_ltM hN318 (by decide)) hR318 ?_
                  refine lv_astore (lv' := [(9, .ref _), (8, .ref _), (7, .int _), (4, .int _), (3, .int _), (2, .int _), (1, .int _), (0, .ref _)]) hx hb dX14_open_319 hl (by decide) rfl (fun ls hl => ?_)
                  refine lv_aload hx hb dX14_open_321 (lv_at hl 0 rfl) ?_
                  refine lv_iconst (v := 0) hx hb dX14_open_323 (by decide) ?_
                  refine pf_X14_266 F hB dX14_open_324 tx318 (fun H locs hBn => ?_)
                  clear hB; have hB := hBn; clear hBn
                  have hI324 := inv_PIc (t := 17) hB hz294 tx318 (by unfold iCn; omega)
                  refine lv_aload hx hb dX14_open_327 (lv_at hl 0 rfl) ?_
                  refine lv_iconst (v := (-1)) hx hb dX14_open_329 (by decide) ?_
                  refine pf_X14_269 F hB dX14_open_330 (by exact tx318) (fun H locs hBn => ?_)
                  clear hB; have hB := hBn; clear hBn
                  have hI330 := inv_op2 (inv_kpB hB hI324 (by exact tx318) (Or.inr (Or.inl rfl))) (by exact tx318) (by rw [sgI_PI, if_pos ⟨rfl, rfl⟩]; rfl)
                  refine lv_iload hx hb dX14_open_333 (lv_at hl 2 rfl) ?_
                  exact sg_iret F hB hrt dX14_open_335 (by decide) (by decide) (⟨⟨_, rfl⟩, _, ⟨nY_C, nH_C (nH_P hH (inv_hd hI9 hq212 (by decide)))⟩, hI330⟩)
                · refine lv_iconst (v := 0) hx hb dX14_open_292 (by decide) ?_
                  exact sg_iret F hB hrt dX14_open_293 (by decide) (by decide) (⟨⟨_, rfl⟩, gP g q212 l9, ⟨(by exact hY), nH_P hH (inv_hd hI9 hq212 (by decide))⟩, hI282⟩)
              · skip
                refine lv_aload_n hx hb dX14_open_249 rfl (lv_at hl 6 rfl) ?_
                refine lv_aload hx hb dX14_open_250 (lv_at hl 0 rfl) ?_
                refine sg_callV (ci := 17) F hB (m_isPer l D cy (by exact tp221) _) (cwV 0 F.1.2.2.2.2 (mgV (mm_8 _ (List.mem_of_getElem? (i := 12) rfl)) (mm_8 _ (List.mem_of_getElem? (i := 13) rfl)) (mm_8 _ (List.mem_of_getElem? (i := 14) rfl)) (mm_8 _ (List.mem_of_getElem? (i := 15) rfl)) (mm_1 _ (List.mem_of_getElem? (i := 14) rfl))) rfl rfl rfl ⟨rfl, by decide, by decide, by decide +kernel⟩ ⟨Nat.le_of_ble_eq_true rfl, Nat.le_of_ble_eq_true rfl⟩) rfl rfl (by decide) rfl hl.1 rfl (Nat.le_of_ble_eq_true rfl) dX14_open_252 (Nat.le_of_ble_eq_true rfl) (Nat.add_le_add_right (Nat.le_of_ble_eq_true rfl) _) (by assumption) (fun H locs v σ252 N hBn hX252 hP => ?_)
                clear hB; have hB := hBn; clear hBn
                obtain ⟨b252, rfl, rfl, hb252⟩ := hP
                refine lv_if_eq (tgt := 271) hx hb dX14_open_255 (by decide) (fun c255 => ?_) (fun c255 => ?_)
                · refine lv_iload hx hb dX14_open_271 (lv_at hl 1 rfl) ?_
                  refine lv_iconst (v := (-1)) hx hb dX14_open_273 (by decide) ?_
                  refine lv_icmp_ne (tgt := 281) hx hb dX14_open_274 (by decide) (fun c274 => ?_) (fun c274 => ?_)
                  · refine lv_iconst (v := 0) hx hb dX14_open_281 (by decide) ?_
                    exact J282 _ _ _ _ _ (⟨hB, (lv_sub hl [0, 1, 2, 3, 4, 5, 6] rfl), _, rfl, by decide, by first | exact fun z => absurd z (by decide) | exact fun _ => (by have w := m_neI c274; rw [show ((-1) : Int32).toInt = -1 from rfl] at w; omega)⟩)
                  · refine lv_iconst (v := 4) hx hb dX14_open_277 (by decide) ?_
                    refine lv_goto (tgt := 282) hx hb dX14_open_278 (by decide) ?_
                    exact J282 _ _ _ _ _ (⟨hB, (lv_sub hl [0, 1, 2, 3, 4, 5, 6] rfl), _, rfl, by decide, by first | exact fun z => absurd z (by decide) | exact fun _ => (by have w := m_neI c274; rw [show ((-1) : Int32).toInt = -1 from rfl] at w; omega)⟩)
                · refine lv_aload hx hb dX14_open_258 (lv_at hl 0 rfl) ?_
                  refine gf_X14_232 F hB dX14_open_260 (by exact tp221) ?_
                  refine lv_iconst (v := (-1)) hx hb dX14_open_263 (by decide) ?_
                  refine lv_icmp_ne (tgt := 271) hx hb dX14_open_264 (by decide) (fun c264 => ?_) (fun c264 => ?_)
                  · refine lv_iload hx hb dX14_open_271 (lv_at hl 1 rfl) ?_
                    refine lv_iconst (v := (-1)) hx hb dX14_open_273 (by decide) ?_
                    refine lv_icmp_ne (tgt := 281) hx hb dX14_open_274 (by decide) (fun c274 => ?_) (fun c274 => ?_)
                    · refine lv_iconst (v := 0) hx hb dX14_open_281 (by decide) ?_
                      exact J282 _ _ _ _ _ (⟨hB, (lv_sub hl [0, 1, 2, 3, 4, 5, 6] rfl), _, rfl, by decide, by first | exact fun z => absurd z (by decide) | exact fun _ => (by have w := m_neI c274; rw [show ((-1) : Int32).toInt = -1 from rfl] at w; omega)⟩)
                    · refine lv_iconst (v := 4) hx hb dX14_open_277 (by decide) ?_
                      refine lv_goto (tgt := 282) hx hb dX14_open_278 (by decide) ?_
                      exact J282 _ _ _ _ _ (⟨hB, (lv_sub hl [0, 1, 2, 3, 4, 5, 6] rfl), _, rfl, by decide, by first | exact fun z => absurd z (by decide) | exact fun _ => (by have w := m_neI c274; rw [show ((-1) : Int32).toInt = -1 from rfl] at w; omega)⟩)
                  · refine lv_iconst (v := 3) hx hb dX14_open_267 (by decide) ?_
                    refine lv_goto (tgt := 282) hx hb dX14_open_268 (by decide) ?_
                    exact J282 _ _ _ _ _ (⟨hB, (lv_sub hl [0, 1, 2, 3, 4, 5, 6] rfl), _, rfl, by decide, by first | exact fun z => absurd z (by decide) | exact fun _ => (by have w := m_neI c274; rw [show ((-1) : Int32).toInt = -1 from rfl] at w; omega)⟩)
            · skip
              refine lv_aload hx hb dX14_open_226 (lv_at hl 0 rfl) ?_
              refine lv_aload hx hb dX14_open_228 (lv_at hl 0 rfl) ?_
              refine sg_callV (ci := 17) F hB (m_isPer l D cy (by exact tp221) _) (cwV 0 F.1.2.2.2.2 (mgV (mm_8 _ (List.mem_of_getElem? (i := 12) rfl)) (mm_8 _ (List.mem_of_getElem? (i := 13) rfl)) (mm_8 _ (List.mem_of_getElem? (i := 14) rfl)) (mm_8 _ (List.mem_of_getElem? (i := 15) rfl)) (mm_1 _ (List.mem_of_getElem? (i := 14) rfl))) rfl rfl rfl ⟨rfl, by decide, by decide, by decide +kernel⟩ ⟨Nat.le_of_ble_eq_true rfl, Nat.le_of_ble_eq_true rfl⟩) rfl rfl (by decide) rfl hl.1 rfl (Nat.le_of_ble_eq_true rfl) dX14_open_230 (Nat.le_of_ble_eq_true rfl) (Nat.add_le_add_right (Nat.le_of_ble_eq_true rfl) _) (by assumption) (fun H locs v σ230 N hBn hX230 hP => ?_)
              clear hB; have hB := hBn; clear hBn
              obtain ⟨b230, rfl, rfl, hb230⟩ := hP
              refine lv_if_eq (tgt := 245) hx hb dX14_open_233 (by decide) (fun c233 => ?_) (fun c233 => ?_)
              · refine lv_iconst (v := (-1)) hx hb dX14_open_245 (by decide) ?_
                exact J246 _ _ _ _ _ (⟨hB, (lv_sub hl [0, 1, 2, 3, 4, 5, 6] rfl), _, rfl⟩)
              · refine lv_aload_n hx hb dX14_open_236 rfl (lv_at hl 6 rfl) ?_
                refine lv_aload hx hb dX14_open_237 (lv_at hl 0 rfl) ?_
                refine sg_callV (ci := 19) F hB (m_phaseFor l D cy hI221 (by exact hY) (by exact tp221) (by rw [f3]; exact hkk.resolve_left (fun z => sgb_t hb230 c233 (f2.trans z))) (by unfold iSt; rw [f0, show gDv (gP g q212 l9) x.toInt.toNat = gDv g x.toInt.toNat from rfl, hst2]; decide) _) (cwV 1 F.1.2.2.2.2 (mgV (mm_8 _ (List.mem_of_getElem? (i := 34) rfl)) (mm_8 _ (List.mem_of_getElem? (i := 35) rfl)) (mm_8 _ (List.mem_of_getElem? (i := 36) rfl)) (mm_3 _ (List.mem_of_getElem? (i := 23) rfl)) (mm_8 _ (List.mem_of_getElem? (i := 26) rfl))) rfl rfl rfl ⟨rfl, by decide, by decide, by decide +kernel⟩ ⟨Nat.le_of_ble_eq_true rfl, Nat.le_of_ble_eq_true rfl⟩) rfl rfl (by decide) rfl hl.1 rfl (Nat.le_of_ble_eq_true rfl) dX14_open_239 (Nat.le_of_ble_eq_true rfl) (Nat.add_le_add_right (Nat.le_of_ble_eq_true rfl) _) (inv_A hI221) (fun H locs v σ239 N hBn hX239 hP => ?_)
                clear hB; have hB := hBn; clear hBn
                obtain ⟨⟨y239, rfl⟩, rfl⟩ := hP
                refine lv_goto (tgt := 246) hx hb dX14_open_242 (by decide) ?_
                exact J246 _ _ _ _ _ (⟨hB, (lv_sub hl [0, 1, 2, 3, 4, 5, 6] rfl), _, rfl⟩)
          · refine lv_iconst (v := 0) hx hb dX14_open_210 (by decide) ?_
            exact sg_iret F hB hrt dX14_open_211 (by decide) (by decide) (⟨⟨_, rfl⟩, g, ⟨hY, hH⟩, hI9⟩)
        · refine lv_aload_n hx hb dX14_open_124 rfl (lv_at hl 6 rfl) ?_
          refine gf_X14_61 F hB dX14_open_125 (inv_A hI9) ?_
          rw [ht8]
          refine lv_if_ne (tgt := 203) hx hb dX14_open_128 (by decide) (fun c128 => ?_) (fun c128 => ?_)
          · refine lv_aload_n hx hb dX14_open_203 rfl (lv_at hl 6 rfl) ?_
            refine gf_X14_61 F hB dX14_open_204 (inv_A hI9) ?_
            rw [ht8]
            refine lv_if_le (tgt := 212) hx hb dX14_open_207 (by decide) (fun c207 => ?_) (fun c207 => ?_)
            · have h00 : t8 = 0 := by first | exact i_eq.mpr (by have w := i_le c207; have e0 : (0 : Int32).toInt = 0 := rfl; omega) | exact i_eq.mpr (by have w := i_nlt c207; have e0 : (0 : Int32).toInt = 0 := rfl; omega)
              have hg203 := (hg9 h00).1
              have hno9 : ∀ k q : Nat, k < 12 → sgR σ9 (kP K) k = some q → ¬ (sgI σ9 q 0 = x ∧ sgI σ9 q 1 = y) := by first | exact fun k q w1 w2 => (hg9 h00).2 k q (by have w := i_lt c121; have e0 : (0 : Int32).toInt = 0 := rfl; omega) w1 w2 | exact (c128 h00).elim
              refine sg_new (C := RX12) (T := TX12) (N0 := 10) (ci := 17) (ty0 := tyX12) F hB (fun w h => List.mem_cons_of_mem _ (mmu_X12 w h)) tyX12_ok (F.1.2.2.2.2 _ (List.mem_cons_of_mem _ (mm_2 _ (List.mem_of_getElem? (i := 33) rfl)))) (F.1.2.2.2.2 _ (List.mem_cons_of_mem _ (mm_8 _ (List.mem_of_getElem? (i := 28) rfl)))) (F.1.2.2.2.2 _ (List.mem_cons_of_mem _ (mm_8 _ (List.mem_of_getElem? (i := 15) rfl)))) rfl (by decide) (by decide +kernel) (Nat.le_of_ble_eq_true rfl) (Nat.add_le_add_right (Nat.le_of_ble_eq_true rfl) _) dX14_open_212 (fun q212 H N hq212 hs212 hBn => ?_)
              clear hB; have hB := hBn; clear hBn
              refine lv_dup hx hb dX14_open_215 rfl ?_
              refine lv_iload_n hx hb dX14_open_216 rfl (lv_at hl 5 rfl) ?_
              refine lv_iload_n hx hb dX14_open_217 rfl (lv_at hl 4 rfl) ?_
              refine lv_iload_n hx hb dX14_open_218 rfl (lv_at hl 3 rfl) ?_
              refine lv_iload hx hb dX14_open_219 (lv_at hl 2 rfl) ?_
              refine sg_callI F hB (m_ppI l D cy (show sgT (sgNw _ q212 18 0) q212 = 18 from by rw [sgNw_T, if_pos rfl]) x y ki iv hki _) (cwI 4 F.1.2.2.2.2 (mgN (mm_1 _ (List.mem_of_getElem? (i := 13) rfl))) rfl rfl rfl (F.1.2.2.2.2 _ (List.mem_cons_of_mem _ (mm_8 _ (List.mem_of_getElem? (i := 15) rfl)))) (F.1.2.2.2.2 _ (List.mem_cons_of_mem _ (mm_8 _ (List.mem_of_getElem? (i := 32) rfl)))) (F.1.2.2.2.2 _ (List.mem_cons_of_mem _ (mm_8 _ (List.mem_of_getElem? (i := 33) rfl)))) rfl ⟨by decide, by decide, by decide +kernel⟩ ⟨Nat.le_of_ble_eq_true rfl, Nat.le_of_ble_eq_true rfl⟩) rfl hl.1 rfl (Nat.le_of_ble_eq_true rfl) dX14_open_221 (Nat.le_of_ble_eq_true rfl) (Nat.add_le_add_right (Nat.le_of_ble_eq_true rfl) _)  (fun H locs v σ221 N hBn hX221 hP => ?_)
              clear hB; have hB := hBn; clear hBn
              obtain ⟨rfl, l9, hl9, rfl⟩ := hP
              obtain ⟨⟨hx1, hx2⟩, ⟨hy1, hy2⟩, ⟨x9, hx9⟩, hkk, hst⟩ := hg203
              have hx0 := nH_x hI9 hH (k := x.toInt.toNat) (j := y.toInt.toNat) (by omega) (by omega) hx9
              obtain ⟨hI221, hO221, tp221⟩ := inv_ppN hI9 hq212 (by exact hl9) (by omega) hx2 hy1 hy2 hkk hx9 (by exact sg_eda F hB)
              obtain ⟨f0, f1, f2, f3⟩ := ppF_4 (eda := eda) (σ := σ9) (p := q212) (l := l9) (dv := x) (ep := y) (ki := ki) (iv := iv)
              have hxF : iEn (gP g q212 l9) (ppF eda σ9 q212 l9 x y ki iv) x.toInt.toNat y.toInt.toNat = some x9 := iEn_nw hI9 hO221 (by omega) (by omega) rfl hx9
              have td9 := (inv_dv hI9 (k := x.toInt.toNat) (by omega)).2.1
              have hst2 : sgI (ppF eda σ9 q212 l9 x y ki iv) (gDv g x.toInt.toNat) 6 = 99 := ((hO221 _ (t_nz td9 (by decide))).2.2 6).1.trans hst
              refine lv_astore (lv' := [(8, .ref _), (7, .int _), (4, .int _), (3, .int _), (2, .int _), (1, .int _), (0, .ref _)]) hx hb dX14_open_224 hl (by decide) rfl (fun ls hl => ?_)
              refine sg_jn 246 (P := fun H locs N ls st => sgB D cy s σ (ppF eda σ9 q212 l9 x y ki iv) H locs N 13 ∧ lv_has ls 10 [(8, .ref q212), (7, .int r7), (4, .int iv), (3, .int ki), (2, .int y), (1, .int x), (0, .ref (kA K))] ∧ ∃ v : Int32, st = [.int v, .ref q212]) (fun H locs N ls st9 hj => ?_) (fun J246 => ?_)
              · skip
                clear hB hl
                obtain ⟨hB, hl, v246, rfl⟩ := hj
                refine pf_X14_232 F hB dX14_open_246 (by exact tp221) (fun H locs hBn => ?_)
                clear hB; have hB := hBn; clear hBn
                have hI246 := inv_PIc (t := 18) hB hI221 (by exact tp221) (by unfold iCn; omega)
                refine sg_jn 282 (P := fun H locs N ls st => sgB D cy s σ (sgPI (ppF eda σ9 q212 l9 x y ki iv) q212 4 v246) H locs N 13 ∧ lv_has ls 10 [(8, .ref q212), (7, .int r7), (4, .int iv), (3, .int ki), (2, .int y), (1, .int x), (0, .ref (kA K))] ∧ ∃ t : Int32, st = [.int t, .ref (kA K)] ∧ 0 ≤ t.toInt ∧ sgHd (t = 0 → 0 ≤ r7.toInt)) (fun H locs N ls st9 hj => ?_) (fun J282 => ?_)
                · skip
                  clear hB hl
                  obtain ⟨hB, hl, t282, rfl, h282, p282⟩ := hj
                  refine pf_X14_61 F hB dX14_open_282 (inv_A hI246) (fun H locs hBn => ?_)
                  clear hB; have hB := hBn; clear hBn
                  have hI282 := inv_PIc (t := 20) hB hI246 (inv_A hI246) (by unfold iCn; omega)
                  refine lv_aload_n hx hb dX14_open_285 rfl (lv_at hl 6 rfl) ?_
                  refine gf_X14_61 F hB dX14_open_286 (inv_A hI282) ?_
                  rw [sgI_PI, if_pos ⟨rfl, rfl⟩]
                  refine lv_if_le (tgt := 294) hx hb dX14_open_289 (by decide) (fun c289 => ?_) (fun c289 => ?_)
                  · have h282b : t282 = 0 := i_eq.mpr (by have w := i_le c289; have e0 : (0 : Int32).toInt = 0 := rfl; omega)
                    have hr0 := p282 h282b
                    have nA94 : q212 ≠ kA K := fun z => by have w : sgT σ9 q212 = 0 := hq212; rw [z, inv_A hI9] at w; exact absurd w (by decide)
                    have hz294 := inv_op (r := r7.toInt.toNat) (x := x9) hI282 (by exact hY) (by exact tp221) (fun e z q1 q2 => op_one hI9 hO221 (by omega) (by omega) hx9 f0 f1 nA94 (g2 := gP g q212 l9) (fun _ => rfl) q1 q2) (op_no hI282 ⟨hx1, by exact hx2⟩ ⟨hy1, hy2⟩ (by exact hxF) (op_no2 hI9 hO221 hq212 hno9)) (op_st (g2 := gP g q212 l9) f0 f1 nA94 (fun _ => rfl) hst2)
                    refine lv_aload_n hx hb dX14_open_294 rfl (lv_at hl 6 rfl) ?_
                    refine gr_X14_18 F hB dX14_open_295 (inv_A hI282) (inv_r2 hI282) ?_
                    refine lv_iload hx hb dX14_open_298 (lv_at hl 1 rfl) ?_
                    refine lv_aload hx hb dX14_open_300 (lv_at hl 0 rfl) ?_
                    refine sg_aast 9 (ci := 17) hx hb F.2.1 hB.1 rfl rfl rfl (by decide) dX14_open_302 (by exact (inv_tP hI282).1) (by exact tp221) hr0 (m_ltN (n := 12) (inv_tP hI282).2 (by omega)) (m_ltM (inv_tP hI282).2 (by decide)) (fun H locs hs1 => ?_)
                    have hBn := sgB_w hB hs1 (fun _ => rfl) (fun _ => rfl) (Nat.le_of_eq (sgPot_R (fun z9 => absurd ((Eq.symm (by exact (inv_tP hI282).1)).trans z9) (by decide))))
                    clear hB; have hB := hBn; clear hBn
                    obtain ⟨e9, hE318, hT318, hN318, hR318, tx318⟩ := op_en (r := r7.toInt.toNat) (v := some q212) hI282 (k := x.toInt.toNat) (j := y.toInt.toNat) (by omega) (by omega) (by exact hxF)
                    refine lv_aload_n hx hb dX14_open_303 rfl (lv_at hl 6 rfl) ?_
                    refine gr_X14_10 F hB dX14_open_304 (inv_A hz294) (inv_r1 hz294) ?_
                    refine lv_iload_n hx hb dX14_open_307 rfl (lv_at hl 5 rfl) ?_
                    refine sg_callV (ci := 4) F hB (m_getD l D cy hz294 x hx1 hx2 _) (cwV 1 F.1.2.2.2.2 (mgV (mm_4 _ (List.mem_of_getElem? (i := 3) rfl)) (mm_4 _ (List.mem_of_getElem? (i := 4) rfl)) (mm_4 _ (List.mem_of_getElem? (i := 5) rfl)) (mm_0 _ (List.mem_of_getElem? (i := 35) rfl)) (mm_3 _ (List.mem_of_getElem? (i := 34) rfl))) rfl rfl rfl ⟨rfl, by decide, by decide, by decide +kernel⟩ ⟨Nat.le_of_ble_eq_true rfl, Nat.le_of_ble_eq_true rfl⟩) rfl rfl (by decide) rfl hl.1 rfl (Nat.le_of_ble_eq_true rfl) dX14_open_308 (Nat.le_of_ble_eq_true rfl) (Nat.add_le_add_right (Nat.le_of_ble_eq_true rfl) _) (inv_tD hz294).1 (fun H locs v σ308 N hBn hX308 hP => ?_)
                    clear hB; have hB := hBn; clear hBn
                    obtain ⟨rfl, rfl⟩ := hP
                    have dv308 := (inv_dv hz294 (k := (x : Int32).toInt.toNat) (by omega)).2.1
                    refine va_castY hx hb hown (F.1.2.2.2.2 _ (List.mem_cons_of_mem _ (mm_4 _ (List.mem_of_getElem? (i := 2) rfl)))) (F.2.2.1.2.2 ("HubcascadeModel$Device", "HubcascadeModel$Device") (by decide +kernel)) (sg_recv (ci := 15) F.2.1 hB (by assumption) (by decide) rfl) dX14_open_311 ?_
                    refine gr_X14_96 F hB dX14_open_314 dv308 hE318 ?_
                    refine lv_iload_n hx hb dX14_open_317 rfl (lv_at hl 4 rfl) ?_
                    refine sg_aaldR 8 hx hb F.2.1 hB.1 rfl rfl dX14_open_318 hT318 (by omega) (m_ltN hN318 (by omega)) (m_ltM hN318 (by decide)) hR318 ?_
                    refine lv_astore (lv' := [(9, .ref _), (8, .ref _), (7, .int _), (4, .int _), (3, .int _), (2, .int _), (1, .int _), (0, .ref _)]) hx hb dX14_open_319 hl (by decide) rfl (fun ls hl => ?_)
                    refine lv_aload hx hb dX14_open_321 (lv_at hl 0 rfl) ?_
                    refine lv_iconst (v := 0) hx hb dX14_open_323 (by decide) ?_
                    refine pf_X14_266 F hB dX14_open_324 tx318 (fun H locs hBn => ?_)
                    clear hB; have hB := hBn; clear hBn
                    have hI324 := inv_PIc (t := 17) hB hz294 tx318 (by unfold iCn; omega)
                    refine lv_aload hx hb dX14_open_327 (lv_at hl 0 rfl) ?_
                    refine lv_iconst (v := (-1)) hx hb dX14_open_329 (by decide) ?_
                    refine pf_X14_269 F hB dX14_open_330 (by exact tx318) (fun H locs hBn => ?_)
                    clear hB; have hB := hBn; clear hBn
                    have hI330 := inv_op2 (inv_kpB hB hI324 (by exact tx318) (Or.inr (Or.inl rfl))) (by exact tx318) (by rw [sgI_PI, if_pos ⟨rfl, rfl⟩]; rfl)
                    refine lv_iload hx hb dX14_open_333 (lv_at hl 2 rfl) ?_
                    exact sg_iret F hB hrt dX14_open_335 (by decide) (by decide) (⟨⟨_, rfl⟩, _, ⟨nY_C, nH_C (nH_P hH (inv_hd hI9 hq212 (by decide)))⟩, hI330⟩)
                  · refine lv_iconst (v := 0) hx hb dX14_open_292 (by decide) ?_
                    exact sg_iret F hB hrt dX14_open_293 (by decide) (by decide) (⟨⟨_, rfl⟩, gP g q212 l9, ⟨(by exact hY), nH_P hH (inv_hd hI9 hq212 (by decide))⟩, hI282⟩)
                · skip
                  refine lv_aload_n hx hb dX14_open_249 rfl (lv_at hl 6 rfl) ?_
                  refine lv_aload hx hb dX14_open_250 (lv_at hl 0 rfl) ?_
                  refine sg_callV (ci := 17) F hB (m_isPer l D cy (by exact tp221) _) (cwV 0 F.1.2.2.2.2 (mgV (mm_8 _ (List.mem_of_getElem? (i := 12) rfl)) (mm_8 _ (List.mem_of_getElem? (i := 13) rfl)) (mm_8 _ (List.mem_of_getElem? (i := 14) rfl)) (mm_8 _ (List.mem_of_getElem? (i := 15) rfl)) (mm_1 _ (List.mem_of_getElem? (i := 14) rfl))) rfl rfl rfl ⟨rfl, by decide, by decide, by decide +kernel⟩ ⟨Nat.le_of_ble_eq_true rfl, Nat.le_of_ble_eq_true rfl⟩) rfl rfl (by decide) rfl hl.1 rfl (Nat.le_of_ble_eq_true rfl) dX14_open_252 (Nat.le_of_ble_eq_true rfl) (Nat.add_le_add_right (Nat.le_of_ble_eq_true rfl) _) (by assumption) (fun H locs v σ252 N hBn hX252 hP => ?_)
                  clear hB; have hB := hBn; clear hBn
                  obtain ⟨b252, rfl, rfl, hb252⟩ := hP
                  refine lv_if_eq (tgt := 271) hx hb dX14_open_255 (by decide) (fun c255 => ?_) (fun c255 => ?_)
                  · refine lv_iload hx hb dX14_open_271 (lv_at hl 1 rfl) ?_
                    refine lv_iconst (v := (-1)) hx hb dX14_open_273 (by decide) ?_
                    refine lv_icmp_ne (tgt := 281) hx hb dX14_open_274 (by decide) (fun c274 => ?_) (fun c274 => ?_)
                    · refine lv_iconst (v := 0) hx hb dX14_open_281 (by decide) ?_
                      exact J282 _ _ _ _ _ (⟨hB, (lv_sub hl [0, 1, 2, 3, 4, 5, 6] rfl), _, rfl, by decide, by first | exact fun z => absurd z (by decide) | exact fun _ => (by have w := m_neI c274; rw [show ((-1) : Int32).toInt = -1 from rfl] at w; omega)⟩)
                    · refine lv_iconst (v := 4) hx hb dX14_open_277 (by decide) ?_
                      refine lv_goto (tgt := 282) hx hb dX14_open_278 (by decide) ?_
                      exact J282 _ _ _ _ _ (⟨hB, (lv_sub hl [0, 1, 2, 3, 4, 5, 6] rfl), _, rfl, by decide, by first | exact fun z => absurd z (by decide) | exact fun _ => (by have w := m_neI c274; rw [show ((-1) : Int32).toInt = -1 from rfl] at w; omega)⟩)
                  · refine lv_aload hx hb dX14_open_258 (lv_at hl 0 rfl) ?_
                    refine gf_X14_232 F hB dX14_open_260 (by exact tp221) ?_
                    refine lv_iconst (v := (-1)) hx hb dX14_open_263 (by decide) ?_
                    refine lv_icmp_ne (tgt := 271) hx hb dX14_open_264 (by decide) (fun c264 => ?_) (fun c264 => ?_)
                    · refine lv_iload hx hb dX14_open_271 (lv_at hl 1 rfl) ?_
                      refine lv_iconst (v := (-1)) hx hb dX14_open_273 (by decide) ?_
                      refine lv_icmp_ne (tgt := 281) hx hb dX14_open_274 (by decide) (fun c274 => ?_) (fun c274 => ?_)
                      · refine lv_iconst (v := 0) hx hb dX14_open_281 (by decide) ?_
                        exact J282 _ _ _ _ _ (⟨hB, (lv_sub hl [0, 1, 2, 3, 4, 5, 6] rfl), _, rfl, by decide, by first | exact fun z => absurd z (by decide) | exact fun _ => (by have w := m_neI c274; rw [show ((-1) : Int32).toInt = -1 from rfl] at w; omega)⟩)
                      · refine lv_iconst (v := 4) hx hb dX14_open_277 (by decide) ?_
                        refine lv_goto (tgt := 282) hx hb dX14_open_278 (by decide) ?_
                        exact J282 _ _ _ _ _ (⟨hB, (lv_sub hl [0, 1, 2, 3, 4, 5, 6] rfl), _, rfl, by decide, by first | exact fun z => absurd z (by decide) | exact fun _ => (by have w := m_neI c274; rw [show ((-1) : Int32).toInt = -1 from rfl] at w; omega)⟩)
                    · refine lv_iconst (v := 3) hx hb dX14_open_267 (by decide) ?_
                      refine lv_goto (tgt := 282) hx hb dX14_open_268 (by decide) ?_
                      exact J282 _ _ _ _ _ (⟨hB, (lv_sub hl [0, 1, 2, 3, 4, 5, 6] rfl), _, rfl, by decide, by first | exact fun z => absurd z (by decide) | exact fun _ => (by have w := m_neI c274; rw [show ((-1) : Int32).toInt = -1 from rfl] at w; omega)⟩)
              · skip
                refine lv_aload hx hb dX14_open_226 (lv_at hl 0 rfl) ?_
                refine lv_aload hx hb dX14_open_228 (lv_at hl 0 rfl) ?_
                refine sg_callV (ci := 17) F hB (m_isPer l D cy (by exact tp221) _) (cwV 0 F.1.2.2.2.2 (mgV (mm_8 _ (List.mem_of_getElem? (i := 12) rfl)) (mm_8 _ (List.mem_of_getElem? (i := 13) rfl)) (mm_8 _ (List.mem_of_getElem? (i := 14) rfl)) (mm_8 _ (List.mem_of_getElem? (i := 15) rfl)) (mm_1 _ (List.mem_of_getElem? (i := 14) rfl))) rfl rfl rfl ⟨rfl, by decide, by decide, by decide +kernel⟩ ⟨Nat.le_of_ble_eq_true rfl, Nat.le_of_ble_eq_true rfl⟩) rfl rfl (by decide) rfl hl.1 rfl (Nat.le_of_ble_eq_true rfl) dX14_open_230 (Nat.le_of_ble_eq_true rfl) (Nat.add_le_add_right (Nat.le_of_ble_eq_true rfl) _) (by assumption) (fun H locs v σ230 N hBn hX230 hP => ?_)
                clear hB; have hB := hBn; clear hBn
                obtain ⟨b230, rfl, rfl, hb230⟩ := hP
                refine lv_if_eq (tgt := 245) hx hb dX14_open_233 (by decide) (fun c233 => ?_) (fun c233 => ?_)
                · refine lv_iconst (v := (-1)) hx hb dX14_open_245 (by decide) ?_
                  exact J246 _ _ _ _ _ (⟨hB, (lv_sub hl [0, 1, 2, 3, 4, 5, 6] rfl), _, rfl⟩)
                · refine lv_aload_n hx hb dX14_open_236 rfl (lv_at hl 6 rfl) ?_
                  refine lv_aload hx hb dX14_open_237 (lv_at hl 0 rfl) ?_
                  refine sg_callV (ci := 19) F hB (m_phaseFor l D cy hI221 (by exact hY) (by exact tp221) (by rw [f3]; exact hkk.resolve_left (fun z => sgb_t hb230 c233 (f2.trans z))) (by unfold iSt; rw [f0, show gDv (gP g q212 l9) x.toInt.toNat = gDv g x.toInt.toNat from rfl, hst2]; decide) _) (cwV 1 F.1.2.2.2.2 (mgV (mm_8 _ (List.mem_of_getElem? (i := 34) rfl)) (mm_8 _ (List.mem_of_getElem? (i := 35) rfl)) (mm_8 _ (List.mem_of_getElem? (i := 36) rfl)) (mm_3 _ (List.mem_of_getElem? (i := 23) rfl)) (mm_8 _ (List.mem_of_getElem? (i := 26) rfl))) rfl rfl rfl ⟨rfl, by decide, by decide, by decide +kernel⟩ ⟨Nat.le_of_ble_eq_true rfl, Nat.le_of_ble_eq_true rfl⟩) rfl rfl (by decide) rfl hl.1 rfl (Nat.le_of_ble_eq_true rfl) dX14_open_239 (Nat.le_of_ble_eq_true rfl) (Nat.add_le_add_right (Nat.le_of_ble_eq_true rfl) _) (inv_A hI221) (fun H locs v σ239 N hBn hX239 hP => ?_)
                  clear hB; have hB := hBn; clear hBn
                  obtain ⟨⟨y239, rfl⟩, rfl⟩ := hP
                  refine lv_goto (tgt := 246) hx hb dX14_open_242 (by decide) ?_
                  exact J246 _ _ _ _ _ (⟨hB, (lv_sub hl [0, 1, 2, 3, 4, 5, 6] rfl), _, rfl⟩)
            · refine lv_iconst (v := 0) hx hb dX14_open_210 (by decide) ?_
              exact sg_iret F hB hrt dX14_open_211 (by decide) (by decide) (⟨⟨_, rfl⟩, g, ⟨hY, hH⟩, hI9⟩)
          · have h00 : t8 = 0 := by first | exact c128 | exact Classical.not_not.mp c128
            have hib : 0 ≤ i8.toInt := by first | exact i_nlt c121 | exact i_ge c121
            refine sg_jn 148 (P := fun H locs N ls st => sgB D cy s σ σ9 H locs N 0 ∧ lv_has ls 10 [(8, .int i8), (7, .int r7), (4, .int iv), (3, .int ki), (2, .int y), (1, .int x), (0, .ref (kA K))] ∧ ∃ v : Int32, st = [.int v] ∧ -1 ≤ v.toInt ∧ v.toInt ≤ 11) (fun H locs N ls st9 hj => ?_) (fun J148 => ?_)
            · skip
              clear hB hl
              obtain ⟨hB, hl, v148, rfl, hr148⟩ := hj
              refine lv_istore (lv' := [(7, .int _), (8, .int _), (4, .int _), (3, .int _), (2, .int _), (1, .int _), (0, .ref _)]) hx hb dX14_open_148 hl (by decide) rfl (fun ls hl => ?_)
              refine sg_jn 194 (P := fun H locs N ls st => sgB D cy s σ σ9 H locs N 0 ∧ lv_has ls 10 [(8, .int i8), (7, .int v148), (4, .int iv), (3, .int ki), (2, .int y), (1, .int x), (0, .ref (kA K))] ∧ ∃ t : Int32, st = [.int t, .ref (kA K)] ∧ 0 ≤ t.toInt ∧ sgHd (t = 0 → ∀ q, sgR σ9 (kP K) i8.toInt.toNat = some q → ¬ (sgI σ9 q 0 = x ∧ sgI σ9 q 1 = y))) (fun H locs N ls st9 hj => ?_) (fun J194 => ?_)
              · skip
                clear hB hl
                obtain ⟨hB, hl, t194, rfl, h194, p194⟩ := hj
                refine pf_X14_61 F hB dX14_open_194 (inv_A hI9) (fun H locs hBn => ?_)
                clear hB; have hB := hBn; clear hBn
                have hI194 := inv_PIc (t := 20) hB hI9 (inv_A hI9) (by unfold iCn; omega)
                have e194 : sgI (sgPI σ9 (kA K) 0 t194) (kA K) 0 = t194 := by rw [sgI_PI, if_pos ⟨rfl, rfl⟩]
                refine lv_iinc (lv' := [(8, .int _), (7, .int _), (4, .int _), (3, .int _), (2, .int _), (1, .int _), (0, .ref _)]) hx hb dX14_open_197 hl (k := 0) rfl rfl (by decide) rfl (fun ls hl => ?_)
                refine lv_goto (tgt := 119) hx hb dX14_open_200 (by decide) ?_
                have e8 : (i8 + Int32.ofInt (-1)).toInt = i8.toInt - 1 := m_subm (by omega) (by omega)
                exact ih119 _ (by subst hd119; rw [e8]; omega) _ _ _ _ _ _ _ _ hB (lv_sub hl [0, 1, 2, 3, 4, 5, 6] rfl) hI194 e194 ⟨h194, ⟨by rw [e8]; omega, by rw [e8]; omega⟩, hr148⟩ (fun z => ⟨(by have w := (hg9 h00).1; exact ⟨w.1, w.2.1, w.2.2.1, w.2.2.2.1, iSt_th.trans w.2.2.2.2⟩), fun k q w1 w2 w3 => by
                  have w4 : sgR σ9 (kP K) k = some q := w3
                  rw [e8] at w1
                  rw [(op_th hI9 w2 w4).1, (op_th hI9 w2 w4).2]
                  by_cases c : i8.toInt < k
                  · exact (hg9 h00).2 k q c w2 w4
                  · exact p194 z q (by rw [show i8.toInt.toNat = k from by omega]; exact w4)⟩) rfl
              · skip
                refine lv_aload_n hx hb dX14_open_150 rfl (lv_at hl 6 rfl) ?_
                refine lv_aload_n hx hb dX14_open_151 rfl (lv_at hl 6 rfl) ?_
                refine gr_X14_18 F hB dX14_open_152 (inv_A hI9) (inv_r2 hI9) ?_
                refine lv_iload hx hb dX14_open_155 (lv_at hl 1 rfl) ?_
                refine sg_aald 9 hx hb F.2.1 hB.1 rfl rfl dX14_open_157 (inv_tP hI9).1 (by omega) (m_ltN (n := 12) (inv_tP hI9).2 (by omega)) (m_ltM (inv_tP hI9).2 (by decide)) ?_
                refine sg_split (fun hz157 => ?_) (fun b157 hz157 => ?_)
                · skip
                  refine lv_ifnullN (tgt := 193) hx hb dX14_open_158 (by decide) ?_
                  refine lv_iconst (v := 0) hx hb dX14_open_193 (by decide) ?_
                  exact J194 _ _ _ _ _ (⟨hB, (lv_sub hl [1, 0, 2, 3, 4, 5, 6] rfl), _, rfl, by decide, by first | exact fun z => absurd z (by decide) | exact fun _ q z w => c172 (by rw [Option.some.inj (hz157.symm.trans z)]; exact w.1) | exact fun _ q z w => c186 (by rw [Option.some.inj (hz157.symm.trans z)]; exact w.2) | exact fun _ q z => absurd (hz157.symm.trans z) (by simp)⟩)
                · skip
                  have tp157 := inv_pp hI9 (j := i8.toInt.toNat) (by omega) hz157
                  refine lv_ifnull hx hb dX14_open_158 ?_
                  refine lv_aload_n hx hb dX14_open_161 rfl (lv_at hl 6 rfl) ?_
                  refine gr_X14_18 F hB dX14_open_162 (inv_A hI9) (inv_r2 hI9) ?_
                  refine lv_iload hx hb dX14_open_165 (lv_at hl 1 rfl) ?_
                  refine sg_aaldR 9 hx hb F.2.1 hB.1 rfl rfl dX14_open_167 (inv_tP hI9).1 (by omega) (m_ltN (n := 12) (inv_tP hI9).2 (by omega)) (m_ltM (inv_tP hI9).2 (by decide)) hz157 ?_
                  refine gf_X14_133 F hB dX14_open_168 tp157 ?_
                  refine lv_iload_n hx hb dX14_open_171 rfl (lv_at hl 5 rfl) ?_
                  refine lv_icmp_ne (tgt := 193) hx hb dX14_open_172 (by decide) (fun c172 => ?_) (fun c172 => ?_)
                  · refine lv_iconst (v := 0) hx hb dX14_open_193 (by decide) ?_
                    exact J194 _ _ _ _ _ (⟨hB, (lv_sub hl [1, 0, 2, 3, 4, 5, 6] rfl), _, rfl, by decide, by first | exact fun z => absurd z (by decide) | exact fun _ q z w => c172 (by rw [Option.some.inj (hz157.symm.trans z)]; exact w.1) | exact fun _ q z w => c186 (by rw [Option.some.inj (hz157.symm.trans z)]; exact w.2) | exact fun _ q z => absurd (hz157.symm.trans z) (by simp)⟩)
                  · refine lv_aload_n hx hb dX14_open_175 rfl (lv_at hl 6 rfl) ?_
                    refine gr_X14_18 F hB dX14_open_176 (inv_A hI9) (inv_r2 hI9) ?_
                    refine lv_iload hx hb dX14_open_179 (lv_at hl 1 rfl) ?_
                    refine sg_aaldR 9 hx hb F.2.1 hB.1 rfl rfl dX14_open_181 (inv_tP hI9).1 (by omega) (m_ltN (n := 12) (inv_tP hI9).2 (by omega)) (m_ltM (inv_tP hI9).2 (by decide)) hz157 ?_
                    refine gf_X14_235 F hB dX14_open_182 tp157 ?_
                    refine lv_iload_n hx hb dX14_open_185 rfl (lv_at hl 4 rfl) ?_
                    refine lv_icmp_ne (tgt := 193) hx hb dX14_open_186 (by decide) (fun c186 => ?_) (fun c186 => ?_)
                    · refine lv_iconst (v := 0) hx hb dX14_open_193 (by decide) ?_
                      exact J194 _ _ _ _ _ (⟨hB, (lv_sub hl [1, 0, 2, 3, 4, 5, 6] rfl), _, rfl, by decide, by first | exact fun z => absurd z (by decide) | exact fun _ q z w => c172 (by rw [Option.some.inj (hz157.symm.trans z)]; exact w.1) | exact fun _ q z w => c186 (by rw [Option.some.inj (hz157.symm.trans z)]; exact w.2) | exact fun _ q z => absurd (hz157.symm.trans z) (by simp)⟩)
                    · refine lv_iconst (v := 3) hx hb dX14_open_189 (by decide) ?_
                      refine lv_goto (tgt := 194) hx hb dX14_open_190 (by decide) ?_
                      exact J194 _ _ _ _ _ (⟨hB, (lv_sub hl [1, 0, 2, 3, 4, 5, 6] rfl), _, rfl, by decide, by first | exact fun z => absurd z (by decide) | exact fun _ q z w => c172 (by rw [Option.some.inj (hz157.symm.trans z)]; exact w.1) | exact fun _ q z w => c186 (by rw [Option.some.inj (hz157.symm.trans z)]; exact w.2) | exact fun _ q z => absurd (hz157.symm.trans z) (by simp)⟩)
            · skip
              refine lv_aload_n hx hb dX14_open_131 rfl (lv_at hl 6 rfl) ?_
              refine gr_X14_18 F hB dX14_open_132 (inv_A hI9) (inv_r2 hI9) ?_
              refine lv_iload hx hb dX14_open_135 (lv_at hl 0 rfl) ?_
              refine sg_aald 9 hx hb F.2.1 hB.1 rfl rfl dX14_open_137 (inv_tP hI9).1 (by omega) (m_ltN (n := 12) (inv_tP hI9).2 (by omega)) (m_ltM (inv_tP hI9).2 (by decide)) ?_
              refine sg_split (fun hz137 => ?_) (fun b137 hz137 => ?_)
              · skip
                refine lv_ifnonnullN hx hb dX14_open_138 ?_
                refine lv_iload hx hb dX14_open_141 (lv_at hl 0 rfl) ?_
                refine lv_goto (tgt := 148) hx hb dX14_open_143 (by decide) ?_
                exact J148 _ _ _ _ _ (⟨hB, (lv_sub hl [0, 1, 2, 3, 4, 5, 6] rfl), _, rfl, by first | exact ⟨by omega, hi2⟩ | exact ⟨hr1, hr2⟩⟩)
              · skip
                refine lv_ifnonnull (tgt := 146) hx hb dX14_open_138 (by decide) ?_
                refine lv_iload hx hb dX14_open_146 (lv_at hl 1 rfl) ?_
                exact J148 _ _ _ _ _ (⟨hB, (lv_sub hl [0, 1, 2, 3, 4, 5, 6] rfl), _, rfl, by first | exact ⟨by omega, hi2⟩ | exact ⟨hr1, hr2⟩⟩)
      · skip
        refine lv_istore (lv' := [(6, .int _), (4, .int _), (3, .int _), (2, .int _), (1, .int _), (0, .ref _)]) hx hb dX14_open_60 hl (by decide) rfl (fun ls hl => ?_)
        refine lv_aload_n hx hb dX14_open_62 rfl (lv_at hl 5 rfl) ?_
        refine lv_aload_n hx hb dX14_open_63 rfl (lv_at hl 5 rfl) ?_
        refine lv_iload_n hx hb dX14_open_64 rfl (lv_at hl 4 rfl) ?_
        refine lv_iload_n hx hb dX14_open_65 rfl (lv_at hl 3 rfl) ?_
        refine sg_callV (ci := 19) F hB (m_isEnd l D cy h x y _) (cwV 2 F.1.2.2.2.2 (mgV (mm_8 _ (List.mem_of_getElem? (i := 29) rfl)) (mm_8 _ (List.mem_of_getElem? (i := 30) rfl)) (mm_8 _ (List.mem_of_getElem? (i := 31) rfl)) (mm_3 _ (List.mem_of_getElem? (i := 23) rfl)) (mm_8 _ (List.mem_of_getElem? (i := 27) rfl))) rfl rfl rfl ⟨rfl, by decide, by decide, by decide +kernel⟩ ⟨Nat.le_of_ble_eq_true rfl, Nat.le_of_ble_eq_true rfl⟩) rfl rfl (by decide) rfl hl.1 rfl (Nat.le_of_ble_eq_true rfl) dX14_open_66 (Nat.le_of_ble_eq_true rfl) (Nat.add_le_add_right (Nat.le_of_ble_eq_true rfl) _) (inv_A h) (fun H locs v σ66 N hBn hX66 hP => ?_)
        clear hB; have hB := hBn; clear hBn
        obtain ⟨b66, rfl, rfl, hb66⟩ := hP
        refine lv_if_ne (tgt := 76) hx hb dX14_open_69 (by decide) (fun c69 => ?_) (fun c69 => ?_)
        · refine lv_iload hx hb dX14_open_76 (lv_at hl 0 rfl) ?_
          refine lv_if_ne (tgt := 85) hx hb dX14_open_78 (by decide) (fun c78 => ?_) (fun c78 => ?_)
          · have p5 := sgb_t hb66 c69
            obtain ⟨⟨hx1, hx2⟩, ⟨hy1, hy2⟩, hq5⟩ := id p5
            refine lv_aload_n hx hb dX14_open_85 rfl (lv_at hl 5 rfl) ?_
            refine gr_X14_10 F hB dX14_open_86 (inv_A h) (inv_r1 h) ?_
            refine lv_iload_n hx hb dX14_open_89 rfl (lv_at hl 4 rfl) ?_
            refine sg_callV (ci := 4) F hB (m_getD l D cy h x hx1 hx2 _) (cwV 1 F.1.2.2.2.2 (mgV (mm_4 _ (List.mem_of_getElem? (i := 3) rfl)) (mm_4 _ (List.mem_of_getElem? (i := 4) rfl)) (mm_4 _ (List.mem_of_getElem? (i := 5) rfl)) (mm_0 _ (List.mem_of_getElem? (i := 35) rfl)) (mm_3 _ (List.mem_of_getElem? (i := 34) rfl))) rfl rfl rfl ⟨rfl, by decide, by decide, by decide +kernel⟩ ⟨Nat.le_of_ble_eq_true rfl, Nat.le_of_ble_eq_true rfl⟩) rfl rfl (by decide) rfl hl.1 rfl (Nat.le_of_ble_eq_true rfl) dX14_open_90 (Nat.le_of_ble_eq_true rfl) (Nat.add_le_add_right (Nat.le_of_ble_eq_true rfl) _) (inv_tD h).1 (fun H locs v σ90 N hBn hX90 hP => ?_)
            clear hB; have hB := hBn; clear hBn
            obtain ⟨rfl, rfl⟩ := hP
            have dv90 := (inv_dv h (k := (x : Int32).toInt.toNat) (by omega)).2.1
            refine va_castY hx hb hown (F.1.2.2.2.2 _ (List.mem_cons_of_mem _ (mm_4 _ (List.mem_of_getElem? (i := 2) rfl)))) (F.2.2.1.2.2 ("HubcascadeModel$Device", "HubcascadeModel$Device") (by decide +kernel)) (sg_recv (ci := 15) F.2.1 hB (by assumption) (by decide) rfl) dX14_open_93 ?_
            refine gf_X14_53 F hB dX14_open_96 dv90 ?_
            refine lv_bipush (v := 99) hx hb dX14_open_99 (by decide) ?_
            refine lv_icmp_eq (tgt := 108) hx hb dX14_open_101 (by decide) (fun c101 => ?_) (fun c101 => ?_)
            · refine lv_iconst (v := 0) hx hb dX14_open_108 (by decide) ?_
              exact J109 _ _ _ _ _ (⟨hB, (lv_sub hl [1, 2, 3, 4, 5] rfl), _, rfl, by decide, by first | exact fun z => absurd z (by decide) | exact fun _ => ⟨p5.1, p5.2.1, p5.2.2, p60 (by first | exact c78 | exact c78.1), (by first | exact c101 | exact Classical.not_not.mp c101)⟩⟩)
            · refine lv_iconst (v := 3) hx hb dX14_open_104 (by decide) ?_
              refine lv_goto (tgt := 109) hx hb dX14_open_105 (by decide) ?_
              exact J109 _ _ _ _ _ (⟨hB, (lv_sub hl [1, 2, 3, 4, 5] rfl), _, rfl, by decide, by first | exact fun z => absurd z (by decide) | exact fun _ => ⟨p5.1, p5.2.1, p5.2.2, p60 (by first | exact c78 | exact c78.1), (by first | exact c101 | exact Classical.not_not.mp c101)⟩⟩)
          · refine lv_iconst (v := 2) hx hb dX14_open_81 (by decide) ?_
            refine lv_goto (tgt := 109) hx hb dX14_open_82 (by decide) ?_
            exact J109 _ _ _ _ _ (⟨hB, (lv_sub hl [1, 2, 3, 4, 5] rfl), _, rfl, by decide, by first | exact fun z => absurd z (by decide) | exact fun _ => ⟨p5.1, p5.2.1, p5.2.2, p60 (by first | exact c78 | exact c78.1), (by first | exact c101 | exact Classical.not_not.mp c101)⟩⟩)
        · refine lv_iconst (v := 1) hx hb dX14_open_72 (by decide) ?_
          refine lv_goto (tgt := 109) hx hb dX14_open_73 (by decide) ?_
          exact J109 _ _ _ _ _ (⟨hB, (lv_sub hl [1, 2, 3, 4, 5] rfl), _, rfl, by decide, by first | exact fun z => absurd z (by decide) | exact fun _ => ⟨p5.1, p5.2.1, p5.2.2, p60 (by first | exact c78 | exact c78.1), (by first | exact c101 | exact Classical.not_not.mp c101)⟩⟩)
    · skip
      refine lv_istore (lv' := [(5, .int _), (4, .int _), (3, .int _), (2, .int _), (1, .int _), (0, .ref _)]) hx hb dX14_open_30 hl (by decide) rfl (fun ls hl => ?_)
      refine lv_iload_n hx hb dX14_open_32 rfl (lv_at hl 2 rfl) ?_
      refine lv_bipush (v := 98) hx hb dX14_open_33 (by decide) ?_
      refine lv_icmp_eq (tgt := 55) hx hb dX14_open_35 (by decide) (fun c35 => ?_) (fun c35 => ?_)
      · refine lv_iconst (v := 1) hx hb dX14_open_55 (by decide) ?_
        refine lv_goto (tgt := 60) hx hb dX14_open_56 (by decide) ?_
        exact J60 _ _ _ _ _ (⟨hB, (lv_sub hl [1, 2, 3, 4, 5] rfl), _, rfl, by first | exact fun z => absurd rfl z | exact fun _ => Or.inl c35 | exact fun _ => Or.inr (p30 c52)⟩)
      · refine lv_iload_n hx hb dX14_open_38 rfl (lv_at hl 2 rfl) ?_
        refine lv_bipush (v := 105) hx hb dX14_open_39 (by decide) ?_
        refine lv_icmp_eq (tgt := 50) hx hb dX14_open_41 (by decide) (fun c41 => ?_) (fun c41 => ?_)
        · refine lv_iload hx hb dX14_open_50 (lv_at hl 0 rfl) ?_
          refine lv_if_eq (tgt := 59) hx hb dX14_open_52 (by decide) (fun c52 => ?_) (fun c52 => ?_)
          · refine lv_iconst (v := 0) hx hb dX14_open_59 (by decide) ?_
            exact J60 _ _ _ _ _ (⟨hB, (lv_sub hl [1, 2, 3, 4, 5] rfl), _, rfl, by first | exact fun z => absurd rfl z | exact fun _ => Or.inl c35 | exact fun _ => Or.inr (p30 c52)⟩)
          · refine lv_iconst (v := 1) hx hb dX14_open_55 (by decide) ?_
            refine lv_goto (tgt := 60) hx hb dX14_open_56 (by decide) ?_
            exact J60 _ _ _ _ _ (⟨hB, (lv_sub hl [1, 2, 3, 4, 5] rfl), _, rfl, by first | exact fun z => absurd rfl z | exact fun _ => Or.inl c35 | exact fun _ => Or.inr (p30 c52)⟩)
        · refine lv_iload_n hx hb dX14_open_44 rfl (lv_at hl 2 rfl) ?_
          refine lv_bipush (v := 115) hx hb dX14_open_45 (by decide) ?_
          refine lv_icmp_ne (tgt := 59) hx hb dX14_open_47 (by decide) (fun c47 => ?_) (fun c47 => ?_)
          · refine lv_iconst (v := 0) hx hb dX14_open_59 (by decide) ?_
            exact J60 _ _ _ _ _ (⟨hB, (lv_sub hl [1, 2, 3, 4, 5] rfl), _, rfl, by first | exact fun z => absurd rfl z | exact fun _ => Or.inl c35 | exact fun _ => Or.inr (p30 c52)⟩)
          · refine lv_iload hx hb dX14_open_50 (lv_at hl 0 rfl) ?_
            refine lv_if_eq (tgt := 59) hx hb dX14_open_52 (by decide) (fun c52 => ?_) (fun c52 => ?_)
            · refine lv_iconst (v := 0) hx hb dX14_open_59 (by decide) ?_
              exact J60 _ _ _ _ _ (⟨hB, (lv_sub hl [1, 2, 3, 4, 5] rfl), _, rfl, by first | exact fun z => absurd rfl z | exact fun _ => Or.inl c35 | exact fun _ => Or.inr (p30 c52)⟩)
            · refine lv_iconst (v := 1) hx hb dX14_open_55 (by decide) ?_
              refine lv_goto (tgt := 60) hx hb dX14_open_56 (by decide) ?_
              exact J60 _ _ _ _ _ (⟨hB, (lv_sub hl [1, 2, 3, 4, 5] rfl), _, rfl, by first | exact fun z => absurd rfl z | exact fun _ => Or.inl c35 | exact fun _ => Or.inr (p30 c52)⟩)
  · skip
    refine lv_iload hx hb dX14_open_0 (lv_at hl 4 rfl) ?_
    refine lv_iconst (v := 1) hx hb dX14_open_2 (by decide) ?_
    refine lv_icmp_eq (tgt := 25) hx hb dX14_open_3 (by decide) (fun c3 => ?_) (fun c3 => ?_)
    · refine lv_iconst (v := 1) hx hb dX14_open_25 (by decide) ?_
      refine lv_goto (tgt := 30) hx hb dX14_open_26 (by decide) ?_
      exact J30 _ _ _ _ _ (⟨hB, (lv_sub hl [4, 3, 2, 1, 0] rfl), _, rfl, by first | exact fun z => absurd rfl z | exact fun _ => Or.inl c3 | exact fun _ => Or.inr (Or.inl c9) | exact fun _ => Or.inr (Or.inr (Or.inl c15)) | exact fun _ => Or.inr (Or.inr (Or.inr c22)) | exact fun _ => Or.inr (Or.inr (Or.inr (Classical.not_not.mp c22)))⟩)
    · refine lv_iload hx hb dX14_open_6 (lv_at hl 4 rfl) ?_
      refine lv_iconst (v := 2) hx hb dX14_open_8 (by decide) ?_
      refine lv_icmp_eq (tgt := 25) hx hb dX14_open_9 (by decide) (fun c9 => ?_) (fun c9 => ?_)
      · refine lv_iconst (v := 1) hx hb dX14_open_25 (by decide) ?_
        refine lv_goto (tgt := 30) hx hb dX14_open_26 (by decide) ?_
        exact J30 _ _ _ _ _ (⟨hB, (lv_sub hl [4, 3, 2, 1, 0] rfl), _, rfl, by first | exact fun z => absurd rfl z | exact fun _ => Or.inl c3 | exact fun _ => Or.inr (Or.inl c9) | exact fun _ => Or.inr (Or.inr (Or.inl c15)) | exact fun _ => Or.inr (Or.inr (Or.inr c22)) | exact fun _ => Or.inr (Or.inr (Or.inr (Classical.not_not.mp c22)))⟩)
      · refine lv_iload hx hb dX14_open_12 (lv_at hl 4 rfl) ?_
        refine lv_iconst (v := 4) hx hb dX14_open_14 (by decide) ?_
        refine lv_icmp_eq (tgt := 25) hx hb dX14_open_15 (by decide) (fun c15 => ?_) (fun c15 => ?_)
        · refine lv_iconst (v := 1) hx hb dX14_open_25 (by decide) ?_
          refine lv_goto (tgt := 30) hx hb dX14_open_26 (by decide) ?_
          exact J30 _ _ _ _ _ (⟨hB, (lv_sub hl [4, 3, 2, 1, 0] rfl), _, rfl, by first | exact fun z => absurd rfl z | exact fun _ => Or.inl c3 | exact fun _ => Or.inr (Or.inl c9) | exact fun _ => Or.inr (Or.inr (Or.inl c15)) | exact fun _ => Or.inr (Or.inr (Or.inr c22)) | exact fun _ => Or.inr (Or.inr (Or.inr (Classical.not_not.mp c22)))⟩)
        · refine lv_iload hx hb dX14_open_18 (lv_at hl 4 rfl) ?_
          refine lv_bipush (v := 8) hx hb dX14_open_20 (by decide) ?_
          refine lv_icmp_ne (tgt := 29) hx hb dX14_open_22 (by decide) (fun c22 => ?_) (fun c22 => ?_)
          · refine lv_iconst (v := 0) hx hb dX14_open_29 (by decide) ?_
            exact J30 _ _ _ _ _ (⟨hB, (lv_sub hl [4, 3, 2, 1, 0] rfl), _, rfl, by first | exact fun z => absurd rfl z | exact fun _ => Or.inl c3 | exact fun _ => Or.inr (Or.inl c9) | exact fun _ => Or.inr (Or.inr (Or.inl c15)) | exact fun _ => Or.inr (Or.inr (Or.inr c22)) | exact fun _ => Or.inr (Or.inr (Or.inr (Classical.not_not.mp c22)))⟩)
          · refine lv_iconst (v := 1) hx hb dX14_open_25 (by decide) ?_
            refine lv_goto (tgt := 30) hx hb dX14_open_26 (by decide) ?_
            exact J30 _ _ _ _ _ (⟨hB, (lv_sub hl [4, 3, 2, 1, 0] rfl), _, rfl, by first | exact fun z => absurd rfl z | exact fun _ => Or.inl c3 | exact fun _ => Or.inr (Or.inl c9) | exact fun _ => Or.inr (Or.inr (Or.inl c15)) | exact fun _ => Or.inr (Or.inr (Or.inr c22)) | exact fun _ => Or.inr (Or.inr (Or.inr (Classical.not_not.mp c22)))⟩)
end MM39
