section MM21
theorem sgSz_ne {σ : SG} {a k l0 : Nat} {x : Int32} (h : a ≠ l0) : sgSz (sgPI σ a k x) l0 = sgSz σ l0 := by unfold sgSz; rw [sgI_PI, if_neg (fun z => h z.1.symm)]
/-- what the end of a transfer leaves alone -/
def eFr (σ σ2 : SG) : Prop := tFr σ σ2 ∧ (∀ a k, sgT σ a ≠ 0 → sgT σ a ≠ 5 → sgT σ a ≠ 20 → sgI σ2 a k = sgI σ a k) ∧ ∀ a k, sgT σ a ≠ 0 → sgT σ a ≠ 5 → sgT σ a ≠ 110 → sgR σ2 a k = sgR σ a k
theorem eFr_rf {σ : SG} : eFr σ σ := ⟨tFr_rf, fun _ _ _ _ _ => rfl, fun _ _ _ _ _ => rfl⟩
theorem eFr_tr {σ σ2 σ3 : SG} (h : eFr σ σ2) (h2 : eFr σ2 σ3) : eFr σ σ3 := by
  refine ⟨tFr_tr h.1 h2.1, fun a k h0 h5 h20 => ?_, fun a k h0 h5 h110 => ?_⟩
  · have e := (h.1 a h0).1
    exact (h2.2.1 a k (by rw [e]; exact h0) (by rw [e]; exact h5) (by rw [e]; exact h20)).trans (h.2.1 a k h0 h5 h20)
  · have e := (h.1 a h0).1
    exact (h2.2.2 a k (by rw [e]; exact h0) (by rw [e]; exact h5) (by rw [e]; exact h110)).trans (h.2.2 a k h0 h5 h110)
theorem eFr_Qt {σ σ2 : SG} (h : sgQt σ σ2) : eFr σ σ2 := ⟨fun a ha => ⟨(h.1 a ha).1, (h.1 a ha).2.1⟩, fun a k h0 _ _ => ((h.1 a h0).2.2 k).1, fun a k h0 _ _ => ((h.1 a h0).2.2 k).2.1⟩
theorem eFr_A {σ : SG} {a k : Nat} {x : Int32} (h : sgT σ a = 20 ∨ sgT σ a = 5) : eFr σ (sgPI σ a k x) := ⟨fun _ _ => ⟨rfl, rfl⟩, fun b j _ h5 h20 => by rw [sgI_PI, if_neg (fun z => by rcases h with h | h; exact h20 (by rw [z.1]; exact h); exact h5 (by rw [z.1]; exact h))], fun _ _ _ _ _ => rfl⟩
theorem eFr_J {σ : SG} {a k : Nat} {x : Int64} : eFr σ (sgPJ σ a k x) := ⟨fun _ _ => ⟨rfl, rfl⟩, fun _ _ _ _ _ => rfl, fun _ _ _ _ _ => rfl⟩
/-- into an array that is new -/
theorem eFr_nw {σ0 σ : SG} {a k : Nat} {x : Int32} (h : eFr σ0 σ) (ha : sgT σ0 a = 0) : eFr σ0 (sgPI σ a k x) := ⟨h.1, fun b j h0 h5 h20 => by rw [sgI_PI, if_neg (fun z => h0 (by rw [z.1]; exact ha))]; exact h.2.1 b j h0 h5 h20, h.2.2⟩
theorem end_38 {D : va_G} {cy : Nat → ClassId} {s : State} {σ0 σ : SG} {H : Heap} {locs : List Loc} {N n a : Nat} {x : Int32} {y : Int64} (_hB : sgB D cy s σ0 (sgPJ (sgPI σ a 17 x) a 18 y) H locs N n) (ha : sgT σ a = 20) (l : Nat) : sgSz (sgPJ (sgPI σ a 17 x) a 18 y) l = sgSz σ l ∧ eFr σ (sgPJ (sgPI σ a 17 x) a 18 y) := ⟨sgSz_nk (a := a) (k := 17) (by decide), eFr_tr (eFr_A (Or.inl ha)) eFr_J⟩
theorem inv_LqQt {eda n S hw : Nat} {ia : Nat → Nat} {K : KM} {g : GH} {σ σ2 : SG} (h : Inv eda ia K g n S hw σ) (hq : sgQt σ σ2) (he : sgT σ2 eda = 0) : sgLq iX σ σ2 := (sgLS_fr (inv_LS h) (fun a ha => ⟨(hq.1 a ha).1, (hq.1 a ha).2.1⟩) (fun a z => by rcases hq.2 a z with q | q | q | q | q <;> exact ⟨by rw [q]; decide, by rw [q]; decide⟩) he (fun a ha => ⟨((hq.1 a (by rw [ha]; decide)).2.2 1).2.1, ((hq.1 a (by rw [ha]; decide)).2.2 2).1⟩) (fun a j ha => ((hq.1 a (by rw [ha]; decide)).2.2 j).2.1)).2
theorem eFr_0 {σ σ2 : SG} (h : eFr σ σ2) {a t : Nat} (h1 : sgT σ a = t) (h0 : t ≠ 0) : sgT σ2 a = t := tFr_T h.1 h1 h0
theorem dX14_plug_0 : decode cX14_plug 0 = .ok (.aload_n 0, 1) := by decide +kernel
theorem dX14_plug_1 : decode cX14_plug 1 = .ok (.aload_n 0, 1) := by decide +kernel
theorem dX14_plug_2 : decode cX14_plug 2 = .ok (.iload_n 1, 1) := by decide +kernel
theorem dX14_plug_3 : decode cX14_plug 3 = .ok (.invokevirtual 72, 3) := by decide +kernel
theorem dX14_plug_6 : decode cX14_plug 6 = .ok (.ifCond .eq 35, 3) := by decide +kernel
theorem dX14_plug_9 : decode cX14_plug 9 = .ok (.aload_n 0, 1) := by decide +kernel
theorem dX14_plug_10 : decode cX14_plug 10 = .ok (.iload_n 2, 1) := by decide +kernel
theorem dX14_plug_11 : decode cX14_plug 11 = .ok (.invokevirtual 72, 3) := by decide +kernel
theorem dX14_plug_14 : decode cX14_plug 14 = .ok (.ifCond .eq 27, 3) := by decide +kernel
theorem dX14_plug_17 : decode cX14_plug 17 = .ok (.iload_n 3, 1) := by decide +kernel
theorem dX14_plug_18 : decode cX14_plug 18 = .ok (.iconst 0, 1) := by decide +kernel
theorem dX14_plug_19 : decode cX14_plug 19 = .ok (.aload_n 0, 1) := by decide +kernel
theorem dX14_plug_20 : decode cX14_plug 20 = .ok (.getfield 10, 3) := by decide +kernel
theorem dX14_plug_23 : decode cX14_plug 23 = .ok (.iload_n 2, 1) := by decide +kernel
theorem dX14_plug_24 : decode cX14_plug 24 = .ok (.invokevirtual 76, 3) := by decide +kernel
theorem dX14_plug_27 : decode cX14_plug 27 = .ok (.checkcast 48, 3) := by decide +kernel
theorem dX14_plug_30 : decode cX14_plug 30 = .ok (.getfield 105, 3) := by decide +kernel
theorem dX14_plug_33 : decode cX14_plug 33 = .ok (.iconst 1, 1) := by decide +kernel
theorem dX14_plug_34 : decode cX14_plug 34 = .ok (.isub, 1) := by decide +kernel
theorem dX14_plug_35 : decode cX14_plug 35 = .ok (.invokestatic 68, 3) := by decide +kernel
theorem dX14_plug_38 : decode cX14_plug 38 = .ok (.ifCond .ne 7, 3) := by decide +kernel
theorem dX14_plug_41 : decode cX14_plug 41 = .ok (.iconst 1, 1) := by decide +kernel
theorem dX14_plug_42 : decode cX14_plug 42 = .ok (.goto 4, 3) := by decide +kernel
theorem dX14_plug_45 : decode cX14_plug 45 = .ok (.iconst 0, 1) := by decide +kernel
theorem dX14_plug_46 : decode cX14_plug 46 = .ok (.putfield 61, 3) := by decide +kernel
theorem dX14_plug_49 : decode cX14_plug 49 = .ok (.aload_n 0, 1) := by decide +kernel
theorem dX14_plug_50 : decode cX14_plug 50 = .ok (.getfield 61, 3) := by decide +kernel
theorem dX14_plug_53 : decode cX14_plug 53 = .ok (.ifCond .le 5, 3) := by decide +kernel
theorem dX14_plug_56 : decode cX14_plug 56 = .ok (.iconst 0, 1) := by decide +kernel
theorem dX14_plug_57 : decode cX14_plug 57 = .ok (.ireturn, 1) := by decide +kernel
theorem dX14_plug_58 : decode cX14_plug 58 = .ok (.iconst 0, 1) := by decide +kernel
theorem dX14_plug_59 : decode cX14_plug 59 = .ok (.istore 4, 2) := by decide +kernel
theorem dX14_plug_61 : decode cX14_plug 61 = .ok (.aload_n 0, 1) := by decide +kernel
theorem dX14_plug_62 : decode cX14_plug 62 = .ok (.getfield 10, 3) := by decide +kernel
theorem dX14_plug_65 : decode cX14_plug 65 = .ok (.invokevirtual 108, 3) := by decide +kernel
theorem dX14_plug_68 : decode cX14_plug 68 = .ok (.astore 5, 2) := by decide +kernel
theorem dX14_plug_70 : decode cX14_plug 70 = .ok (.aload 5, 2) := by decide +kernel
theorem dX14_plug_72 : decode cX14_plug 72 = .ok (.invokeinterface 112 1, 5) := by decide +kernel
theorem dX14_plug_77 : decode cX14_plug 77 = .ok (.ifCond .eq 48, 3) := by decide +kernel
theorem dX14_plug_80 : decode cX14_plug 80 = .ok (.aload 5, 2) := by decide +kernel
theorem dX14_plug_82 : decode cX14_plug 82 = .ok (.invokeinterface 118 1, 5) := by decide +kernel
theorem dX14_plug_87 : decode cX14_plug 87 = .ok (.checkcast 48, 3) := by decide +kernel
theorem dX14_plug_90 : decode cX14_plug 90 = .ok (.astore 6, 2) := by decide +kernel
theorem dX14_plug_92 : decode cX14_plug 92 = .ok (.iload 4, 2) := by decide +kernel
theorem dX14_plug_94 : decode cX14_plug 94 = .ok (.ifCond .ne 21, 3) := by decide +kernel
theorem dX14_plug_97 : decode cX14_plug 97 = .ok (.aload 6, 2) := by decide +kernel
theorem dX14_plug_99 : decode cX14_plug 99 = .ok (.getfield 80, 3) := by decide +kernel
theorem dX14_plug_102 : decode cX14_plug 102 = .ok (.iload_n 2, 1) := by decide +kernel
theorem dX14_plug_103 : decode cX14_plug 103 = .ok (.if_icmp .ne 16, 3) := by decide +kernel
theorem dX14_plug_106 : decode cX14_plug 106 = .ok (.aload 6, 2) := by decide +kernel
theorem dX14_plug_108 : decode cX14_plug 108 = .ok (.getfield 122, 3) := by decide +kernel
theorem dX14_plug_111 : decode cX14_plug 111 = .ok (.iload_n 3, 1) := by decide +kernel
theorem dX14_plug_112 : decode cX14_plug 112 = .ok (.if_icmp .ne 7, 3) := by decide +kernel
theorem dX14_plug_115 : decode cX14_plug 115 = .ok (.iconst 1, 1) := by decide +kernel
theorem dX14_plug_116 : decode cX14_plug 116 = .ok (.goto 4, 3) := by decide +kernel
theorem dX14_plug_119 : decode cX14_plug 119 = .ok (.iconst 0, 1) := by decide +kernel
theorem dX14_plug_120 : decode cX14_plug 120 = .ok (.istore 4, 2) := by decide +kernel
theorem dX14_plug_122 : decode cX14_plug 122 = .ok (.goto (-52), 3) := by decide +kernel
theorem dX14_plug_125 : decode cX14_plug 125 = .ok (.aload_n 0, 1) := by decide +kernel
theorem dX14_plug_126 : decode cX14_plug 126 = .ok (.getfield 10, 3) := by decide +kernel
theorem dX14_plug_129 : decode cX14_plug 129 = .ok (.iload_n 2, 1) := by decide +kernel
theorem dX14_plug_130 : decode cX14_plug 130 = .ok (.invokevirtual 76, 3) := by decide +kernel
theorem dX14_plug_133 : decode cX14_plug 133 = .ok (.checkcast 48, 3) := by decide +kernel
theorem dX14_plug_136 : decode cX14_plug 136 = .ok (.getfield 53, 3) := by decide +kernel
theorem dX14_plug_139 : decode cX14_plug 139 = .ok (.istore 5, 2) := by decide +kernel
theorem dX14_plug_141 : decode cX14_plug 141 = .ok (.iload 5, 2) := by decide +kernel
theorem dX14_plug_143 : decode cX14_plug 143 = .ok (.bipush 117, 2) := by decide +kernel
theorem dX14_plug_145 : decode cX14_plug 145 = .ok (.if_icmp .eq 17, 3) := by decide +kernel
theorem dX14_plug_148 : decode cX14_plug 148 = .ok (.iload 5, 2) := by decide +kernel
theorem dX14_plug_150 : decode cX14_plug 150 = .ok (.bipush 115, 2) := by decide +kernel
theorem dX14_plug_152 : decode cX14_plug 152 = .ok (.if_icmp .eq 10, 3) := by decide +kernel
theorem dX14_plug_155 : decode cX14_plug 155 = .ok (.iload 5, 2) := by decide +kernel
theorem dX14_plug_157 : decode cX14_plug 157 = .ok (.bipush 120, 2) := by decide +kernel
theorem dX14_plug_159 : decode cX14_plug 159 = .ok (.if_icmp .ne 7, 3) := by decide +kernel
theorem dX14_plug_162 : decode cX14_plug 162 = .ok (.iconst 1, 1) := by decide +kernel
theorem dX14_plug_163 : decode cX14_plug 163 = .ok (.goto 4, 3) := by decide +kernel
theorem dX14_plug_166 : decode cX14_plug 166 = .ok (.iconst 0, 1) := by decide +kernel
theorem dX14_plug_167 : decode cX14_plug 167 = .ok (.istore 6, 2) := by decide +kernel
theorem dX14_plug_169 : decode cX14_plug 169 = .ok (.aload_n 0, 1) := by decide +kernel
theorem dX14_plug_170 : decode cX14_plug 170 = .ok (.aload_n 0, 1) := by decide +kernel
theorem dX14_plug_171 : decode cX14_plug 171 = .ok (.iload_n 1, 1) := by decide +kernel
theorem dX14_plug_172 : decode cX14_plug 172 = .ok (.invokevirtual 93, 3) := by decide +kernel
theorem dX14_plug_175 : decode cX14_plug 175 = .ok (.ifCond .ne 22, 3) := by decide +kernel
theorem dX14_plug_178 : decode cX14_plug 178 = .ok (.iload 6, 2) := by decide +kernel
theorem dX14_plug_180 : decode cX14_plug 180 = .ok (.ifCond .ne 17, 3) := by decide +kernel
theorem dX14_plug_183 : decode cX14_plug 183 = .ok (.iload 4, 2) := by decide +kernel
theorem dX14_plug_185 : decode cX14_plug 185 = .ok (.ifCond .ne 12, 3) := by decide +kernel
theorem dX14_plug_188 : decode cX14_plug 188 = .ok (.aload_n 0, 1) := by decide +kernel
theorem dX14_plug_189 : decode cX14_plug 189 = .ok (.iload_n 2, 1) := by decide +kernel
theorem dX14_plug_190 : decode cX14_plug 190 = .ok (.invokevirtual 125, 3) := by decide +kernel
theorem dX14_plug_193 : decode cX14_plug 193 = .ok (.iconst 5, 1) := by decide +kernel
theorem dX14_plug_194 : decode cX14_plug 194 = .ok (.if_icmp .ne 7, 3) := by decide +kernel
theorem dX14_plug_197 : decode cX14_plug 197 = .ok (.iconst 2, 1) := by decide +kernel
theorem dX14_plug_198 : decode cX14_plug 198 = .ok (.goto 4, 3) := by decide +kernel
theorem dX14_plug_201 : decode cX14_plug 201 = .ok (.iconst 0, 1) := by decide +kernel
theorem dX14_plug_202 : decode cX14_plug 202 = .ok (.putfield 61, 3) := by decide +kernel
theorem dX14_plug_205 : decode cX14_plug 205 = .ok (.aload_n 0, 1) := by decide +kernel
theorem dX14_plug_206 : decode cX14_plug 206 = .ok (.getfield 61, 3) := by decide +kernel
theorem dX14_plug_209 : decode cX14_plug 209 = .ok (.ifCond .le 5, 3) := by decide +kernel
theorem dX14_plug_212 : decode cX14_plug 212 = .ok (.iconst 0, 1) := by decide +kernel
theorem dX14_plug_213 : decode cX14_plug 213 = .ok (.ireturn, 1) := by decide +kernel
theorem dX14_plug_214 : decode cX14_plug 214 = .ok (.aload_n 0, 1) := by decide +kernel
theorem dX14_plug_215 : decode cX14_plug 215 = .ok (.getfield 10, 3) := by decide +kernel
theorem dX14_plug_218 : decode cX14_plug 218 = .ok (.iload_n 1, 1) := by decide +kernel
theorem dX14_plug_219 : decode cX14_plug 219 = .ok (.invokevirtual 76, 3) := by decide +kernel
theorem dX14_plug_222 : decode cX14_plug 222 = .ok (.checkcast 48, 3) := by decide +kernel
theorem dX14_plug_225 : decode cX14_plug 225 = .ok (.astore 7, 2) := by decide +kernel
theorem dX14_plug_227 : decode cX14_plug 227 = .ok (.aload 7, 2) := by decide +kernel
theorem dX14_plug_229 : decode cX14_plug 229 = .ok (.iload_n 2, 1) := by decide +kernel
theorem dX14_plug_230 : decode cX14_plug 230 = .ok (.putfield 80, 3) := by decide +kernel
theorem dX14_plug_233 : decode cX14_plug 233 = .ok (.aload 7, 2) := by decide +kernel
theorem dX14_plug_235 : decode cX14_plug 235 = .ok (.iload_n 3, 1) := by decide +kernel
theorem dX14_plug_236 : decode cX14_plug 236 = .ok (.putfield 122, 3) := by decide +kernel
theorem dX14_plug_239 : decode cX14_plug 239 = .ok (.aload 7, 2) := by decide +kernel
theorem dX14_plug_241 : decode cX14_plug 241 = .ok (.bipush 110, 2) := by decide +kernel
theorem dX14_plug_243 : decode cX14_plug 243 = .ok (.putfield 53, 3) := by decide +kernel
theorem dX14_plug_246 : decode cX14_plug 246 = .ok (.aload_n 0, 1) := by decide +kernel
theorem dX14_plug_247 : decode cX14_plug 247 = .ok (.iload_n 1, 1) := by decide +kernel
theorem dX14_plug_248 : decode cX14_plug 248 = .ok (.invokevirtual 125, 3) := by decide +kernel
theorem dX14_plug_251 : decode cX14_plug 251 = .ok (.ireturn, 1) := by decide +kernel
set_option maxRecDepth 100000 in
set_option maxHeartbeats 4000000 in
theorem m_plug (l : Launch) (D : va_G) (cy : Nat → ClassId) {eda ca : Nat} {ia : Nat → Nat} {σ : SG} {K : KM} {g : GH} {n S hw : Nat} (h : Inv eda ia K g n S hw σ) (hY : nY g) (x y z : Int32) (sz : Nat) : sgM l D cy eda ca ia σ sz yX14_plug (Cond.code yX14_plug cX14_plug 8 (some .int) :: mWall) 4 87 1 4 [.ref (kA K), .int x, .int y, .int z] (fun v σ2 => (∃ y : Int32, v = some (.int y)) ∧ Inv eda ia K g n S hw σ2) := by
  refine sg_ofW (cc := cX14_plug) (maxL := 8) (ret := (some .int)) (by decide) rfl (Nat.le_of_ble_eq_true rfl) (lv := [(0, .ref (kA K)), (1, .int x), (2, .int y), (3, .int z)]) rfl (fun p e s m below meth c ls H N hrt hnm F hB hl => ?_) sz
  have hx := F.1.1
  have hb := F.1.2.1
  have hown := F.1.2.2.2.1
  obtain ⟨z1, z2, z3⟩ := inv_sz h
  generalize hlo : ([] : List Loc) = locs at hB ⊢
  clear hlo
  refine lv_aload_n hx hb dX14_plug_0 rfl (lv_at hl 0 rfl) ?_
  refine lv_aload_n hx hb dX14_plug_1 rfl (lv_at hl 0 rfl) ?_
  refine lv_iload_n hx hb dX14_plug_2 rfl (lv_at hl 1 rfl) ?_
  refine sg_callV (ci := 19) F hB (m_isDevice l D cy h x _) (cwV 1 F.1.2.2.2.2 (mgV (mm_3 _ (List.mem_of_getElem? (i := 25) rfl)) (mm_3 _ (List.mem_of_getElem? (i := 26) rfl)) (mm_3 _ (List.mem_of_getElem? (i := 27) rfl)) (mm_3 _ (List.mem_of_getElem? (i := 23) rfl)) (mm_3 _ (List.mem_of_getElem? (i := 17) rfl))) rfl rfl rfl ⟨rfl, by decide, by decide, by decide +kernel⟩ ⟨Nat.le_of_ble_eq_true rfl, Nat.le_of_ble_eq_true rfl⟩) rfl rfl (by decide) rfl hl.1 rfl (Nat.le_of_ble_eq_true rfl) dX14_plug_3 (Nat.le_of_ble_eq_true rfl) (Nat.add_le_add_right (Nat.le_of_ble_eq_true rfl) _) (inv_A h) (fun H locs v σ3 N hBn hX3 hP => ?_)
  clear hB; have hB := hBn; clear hBn
  obtain ⟨b3, rfl, rfl, hb3⟩ := hP
  refine lv_if_eq (tgt := 41) hx hb dX14_plug_6 (by decide) (fun c6 => ?_) (fun c6 => ?_)
  · refine lv_iconst (v := 1) hx hb dX14_plug_41 (by decide) ?_
    refine lv_goto (tgt := 46) hx hb dX14_plug_42 (by decide) ?_
    refine pf_X14_61 F hB dX14_plug_46 (inv_A h) (fun H locs hBn => ?_)
    clear hB; have hB := hBn; clear hBn
    have hI46 := inv_PIc (t := 20) hB h (inv_A h) (by unfold iCn; omega)
    refine lv_aload_n hx hb dX14_plug_49 rfl (lv_at hl 0 rfl) ?_
    refine gf_X14_61 F hB dX14_plug_50 (inv_A hI46) ?_
    rw [sgI_PI, if_pos ⟨rfl, rfl⟩]
    refine lv_if_le (tgt := 58) hx hb dX14_plug_53 (by decide) (fun c53 => (by first | exact absurd c53 (by decide) | exact (c53 (by decide)).elim)) (fun c53 => ?_)
    refine lv_iconst (v := 0) hx hb dX14_plug_56 (by decide) ?_
    exact sg_iret F hB hrt dX14_plug_57 (by decide) (by decide) (⟨⟨_, rfl⟩, hI46⟩)
  · refine lv_aload_n hx hb dX14_plug_9 rfl (lv_at hl 0 rfl) ?_
    refine lv_iload_n hx hb dX14_plug_10 rfl (lv_at hl 2 rfl) ?_
    refine sg_callV (ci := 19) F hB (m_isDevice l D cy h y _) (cwV 1 F.1.2.2.2.2 (mgV (mm_3 _ (List.mem_of_getElem? (i := 25) rfl)) (mm_3 _ (List.mem_of_getElem? (i := 26) rfl)) (mm_3 _ (List.mem_of_getElem? (i := 27) rfl)) (mm_3 _ (List.mem_of_getElem? (i := 23) rfl)) (mm_3 _ (List.mem_of_getElem? (i := 17) rfl))) rfl rfl rfl ⟨rfl, by decide, by decide, by decide +kernel⟩ ⟨Nat.le_of_ble_eq_true rfl, Nat.le_of_ble_eq_true rfl⟩) rfl rfl (by decide) rfl hl.1 rfl (Nat.le_of_ble_eq_true rfl) dX14_plug_11 (Nat.le_of_ble_eq_true rfl) (Nat.add_le_add_right (Nat.le_of_ble_eq_true rfl) _) (inv_A h) (fun H locs v σ11 N hBn hX11 hP => ?_)
    clear hB; have hB := hBn; clear hBn
    obtain ⟨b11, rfl, rfl, hb11⟩ := hP
    refine lv_if_eq (tgt := 41) hx hb dX14_plug_14 (by decide) (fun c14 => ?_) (fun c14 => ?_)
    · refine lv_iconst (v := 1) hx hb dX14_plug_41 (by decide) ?_
      refine lv_goto (tgt := 46) hx hb dX14_plug_42 (by decide) ?_
      refine pf_X14_61 F hB dX14_plug_46 (inv_A h) (fun H locs hBn => ?_)
      clear hB; have hB := hBn; clear hBn
      have hI46 := inv_PIc (t := 20) hB h (inv_A h) (by unfold iCn; omega)
      refine lv_aload_n hx hb dX14_plug_49 rfl (lv_at hl 0 rfl) ?_
      refine gf_X14_61 F hB dX14_plug_50 (inv_A hI46) ?_
      rw [sgI_PI, if_pos ⟨rfl, rfl⟩]
      refine lv_if_le (tgt := 58) hx hb dX14_plug_53 (by decide) (fun c53 => (by first | exact absurd c53 (by decide) | exact (c53 (by decide)).elim)) (fun c53 => ?_)
      refine lv_iconst (v := 0) hx hb dX14_plug_56 (by decide) ?_
      exact sg_iret F hB hrt dX14_plug_57 (by decide) (by decide) (⟨⟨_, rfl⟩, hI46⟩)
    · have hx5 : 0 ≤ x.toInt ∧ x.toInt < n := sgb_t hb3 c6
      have hy5 : 0 ≤ y.toInt ∧ y.toInt < n := sgb_t hb11 c14
      refine lv_iload_n hx hb dX14_plug_17 rfl (lv_at hl 3 rfl) ?_
      refine lv_iconst (v := 0) hx hb dX14_plug_18 (by decide) ?_
      refine lv_aload_n hx hb dX14_plug_19 rfl (lv_at hl 0 rfl) ?_
      refine gr_X14_10 F hB dX14_plug_20 (inv_A h) (inv_r1 h) ?_
      refine lv_iload_n hx hb dX14_plug_23 rfl (lv_at hl 2 rfl) ?_
      refine sg_callV (ci := 4) F hB (m_getD l D cy h y (by omega) (by omega) _) (cwV 1 F.1.2.2.2.2 (mgV (mm_4 _ (List.mem_of_getElem? (i := 3) rfl)) (mm_4 _ (List.mem_of_getElem? (i := 4) rfl)) (mm_4 _ (List.mem_of_getElem? (i := 5) rfl)) (mm_0 _ (List.mem_of_getElem? (i := 35) rfl)) (mm_3 _ (List.mem_of_getElem? (i := 34) rfl))) rfl rfl rfl ⟨rfl, by decide, by decide, by decide +kernel⟩ ⟨Nat.le_of_ble_eq_true rfl, Nat.le_of_ble_eq_true rfl⟩) rfl rfl (by decide) rfl hl.1 rfl (Nat.le_of_ble_eq_true rfl) dX14_plug_24 (Nat.le_of_ble_eq_true rfl) (Nat.add_le_add_right (Nat.le_of_ble_eq_true rfl) _) (inv_tD h).1 (fun H locs v σ24 N hBn hX24 hP => ?_)
      clear hB; have hB := hBn; clear hBn
      obtain ⟨rfl, rfl⟩ := hP
      have dv24 := (inv_dv h (k := (y : Int32).toInt.toNat) (by omega)).2.1
      refine va_castY hx hb hown (F.1.2.2.2.2 _ (List.mem_cons_of_mem _ (mm_4 _ (List.mem_of_getElem? (i := 2) rfl)))) (F.2.2.1.2.2 ("HubcascadeModel$Device", "HubcascadeModel$Device") (by decide +kernel)) (sg_recv (ci := 15) F.2.1 hB (by assumption) (by decide) rfl) dX14_plug_27 ?_
      refine gf_X14_105 F hB dX14_plug_30 (by assumption) ?_
      refine lv_iconst (v := 1) hx hb dX14_plug_33 (by decide) ?_
      refine lv_isub hx hb dX14_plug_34 ?_
      refine sg_callS F hB (m_in l D cy z 0 _ _) (cwS 3 F.1.2.2.2.2 (mgS (mm_3 _ (List.mem_of_getElem? (i := 21) rfl)) (mm_3 _ (List.mem_of_getElem? (i := 22) rfl)) (mm_3 _ (List.mem_of_getElem? (i := 23) rfl)) (mm_1 _ (List.mem_of_getElem? (i := 19) rfl))) rfl rfl rfl ⟨rfl, by decide, by decide, by decide +kernel⟩ ⟨Nat.le_of_ble_eq_true rfl, Nat.le_of_ble_eq_true rfl⟩) rfl hl.1 rfl (Nat.le_of_ble_eq_true rfl) dX14_plug_35 (Nat.le_of_ble_eq_true rfl) (Nat.add_le_add_right (Nat.le_of_ble_eq_true rfl) _)  (fun H locs v σ35 N hBn hX35 hP => ?_)
      clear hB; have hB := hBn; clear hBn
      obtain ⟨b35, rfl, rfl, hb35⟩ := hP
      refine lv_if_ne (tgt := 45) hx hb dX14_plug_38 (by decide) (fun c38 => ?_) (fun c38 => ?_)
      · refine lv_iconst (v := 0) hx hb dX14_plug_45 (by decide) ?_
        refine pf_X14_61 F hB dX14_plug_46 (inv_A h) (fun H locs hBn => ?_)
        clear hB; have hB := hBn; clear hBn
        have hI46 := inv_PIc (t := 20) hB h (inv_A h) (by unfold iCn; omega)
        refine lv_aload_n hx hb dX14_plug_49 rfl (lv_at hl 0 rfl) ?_
        refine gf_X14_61 F hB dX14_plug_50 (inv_A hI46) ?_
        rw [sgI_PI, if_pos ⟨rfl, rfl⟩]
        refine lv_if_le (tgt := 58) hx hb dX14_plug_53 (by decide) (fun c53 => ?_) (fun c53 => (by first | exact absurd c53 (by decide) | exact (c53 (by decide)).elim))
        refine lv_iconst (v := 0) hx hb dX14_plug_58 (by decide) ?_
        refine lv_istore (lv' := [(4, .int _), (0, .ref _), (1, .int _), (2, .int _), (3, .int _)]) hx hb dX14_plug_59 hl (by decide) rfl (fun ls hl => ?_)
        refine lv_aload_n hx hb dX14_plug_61 rfl (lv_at hl 1 rfl) ?_
        refine gr_X14_10 F hB dX14_plug_62 (inv_A hI46) (inv_r1 hI46) ?_
        refine sg_callV (ci := 4) F hB (m_iter l D cy (by exact (inv_tD hI46).1) _) (cwV 0 F.1.2.2.2.2 (mgV (mm_5 _ (List.mem_of_getElem? (i := 6) rfl)) (mm_5 _ (List.mem_of_getElem? (i := 7) rfl)) (mm_5 _ (List.mem_of_getElem? (i := 8) rfl)) (mm_0 _ (List.mem_of_getElem? (i := 35) rfl)) (mm_4 _ (List.mem_of_getElem? (i := 32) rfl))) rfl rfl rfl ⟨rfl, by decide, by decide, by decide +kernel⟩ ⟨Nat.le_of_ble_eq_true rfl, Nat.le_of_ble_eq_true rfl⟩) rfl rfl (by decide) rfl hl.1 rfl (Nat.le_of_ble_eq_true rfl) dX14_plug_65 (Nat.le_of_ble_eq_true rfl) (Nat.add_le_add_right (Nat.le_of_ble_eq_true rfl) _) (inv_tD hI46).1 (fun H locs v σ65 N hBn hX65 hP => ?_)
        clear hB; have hB := hBn; clear hBn
        obtain ⟨q65, rfl, hq65, hit65⟩ := hP
        have hI65 := inv_Qt hI46 hit65.1 (sg_eda F hB)
        have hf65 := itF_0 (inv_tD hI46).1 hit65
        refine lv_astore (lv' := [(5, .ref _), (4, .int _), (0, .ref _), (1, .int _), (2, .int _), (3, .int _)]) hx hb dX14_plug_68 hl (by decide) rfl (fun ls hl => ?_)
        have key70 : ∃ (σ3 : SG) (j : Nat) (b9 : Int32), sgB D cy s σ σ3 H locs N 4 ∧ lv_has ls 8 [(5, .ref q65), (4, .int b9), (3, .int z), (2, .int y), (1, .int x), (0, .ref (kA K))] ∧ Inv eda ia K g n S hw σ3 ∧ itF (kD K) q65 j σ3 := ⟨_, 0, _, hB, (lv_sub hl [0, 1, 5, 4, 3, 2] rfl), hI65, hf65⟩
        clear hB hl
        obtain ⟨σ3, j, b9, hB, hl, hI3, hf3⟩ := key70
        obtain ⟨d70, hd70⟩ : ∃ d : Nat, d = sgSz σ3 (kD K) - j := ⟨_, rfl⟩
        induction d70 using Nat.strongRecOn generalizing H locs ls N σ3 j b9
        rename_i d70 ih70
        refine lv_aload hx hb dX14_plug_70 (lv_at hl 0 rfl) ?_
        refine sg_callF (ci := 3) F hB (m_hasN l D cy hI3 hf3 _) (va_cwF 0 F.1.2.2.2.2 (mgF (mm_5 _ (List.mem_of_getElem? (i := 9) rfl)) (mm_5 _ (List.mem_of_getElem? (i := 10) rfl)) (mm_5 _ (List.mem_of_getElem? (i := 11) rfl)) (mm_4 _ (List.mem_of_getElem? (i := 35) rfl)) (mm_4 _ (List.mem_of_getElem? (i := 38) rfl))) rfl rfl rfl F.2.2.2.1.2.2.2.2.2.2.1 (by decide +kernel) ⟨Nat.le_of_ble_eq_true rfl, Nat.le_of_ble_eq_true rfl⟩) rfl rfl (by decide) rfl hl.1 rfl (Nat.le_of_ble_eq_true rfl) dX14_plug_72 (Nat.le_of_ble_eq_true rfl) (Nat.add_le_add_right (Nat.le_of_ble_eq_true rfl) _) hf3.1 (fun H locs v σ72 N hBn hX72 hP => ?_)
        clear hB; have hB := hBn; clear hBn
        obtain ⟨b72, rfl, rfl, hb72⟩ := hP
        refine lv_if_eq (tgt := 125) hx hb dX14_plug_77 (by decide) (fun c77 => ?_) (fun c77 => ?_)
        · refine lv_aload_n hx hb dX14_plug_125 rfl (lv_at hl 5 rfl) ?_
          refine gr_X14_10 F hB dX14_plug_126 (inv_A hI3) (inv_r1 hI3) ?_
          refine lv_iload_n hx hb dX14_plug_129 rfl (lv_at hl 3 rfl) ?_
          refine sg_callV (ci := 4) F hB (m_getD l D cy hI3 y (by omega) (by omega) _) (cwV 1 F.1.2.2.2.2 (mgV (mm_4 _ (List.mem_of_getElem? (i := 3) rfl)) (mm_4 _ (List.mem_of_getElem? (i := 4) rfl)) (mm_4 _ (List.mem_of_getElem? (i := 5) rfl)) (mm_0 _ (List.mem_of_getElem? (i := 35) rfl)) (mm_3 _ (List.mem_of_getElem? (i := 34) rfl))) rfl rfl rfl ⟨rfl, by decide, by decide, by decide +kernel⟩ ⟨Nat.le_of_ble_eq_true rfl, Nat.le_of_ble_eq_true rfl⟩) rfl rfl (by decide) rfl hl.1 rfl (Nat.le_of_ble_eq_true rfl) dX14_plug_130 (Nat.le_of_ble_eq_true rfl) (Nat.add_le_add_right (Nat.le_of_ble_eq_true rfl) _) (inv_tD hI3).1 (fun H locs v σ130 N hBn hX130 hP => ?_)
          clear hB; have hB := hBn; clear hBn
          obtain ⟨rfl, rfl⟩ := hP
          have dv130 := (inv_dv hI3 (k := (y : Int32).toInt.toNat) (by omega)).2.1
          refine va_castY hx hb hown (F.1.2.2.2.2 _ (List.mem_cons_of_mem _ (mm_4 _ (List.mem_of_getElem? (i := 2) rfl)))) (F.2.2.1.2.2 ("HubcascadeModel$Device", "HubcascadeModel$Device") (by decide +kernel)) (sg_recv (ci := 15) F.2.1 hB (by assumption) (by decide) rfl) dX14_plug_133 ?_
          refine gf_X14_53 F hB dX14_plug_136 (by assumption) ?_
          refine lv_istore (lv' := [(5, .int _), (4, .int _), (3, .int _), (2, .int _), (1, .int _), (0, .ref _)]) hx hb dX14_plug_139 hl (by decide) rfl (fun ls hl => ?_)
          refine lv_iload hx hb dX14_plug_141 (lv_at hl 0 rfl) ?_
          refine lv_bipush (v := 117) hx hb dX14_plug_143 (by decide) ?_
          refine lv_icmp_eq (tgt := 162) hx hb dX14_plug_145 (by decide) (fun c145 => ?_) (fun c145 => ?_)
          · refine lv_iconst (v := 1) hx hb dX14_plug_162 (by decide) ?_
            refine lv_goto (tgt := 167) hx hb dX14_plug_163 (by decide) ?_
            refine lv_istore (lv' := [(6, .int _), (5, .int _), (4, .int _), (3, .int _), (2, .int _), (1, .int _), (0, .ref _)]) hx hb dX14_plug_167 hl (by decide) rfl (fun ls hl => ?_)
            refine lv_aload_n hx hb dX14_plug_169 rfl (lv_at hl 6 rfl) ?_
            refine lv_aload_n hx hb dX14_plug_170 rfl (lv_at hl 6 rfl) ?_
            refine lv_iload_n hx hb dX14_plug_171 rfl (lv_at hl 5 rfl) ?_
            refine sg_callV (ci := 19) F hB (m_isPlugged l D cy hI3 x (by omega) (by omega) _) (cwV 1 F.1.2.2.2.2 (mgV (mm_4 _ (List.mem_of_getElem? (i := 20) rfl)) (mm_4 _ (List.mem_of_getElem? (i := 21) rfl)) (mm_4 _ (List.mem_of_getElem? (i := 22) rfl)) (mm_3 _ (List.mem_of_getElem? (i := 23) rfl)) (mm_4 _ (List.mem_of_getElem? (i := 6) rfl))) rfl rfl rfl ⟨rfl, by decide, by decide, by decide +kernel⟩ ⟨Nat.le_of_ble_eq_true rfl, Nat.le_of_ble_eq_true rfl⟩) rfl rfl (by decide) rfl hl.1 rfl (Nat.le_of_ble_eq_true rfl) dX14_plug_172 (Nat.le_of_ble_eq_true rfl) (Nat.add_le_add_right (Nat.le_of_ble_eq_true rfl) _) (inv_A hI3) (fun H locs v σ172 N hBn hX172 hP => ?_)
            clear hB; have hB := hBn; clear hBn
            obtain ⟨b172, rfl, rfl, hb172⟩ := hP
            refine lv_if_ne (tgt := 197) hx hb dX14_plug_175 (by decide) (fun c175 => ?_) (fun c175 => ?_)
            · refine lv_iconst (v := 2) hx hb dX14_plug_197 (by decide) ?_
              refine lv_goto (tgt := 202) hx hb dX14_plug_198 (by decide) ?_
              refine pf_X14_61 F hB dX14_plug_202 (inv_A hI3) (fun H locs hBn => ?_)
              clear hB; have hB := hBn; clear hBn
              have hI202 := inv_PIc (t := 20) hB hI3 (inv_A hI3) (by unfold iCn; omega)
              refine lv_aload_n hx hb dX14_plug_205 rfl (lv_at hl 6 rfl) ?_
              refine gf_X14_61 F hB dX14_plug_206 (inv_A hI202) ?_
              rw [sgI_PI, if_pos ⟨rfl, rfl⟩]
              refine lv_if_le (tgt := 214) hx hb dX14_plug_209 (by decide) (fun c209 => (by first | exact absurd c209 (by decide) | exact (c209 (by decide)).elim)) (fun c209 => ?_)
              refine lv_iconst (v := 0) hx hb dX14_plug_212 (by decide) ?_
              exact sg_iret F hB hrt dX14_plug_213 (by decide) (by decide) (⟨⟨_, rfl⟩, hI202⟩)
            · refine lv_iload hx hb dX14_plug_178 (lv_at hl 0 rfl) ?_
              refine lv_if_ne (tgt := 197) hx hb dX14_plug_180 (by decide) (fun c180 => ?_) (fun c180 => (by first | exact absurd c180 (by decide) | exact (c180 (by decide)).elim))
              refine lv_iconst (v := 2) hx hb dX14_plug_197 (by decide) ?_
              refine lv_goto (tgt := 202) hx hb dX14_plug_198 (by decide) ?_
              refine pf_X14_61 F hB dX14_plug_202 (inv_A hI3) (fun H locs hBn => ?_)
              clear hB; have hB := hBn; clear hBn
              have hI202 := inv_PIc (t := 20) hB hI3 (inv_A hI3) (by unfold iCn; omega)
              refine lv_aload_n hx hb dX14_plug_205 rfl (lv_at hl 6 rfl) ?_
              refine gf_X14_61 F hB dX14_plug_206 (inv_A hI202) ?_
              rw [sgI_PI, if_pos ⟨rfl, rfl⟩]
              refine lv_if_le (tgt := 214) hx hb dX14_plug_209 (by decide) (fun c209 => (by first | exact absurd c209 (by decide) | exact (c209 (by decide)).elim)) (fun c209 => ?_)
              refine lv_iconst (v := 0) hx hb dX14_plug_212 (by decide) ?_
              exact sg_iret F hB hrt dX14_plug_213 (by decide) (by decide) (⟨⟨_, rfl⟩, hI202⟩)
          · refine lv_iload hx hb dX14_plug_148 (lv_at hl 0 rfl) ?_
            refine lv_bipush (v := 115) hx hb dX14_plug_150 (by decide) ?_
            refine lv_icmp_eq (tgt := 162) hx hb dX14_plug_152 (by decide) (fun c152 => ?_) (fun c152 => ?_)
            · refine lv_iconst (v := 1) hx hb dX14_plug_162 (by decide) ?_
              refine lv_goto (tgt := 167) hx hb dX14_plug_163 (by decide) ?_
              refine lv_istore (lv' := [(6, .int _), (5, .int _), (4, .int _), (3, .int _), (2, .int _), (1, .int _), (0, .ref _)]) hx hb dX14_plug_167 hl (by decide) rfl (fun ls hl => ?_)
              refine lv_aload_n hx hb dX14_plug_169 rfl (lv_at hl 6 rfl) ?_
              refine lv_aload_n hx hb dX14_plug_170 rfl (lv_at hl 6 rfl) ?_
              refine lv_iload_n hx hb dX14_plug_171 rfl (lv_at hl 5 rfl) ?_
              refine sg_callV (ci := 19) F hB (m_isPlugged l D cy hI3 x (by omega) (by omega) _) (cwV 1 F.1.2.2.2.2 (mgV (mm_4 _ (List.mem_of_getElem? (i := 20) rfl)) (mm_4 _ (List.mem_of_getElem? (i := 21) rfl)) (mm_4 _ (List.mem_of_getElem? (i := 22) rfl)) (mm_3 _ (List.mem_of_getElem? (i := 23) rfl)) (mm_4 _ (List.mem_of_getElem? (i := 6) rfl))) rfl rfl rfl ⟨rfl, by decide, by decide, by decide +kernel⟩ ⟨Nat.le_of_ble_eq_true rfl, Nat.le_of_ble_eq_true rfl⟩) rfl rfl (by decide) rfl hl.1 rfl (Nat.le_of_ble_eq_true rfl) dX14_plug_172 (Nat.le_of_ble_eq_true rfl) (Nat.add_le_add_right (Nat.le_of_ble_eq_true rfl) _) (inv_A hI3) (fun H locs v σ172 N hBn hX172 hP => ?_)
              clear hB; have hB := hBn; clear hBn
              obtain ⟨b172, rfl, rfl, hb172⟩ := hP
              refine lv_if_ne (tgt := 197) hx hb dX14_plug_175 (by decide) (fun c175 => ?_) (fun c175 => ?_)
              · refine lv_iconst (v := 2) hx hb dX14_plug_197 (by decide) ?_
                refine lv_goto (tgt := 202) hx hb dX14_plug_198 (by decide) ?_
                refine pf_X14_61 F hB dX14_plug_202 (inv_A hI3) (fun H locs hBn => ?_)
                clear hB; have hB := hBn; clear hBn
                have hI202 := inv_PIc (t := 20) hB hI3 (inv_A hI3) (by unfold iCn; omega)
                refine lv_aload_n hx hb dX14_plug_205 rfl (lv_at hl 6 rfl) ?_
                refine gf_X14_61 F hB dX14_plug_206 (inv_A hI202) ?_
                rw [sgI_PI, if_pos ⟨rfl, rfl⟩]
                refine lv_if_le (tgt := 214) hx hb dX14_plug_209 (by decide) (fun c209 => (by first | exact absurd c209 (by decide) | exact (c209 (by decide)).elim)) (fun c209 => ?_)
                refine lv_iconst (v := 0) hx hb dX14_plug_212 (by decide) ?_
                exact sg_iret F hB hrt dX14_plug_213 (by decide) (by decide) (⟨⟨_, rfl⟩, hI202⟩)
              · refine lv_iload hx hb dX14_plug_178 (lv_at hl 0 rfl) ?_
                refine lv_if_ne (tgt := 197) hx hb dX14_plug_180 (by decide) (fun c180 => ?_) (fun c180 => (by first | exact absurd c180 (by decide) | exact (c180 (by decide)).elim))
                refine lv_iconst (v := 2) hx hb dX14_plug_197 (by decide) ?_
                refine lv_goto (tgt := 202) hx hb dX14_plug_198 (by decide) ?_
                refine pf_X14_61 F hB dX14_plug_202 (inv_A hI3) (fun H locs hBn => ?_)
                clear hB; have hB := hBn; clear hBn
                have hI202 := inv_PIc (t := 20) hB hI3 (inv_A hI3) (by unfold iCn; omega)
                refine lv_aload_n hx hb dX14_plug_205 rfl (lv_at hl 6 rfl) ?_
                refine gf_X14_61 F hB dX14_plug_206 (inv_A hI202) ?_
                rw [sgI_PI, if_pos ⟨rfl, rfl⟩]
                refine lv_if_le (tgt := 214) hx hb dX14_plug_209 (by decide) (fun c209 => (by first | exact absurd c209 (by decide) | exact (c209 (by decide)).elim)) (fun c209 => ?_)
                refine lv_iconst (v := 0) hx hb dX14_plug_212 (by decide) ?_
                exact sg_iret F hB hrt dX14_plug_213 (by decide) (by decide) (⟨⟨_, rfl⟩, hI202⟩)
            · refine lv_iload hx hb dX14_plug_155 (lv_at hl 0 rfl) ?_
              refine lv_bipush (v := 120) hx hb dX14_plug_157 (by decide) ?_
              refine lv_icmp_ne (tgt := 166) hx hb dX14_plug_159 (by decide) (fun c159 => ?_) (fun c159 => ?_)
              · refine lv_iconst (v := 0) hx hb dX14_plug_166 (by decide) ?_
                refine lv_istore (lv' := [(6, .int _), (5, .int _), (4, .int _), (3, .int _), (2, .int _), (1, .int _), (0, .ref _)]) hx hb dX14_plug_167 hl (by decide) rfl (fun ls hl => ?_)
                refine lv_aload_n hx hb dX14_plug_169 rfl (lv_at hl 6 rfl) ?_
                refine lv_aload_n hx hb dX14_plug_170 rfl (lv_at hl 6 rfl) ?_
                refine lv_iload_n hx hb dX14_plug_171 rfl (lv_at hl 5 rfl) ?_
                refine sg_callV (ci := 19) F hB (m_isPlugged l D cy hI3 x (by omega) (by omega) _) (cwV 1 F.1.2.2.2.2 (mgV (mm_4 _ (List.mem_of_getElem? (i := 20) rfl)) (mm_4 _ (List.mem_of_getElem? (i := 21) rfl)) (mm_4 _ (List.mem_of_getElem? (i := 22) rfl)) (mm_3 _ (List.mem_of_getElem? (i := 23) rfl)) (mm_4 _ (List.mem_of_getElem? (i := 6) rfl))) rfl rfl rfl ⟨rfl, by decide, by decide, by decide +kernel⟩ ⟨Nat.le_of_ble_eq_true rfl, Nat.le_of_ble_eq_true rfl⟩) rfl rfl (by decide) rfl hl.1 rfl (Nat.le_of_ble_eq_true rfl) dX14_plug_172 (Nat.le_of_ble_eq_true rfl) (Nat.add_le_add_right (Nat.le_of_ble_eq_true rfl) _) (inv_A hI3) (fun H locs v σ172 N hBn hX172 hP => ?_)
                clear hB; have hB := hBn; clear hBn
                obtain ⟨b172, rfl, rfl, hb172⟩ := hP
                refine lv_if_ne (tgt := 197) hx hb dX14_plug_175 (by decide) (fun c175 => ?_) (fun c175 => ?_)
                · refine lv_iconst (v := 2) hx hb dX14_plug_197 (by decide) ?_
                  refine lv_goto (tgt := 202) hx hb dX14_plug_198 (by decide) ?_
                  refine pf_X14_61 F hB dX14_plug_202 (inv_A hI3) (fun H locs hBn => ?_)
                  clear hB; have hB := hBn; clear hBn
                  have hI202 := inv_PIc (t := 20) hB hI3 (inv_A hI3) (by unfold iCn; omega)
                  refine lv_aload_n hx hb dX14_plug_205 rfl (lv_at hl 6 rfl) ?_
                  refine gf_X14_61 F hB dX14_plug_206 (inv_A hI202) ?_
                  rw [sgI_PI, if_pos ⟨rfl, rfl⟩]
                  refine lv_if_le (tgt := 214) hx hb dX14_plug_209 (by decide) (fun c209 => (by first | exact absurd c209 (by decide) | exact (c209 (by decide)).elim)) (fun c209 => ?_)
                  refine lv_iconst (v := 0) hx hb dX14_plug_212 (by decide) ?_
                  exact sg_iret F hB hrt dX14_plug_213 (by decide) (by decide) (⟨⟨_, rfl⟩, hI202⟩)
                · refine lv_iload hx hb dX14_plug_178 (lv_at hl 0 rfl) ?_
                  refine lv_if_ne (tgt := 197) hx hb dX14_plug_180 (by decide) (fun c180 => (by first | exact absurd c180 (by decide) | exact (c180 (by decide)).elim)) (fun c180 => ?_)
                  refine lv_iload hx hb dX14_plug_183 (lv_at hl 2 rfl) ?_
                  refine lv_if_ne (tgt := 197) hx hb dX14_plug_185 (by decide) (fun c185 => ?_) (fun c185 => ?_)
                  · refine lv_iconst (v := 2) hx hb dX14_plug_197 (by decide) ?_
                    refine lv_goto (tgt := 202) hx hb dX14_plug_198 (by decide) ?_
                    refine pf_X14_61 F hB dX14_plug_202 (inv_A hI3) (fun H locs hBn => ?_)
                    clear hB; have hB := hBn; clear hBn
                    have hI202 := inv_PIc (t := 20) hB hI3 (inv_A hI3) (by unfold iCn; omega)
                    refine lv_aload_n hx hb dX14_plug_205 rfl (lv_at hl 6 rfl) ?_
                    refine gf_X14_61 F hB dX14_plug_206 (inv_A hI202) ?_
                    rw [sgI_PI, if_pos ⟨rfl, rfl⟩]
                    refine lv_if_le (tgt := 214) hx hb dX14_plug_209 (by decide) (fun c209 => (by first | exact absurd c209 (by decide) | exact (c209 (by decide)).elim)) (fun c209 => ?_)
                    refine lv_iconst (v := 0) hx hb dX14_plug_212 (by decide) ?_
                    exact sg_iret F hB hrt dX14_plug_213 (by decide) (by decide) (⟨⟨_, rfl⟩, hI202⟩)
                  · refine lv_aload_n hx hb dX14_plug_188 rfl (lv_at hl 6 rfl) ?_
                    refine lv_iload_n hx hb dX14_plug_189 rfl (lv_at hl 4 rfl) ?_
                    refine sg_callV (ci := 19) F hB (m_depth l D cy hI3 y (by omega) (by omega) _) (cwV 1 F.1.2.2.2.2 (mgV (mm_5 _ (List.mem_of_getElem? (i := 15) rfl)) (mm_5 _ (List.mem_of_getElem? (i := 16) rfl)) (mm_5 _ (List.mem_of_getElem? (i := 17) rfl)) (mm_3 _ (List.mem_of_getElem? (i := 23) rfl)) (mm_4 _ (List.mem_of_getElem? (i := 1) rfl))) rfl rfl rfl ⟨rfl, by decide, by decide, by decide +kernel⟩ ⟨Nat.le_of_ble_eq_true rfl, Nat.le_of_ble_eq_true rfl⟩) rfl rfl (by decide) rfl hl.1 rfl (Nat.le_of_ble_eq_true rfl) dX14_plug_190 (Nat.le_of_ble_eq_true rfl) (Nat.add_le_add_right (Nat.le_of_ble_eq_true rfl) _) (inv_A hI3) (fun H locs v σ190 N hBn hX190 hP => ?_)
                    clear hB; have hB := hBn; clear hBn
                    obtain ⟨⟨y190, rfl⟩, rfl⟩ := hP
                    refine lv_iconst (v := 5) hx hb dX14_plug_193 (by decide) ?_
                    refine lv_icmp_ne (tgt := 201) hx hb dX14_plug_194 (by decide) (fun c194 => ?_) (fun c194 => ?_)
                    · refine lv_iconst (v := 0) hx hb dX14_plug_201 (by decide) ?_
                      refine pf_X14_61 F hB dX14_plug_202 (inv_A hI3) (fun H locs hBn => ?_)
                      clear hB; have hB := hBn; clear hBn
                      have hI202 := inv_PIc (t := 20) hB hI3 (inv_A hI3) (by unfold iCn; omega)
                      refine lv_aload_n hx hb dX14_plug_205 rfl (lv_at hl 6 rfl) ?_
                      refine gf_X14_61 F hB dX14_plug_206 (inv_A hI202) ?_
                      rw [sgI_PI, if_pos ⟨rfl, rfl⟩]
                      refine lv_if_le (tgt := 214) hx hb dX14_plug_209 (by decide) (fun c209 => ?_) (fun c209 => (by first | exact absurd c209 (by decide) | exact (c209 (by decide)).elim))
                      refine lv_aload_n hx hb dX14_plug_214 rfl (lv_at hl 6 rfl) ?_
                      refine gr_X14_10 F hB dX14_plug_215 (inv_A hI202) (inv_r1 hI202) ?_
                      refine lv_iload_n hx hb dX14_plug_218 rfl (lv_at hl 5 rfl) ?_
                      refine sg_callV (ci := 4) F hB (m_getD l D cy hI202 x (by omega) (by omega) _) (cwV 1 F.1.2.2.2.2 (mgV (mm_4 _ (List.mem_of_getElem? (i := 3) rfl)) (mm_4 _ (List.mem_of_getElem? (i := 4) rfl)) (mm_4 _ (List.mem_of_getElem? (i := 5) rfl)) (mm_0 _ (List.mem_of_getElem? (i := 35) rfl)) (mm_3 _ (List.mem_of_getElem? (i := 34) rfl))) rfl rfl rfl ⟨rfl, by decide, by decide, by decide +kernel⟩ ⟨Nat.le_of_ble_eq_true rfl, Nat.le_of_ble_eq_true rfl⟩) rfl rfl (by decide) rfl hl.1 rfl (Nat.le_of_ble_eq_true rfl) dX14_plug_219 (Nat.le_of_ble_eq_true rfl) (Nat.add_le_add_right (Nat.le_of_ble_eq_true rfl) _) (inv_tD hI202).1 (fun H locs v σ219 N hBn hX219 hP => ?_)
                      clear hB; have hB := hBn; clear hBn
                      obtain ⟨rfl, rfl⟩ := hP
                      have dv219 := (inv_dv hI202 (k := (x : Int32).toInt.toNat) (by omega)).2.1
                      refine va_castY hx hb hown (F.1.2.2.2.2 _ (List.mem_cons_of_mem _ (mm_4 _ (List.mem_of_getElem? (i := 2) rfl)))) (F.2.2.1.2.2 ("HubcascadeModel$Device", "HubcascadeModel$Device") (by decide +kernel)) (sg_recv (ci := 15) F.2.1 hB (by assumption) (by decide) rfl) dX14_plug_222 ?_
                      refine lv_astore (lv' := [(7, .ref _), (6, .int _), (5, .int _), (4, .int _), (3, .int _), (2, .int _), (1, .int _), (0, .ref _)]) hx hb dX14_plug_225 hl (by decide) rfl (fun ls hl => ?_)
                      refine lv_aload hx hb dX14_plug_227 (lv_at hl 0 rfl) ?_
                      refine lv_iload_n hx hb dX14_plug_229 rfl (lv_at hl 5 rfl) ?_
                      refine pf_X14_80 F hB dX14_plug_230 dv219 (fun H locs hBn => ?_)
                      clear hB; have hB := hBn; clear hBn
                      refine lv_aload hx hb dX14_plug_233 (lv_at hl 0 rfl) ?_
                      refine lv_iload_n hx hb dX14_plug_235 rfl (lv_at hl 4 rfl) ?_
                      refine pf_X14_122 F hB dX14_plug_236 (by exact dv219) (fun H locs hBn => ?_)
                      clear hB; have hB := hBn; clear hBn
                      refine lv_aload hx hb dX14_plug_239 (lv_at hl 0 rfl) ?_
                      refine lv_bipush (v := 110) hx hb dX14_plug_241 (by decide) ?_
                      refine pf_X14_53 F hB dX14_plug_243 (by exact dv219) ⟨by decide, by decide⟩ (fun H locs hBn => ?_)
                      clear hB; have hB := hBn; clear hBn
                      have hI243 := inv_plug (v := z) (w := y) hI202 hY (k := x.toInt.toNat) (hb := y.toInt.toNat) (by omega) (by omega) (by rw [iSt_th]; exact Classical.not_not.mp (sgb_f hb172 c175)) (by rw [iSt_th]; exact c145) (by omega)
                      refine lv_aload_n hx hb dX14_plug_246 rfl (lv_at hl 7 rfl) ?_
                      refine lv_iload_n hx hb dX14_plug_247 rfl (lv_at hl 6 rfl) ?_
                      refine sg_callV (ci := 19) F hB (m_depth l D cy hI243 x (by omega) (by omega) _) (cwV 1 F.1.2.2.2.2 (mgV (mm_5 _ (List.mem_of_getElem? (i := 15) rfl)) (mm_5 _ (List.mem_of_getElem? (i := 16) rfl)) (mm_5 _ (List.mem_of_getElem? (i := 17) rfl)) (mm_3 _ (List.mem_of_getElem? (i := 23) rfl)) (mm_4 _ (List.mem_of_getElem? (i := 1) rfl))) rfl rfl rfl ⟨rfl, by decide, by decide, by decide +kernel⟩ ⟨Nat.le_of_ble_eq_true rfl, Nat.le_of_ble_eq_true rfl⟩) rfl rfl (by decide) rfl hl.1 rfl (Nat.le_of_ble_eq_true rfl) dX14_plug_248 (Nat.le_of_ble_eq_true rfl) (Nat.add_le_add_right (Nat.le_of_ble_eq_true rfl) _) (inv_A hI243) (fun H locs v σ248 N hBn hX248 hP => ?_)
                      clear hB; have hB := hBn; clear hBn
                      obtain ⟨⟨y248, rfl⟩, rfl⟩ := hP
                      exact sg_iret F hB hrt dX14_plug_251 (by decide) (by decide) (⟨⟨_, rfl⟩, hI243⟩)
                    · refine lv_iconst (v := 2) hx hb dX14_plug_197 (by decide) ?_
                      refine lv_goto (tgt := 202) hx hb dX14_plug_198 (by decide) ?_
                      refine pf_X14_61 F hB dX14_plug_202 (inv_A hI3) (fun H locs hBn => ?_)
                      clear hB; have hB := hBn; clear hBn
                      have hI202 := inv_PIc (t := 20) hB hI3 (inv_A hI3) (by unfold iCn; omega)
                      refine lv_aload_n hx hb dX14_plug_205 rfl (lv_at hl 6 rfl) ?_
                      refine gf_X14_61 F hB dX14_plug_206 (inv_A hI202) ?_
                      rw [sgI_PI, if_pos ⟨rfl, rfl⟩]
                      refine lv_if_le (tgt := 214) hx hb dX14_plug_209 (by decide) (fun c209 => (by first | exact absurd c209 (by decide) | exact (c209 (by decide)).elim)) (fun c209 => ?_)
                      refine lv_iconst (v := 0) hx hb dX14_plug_212 (by decide) ?_
                      exact sg_iret F hB hrt dX14_plug_213 (by decide) (by decide) (⟨⟨_, rfl⟩, hI202⟩)
              · refine lv_iconst (v := 1) hx hb dX14_plug_162 (by decide) ?_
                refine lv_goto (tgt := 167) hx hb dX14_plug_163 (by decide) ?_
                refine lv_istore (lv' := [(6, .int _), (5, .int _), (4, .int _), (3, .int _), (2, .int _), (1, .int _), (0, .ref _)]) hx hb dX14_plug_167 hl (by decide) rfl (fun ls hl => ?_)
                refine lv_aload_n hx hb dX14_plug_169 rfl (lv_at hl 6 rfl) ?_
                refine lv_aload_n hx hb dX14_plug_170 rfl (lv_at hl 6 rfl) ?_
                refine lv_iload_n hx hb dX14_plug_171 rfl (lv_at hl 5 rfl) ?_
                refine sg_callV (ci := 19) F hB (m_isPlugged l D cy hI3 x (by omega) (by omega) _) (cwV 1 F.1.2.2.2.2 (mgV (mm_4 _ (List.mem_of_getElem? (i := 20) rfl)) (mm_4 _ (List.mem_of_getElem? (i := 21) rfl)) (mm_4 _ (List.mem_of_getElem? (i := 22) rfl)) (mm_3 _ (List.mem_of_getElem? (i := 23) rfl)) (mm_4 _ (List.mem_of_getElem? (i := 6) rfl))) rfl rfl rfl ⟨rfl, by decide, by decide, by decide +kernel⟩ ⟨Nat.le_of_ble_eq_true rfl, Nat.le_of_ble_eq_true rfl⟩) rfl rfl (by decide) rfl hl.1 rfl (Nat.le_of_ble_eq_true rfl) dX14_plug_172 (Nat.le_of_ble_eq_true rfl) (Nat.add_le_add_right (Nat.le_of_ble_eq_true rfl) _) (inv_A hI3) (fun H locs v σ172 N hBn hX172 hP => ?_)
                clear hB; have hB := hBn; clear hBn
                obtain ⟨b172, rfl, rfl, hb172⟩ := hP
                refine lv_if_ne (tgt := 197) hx hb dX14_plug_175 (by decide) (fun c175 => ?_) (fun c175 => ?_)
                · refine lv_iconst (v := 2) hx hb dX14_plug_197 (by decide) ?_
                  refine lv_goto (tgt := 202) hx hb dX14_plug_198 (by decide) ?_
                  refine pf_X14_61 F hB dX14_plug_202 (inv_A hI3) (fun H locs hBn => ?_)
                  clear hB; have hB := hBn; clear hBn
                  have hI202 := inv_PIc (t := 20) hB hI3 (inv_A hI3) (by unfold iCn; omega)
                  refine lv_aload_n hx hb dX14_plug_205 rfl (lv_at hl 6 rfl) ?_
                  refine gf_X14_61 F hB dX14_plug_206 (inv_A hI202) ?_
                  rw [sgI_PI, if_pos ⟨rfl, rfl⟩]
                  refine lv_if_le (tgt := 214) hx hb dX14_plug_209 (by decide) (fun c209 => (by first | exact absurd c209 (by decide) | exact (c209 (by decide)).elim)) (fun c209 => ?_)
                  refine lv_iconst (v := 0) hx hb dX14_plug_212 (by decide) ?_
                  exact sg_iret F hB hrt dX14_plug_213 (by decide) (by decide) (⟨⟨_, rfl⟩, hI202⟩)
                · refine lv_iload hx hb dX14_plug_178 (lv_at hl 0 rfl) ?_
                  refine lv_if_ne (tgt := 197) hx hb dX14_plug_180 (by decide) (fun c180 => ?_) (fun c180 => (by first | exact absurd c180 (by decide) | exact (c180 (by decide)).elim))
                  refine lv_iconst (v := 2) hx hb dX14_plug_197 (by decide) ?_
                  refine lv_goto (tgt := 202) hx hb dX14_plug_198 (by decide) ?_
                  refine pf_X14_61 F hB dX14_plug_202 (inv_A hI3) (fun H locs hBn => ?_)
                  clear hB; have hB := hBn; clear hBn
                  have hI202 := inv_PIc (t := 20) hB hI3 (inv_A hI3) (by unfold iCn; omega)
                  refine lv_aload_n hx hb dX14_plug_205 rfl (lv_at hl 6 rfl) ?_
                  refine gf_X14_61 F hB dX14_plug_206 (inv_A hI202) ?_
                  rw [sgI_PI, if_pos ⟨rfl, rfl⟩]
                  refine lv_if_le (tgt := 214) hx hb dX14_plug_209 (by decide) (fun c209 => (by first | exact absurd c209 (by decide) | exact (c209 (by decide)).elim)) (fun c209 => ?_)
                  refine lv_iconst (v := 0) hx hb dX14_plug_212 (by decide) ?_
                  exact sg_iret F hB hrt dX14_plug_213 (by decide) (by decide) (⟨⟨_, rfl⟩, hI202⟩)
        · refine lv_aload hx hb dX14_plug_80 (lv_at hl 0 rfl) ?_
          refine sg_callF (ci := 3) F hB (m_nextI l D cy hI3 hf3 (sgb_t hb72 c77) _) (va_cwF 0 F.1.2.2.2.2 (mgF (mm_5 _ (List.mem_of_getElem? (i := 12) rfl)) (mm_5 _ (List.mem_of_getElem? (i := 13) rfl)) (mm_5 _ (List.mem_of_getElem? (i := 14) rfl)) (mm_4 _ (List.mem_of_getElem? (i := 35) rfl)) (mm_5 _ (List.mem_of_getElem? (i := 1) rfl))) rfl rfl rfl F.2.2.2.1.2.2.2.2.2.2.2.1 (by decide +kernel) ⟨Nat.le_of_ble_eq_true rfl, Nat.le_of_ble_eq_true rfl⟩) rfl rfl (by decide) rfl hl.1 rfl (Nat.le_of_ble_eq_true rfl) dX14_plug_82 (Nat.le_of_ble_eq_true rfl) (Nat.add_le_add_right (Nat.le_of_ble_eq_true rfl) _) hf3.1 (fun H locs v σ82 N hBn hX82 hP => ?_)
          clear hB; have hB := hBn; clear hBn
          obtain ⟨y82, rfl, ha82, hE82, hI82, hf82, hs82⟩ := hP
          have ty82 : sgT σ82 y82 = 16 := by
            unfold iEl at hE82
            rw [(inv_tD hI3).2] at hE82
            rw [← hs82]
            exact hE82.1
          refine va_castY hx hb hown (F.1.2.2.2.2 _ (List.mem_cons_of_mem _ (mm_4 _ (List.mem_of_getElem? (i := 2) rfl)))) (F.2.2.1.2.2 ("HubcascadeModel$Device", "HubcascadeModel$Device") (by decide +kernel)) (sg_recv (ci := 15) F.2.1 hB ty82 (by decide) rfl) dX14_plug_87 ?_
          refine lv_astore (lv' := [(6, .ref _), (5, .ref _), (4, .int _), (3, .int _), (2, .int _), (1, .int _), (0, .ref _)]) hx hb dX14_plug_90 hl (by decide) rfl (fun ls hl => ?_)
          refine lv_iload hx hb dX14_plug_92 (lv_at hl 2 rfl) ?_
          refine lv_if_ne (tgt := 115) hx hb dX14_plug_94 (by decide) (fun c94 => ?_) (fun c94 => ?_)
          · refine lv_iconst (v := 1) hx hb dX14_plug_115 (by decide) ?_
            refine lv_goto (tgt := 120) hx hb dX14_plug_116 (by decide) ?_
            refine lv_istore (lv' := [(4, .int _), (6, .ref _), (5, .ref _), (3, .int _), (2, .int _), (1, .int _), (0, .ref _)]) hx hb dX14_plug_120 hl (by decide) rfl (fun ls hl => ?_)
            refine lv_goto (tgt := 70) hx hb dX14_plug_122 (by decide) ?_
            exact ih70 _ (by subst hd70; have := sgb_t hb72 c77; have e9 : sgSz σ82 (kD K) = sgSz σ3 (kD K) := (by rw [← hs82, sgSz_nk (by decide), sgSz_nk (by decide)]); omega) _ _ _ _ _ _ _ hB (lv_sub hl [2, 0, 3, 4, 5, 6] rfl) hI82 hf82 rfl
          · refine lv_aload hx hb dX14_plug_97 (lv_at hl 0 rfl) ?_
            refine gf_X14_80 F hB dX14_plug_99 ty82 ?_
            refine lv_iload_n hx hb dX14_plug_102 rfl (lv_at hl 4 rfl) ?_
            refine lv_icmp_ne (tgt := 119) hx hb dX14_plug_103 (by decide) (fun c103 => ?_) (fun c103 => ?_)
            · refine lv_iconst (v := 0) hx hb dX14_plug_119 (by decide) ?_
              refine lv_istore (lv' := [(4, .int _), (6, .ref _), (5, .ref _), (3, .int _), (2, .int _), (1, .int _), (0, .ref _)]) hx hb dX14_plug_120 hl (by decide) rfl (fun ls hl => ?_)
              refine lv_goto (tgt := 70) hx hb dX14_plug_122 (by decide) ?_
              exact ih70 _ (by subst hd70; have := sgb_t hb72 c77; have e9 : sgSz σ82 (kD K) = sgSz σ3 (kD K) := (by rw [← hs82, sgSz_nk (by decide), sgSz_nk (by decide)]); omega) _ _ _ _ _ _ _ hB (lv_sub hl [2, 0, 3, 4, 5, 6] rfl) hI82 hf82 rfl
            · refine lv_aload hx hb dX14_plug_106 (lv_at hl 0 rfl) ?_
              refine gf_X14_122 F hB dX14_plug_108 ty82 ?_
              refine lv_iload_n hx hb dX14_plug_111 rfl (lv_at hl 3 rfl) ?_
              refine lv_icmp_ne (tgt := 119) hx hb dX14_plug_112 (by decide) (fun c112 => ?_) (fun c112 => ?_)
              · refine lv_iconst (v := 0) hx hb dX14_plug_119 (by decide) ?_
                refine lv_istore (lv' := [(4, .int _), (6, .ref _), (5, .ref _), (3, .int _), (2, .int _), (1, .int _), (0, .ref _)]) hx hb dX14_plug_120 hl (by decide) rfl (fun ls hl => ?_)
                refine lv_goto (tgt := 70) hx hb dX14_plug_122 (by decide) ?_
                exact ih70 _ (by subst hd70; have := sgb_t hb72 c77; have e9 : sgSz σ82 (kD K) = sgSz σ3 (kD K) := (by rw [← hs82, sgSz_nk (by decide), sgSz_nk (by decide)]); omega) _ _ _ _ _ _ _ hB (lv_sub hl [2, 0, 3, 4, 5, 6] rfl) hI82 hf82 rfl
              · refine lv_iconst (v := 1) hx hb dX14_plug_115 (by decide) ?_
                refine lv_goto (tgt := 120) hx hb dX14_plug_116 (by decide) ?_
                refine lv_istore (lv' := [(4, .int _), (6, .ref _), (5, .ref _), (3, .int _), (2, .int _), (1, .int _), (0, .ref _)]) hx hb dX14_plug_120 hl (by decide) rfl (fun ls hl => ?_)
                refine lv_goto (tgt := 70) hx hb dX14_plug_122 (by decide) ?_
                exact ih70 _ (by subst hd70; have := sgb_t hb72 c77; have e9 : sgSz σ82 (kD K) = sgSz σ3 (kD K) := (by rw [← hs82, sgSz_nk (by decide), sgSz_nk (by decide)]); omega) _ _ _ _ _ _ _ hB (lv_sub hl [2, 0, 3, 4, 5, 6] rfl) hI82 hf82 rfl
      · refine lv_iconst (v := 1) hx hb dX14_plug_41 (by decide) ?_
        refine lv_goto (tgt := 46) hx hb dX14_plug_42 (by decide) ?_
        refine pf_X14_61 F hB dX14_plug_46 (inv_A h) (fun H locs hBn => ?_)
        clear hB; have hB := hBn; clear hBn
        have hI46 := inv_PIc (t := 20) hB h (inv_A h) (by unfold iCn; omega)
        refine lv_aload_n hx hb dX14_plug_49 rfl (lv_at hl 0 rfl) ?_
        refine gf_X14_61 F hB dX14_plug_50 (inv_A hI46) ?_
        rw [sgI_PI, if_pos ⟨rfl, rfl⟩]
        refine lv_if_le (tgt := 58) hx hb dX14_plug_53 (by decide) (fun c53 => (by first | exact absurd c53 (by decide) | exact (c53 (by decide)).elim)) (fun c53 => ?_)
        refine lv_iconst (v := 0) hx hb dX14_plug_56 (by decide) ?_
        exact sg_iret F hB hrt dX14_plug_57 (by decide) (by decide) (⟨⟨_, rfl⟩, hI46⟩)
theorem dX14_ends_0 : decode cX14_ends 0 = .ok (.aload_n 0, 1) := by decide +kernel
theorem dX14_ends_1 : decode cX14_ends 1 = .ok (.getfield 18, 3) := by decide +kernel
theorem dX14_ends_4 : decode cX14_ends 4 = .ok (.iload_n 1, 1) := by decide +kernel
theorem dX14_ends_5 : decode cX14_ends 5 = .ok (.aaload, 1) := by decide +kernel
theorem dX14_ends_6 : decode cX14_ends 6 = .ok (.getfield 199, 3) := by decide +kernel
theorem dX14_ends_9 : decode cX14_ends 9 = .ok (.iconst 0, 1) := by decide +kernel
theorem dX14_ends_10 : decode cX14_ends 10 = .ok (.invokevirtual 272, 3) := by decide +kernel
theorem dX14_ends_13 : decode cX14_ends 13 = .ok (.checkcast 275, 3) := by decide +kernel
theorem dX14_ends_16 : decode cX14_ends 16 = .ok (.astore_n 3, 1) := by decide +kernel
theorem dX14_ends_17 : decode cX14_ends 17 = .ok (.aload_n 0, 1) := by decide +kernel
theorem dX14_ends_18 : decode cX14_ends 18 = .ok (.dup, 1) := by decide +kernel
theorem dX14_ends_19 : decode cX14_ends 19 = .ok (.getfield 277, 3) := by decide +kernel
theorem dX14_ends_22 : decode cX14_ends 22 = .ok (.iconst 1, 1) := by decide +kernel
theorem dX14_ends_23 : decode cX14_ends 23 = .ok (.iadd, 1) := by decide +kernel
theorem dX14_ends_24 : decode cX14_ends 24 = .ok (.putfield 277, 3) := by decide +kernel
theorem dX14_ends_27 : decode cX14_ends 27 = .ok (.aload_n 0, 1) := by decide +kernel
theorem dX14_ends_28 : decode cX14_ends 28 = .ok (.dup, 1) := by decide +kernel
theorem dX14_ends_29 : decode cX14_ends 29 = .ok (.getfield 280, 3) := by decide +kernel
theorem dX14_ends_32 : decode cX14_ends 32 = .ok (.aload_n 3, 1) := by decide +kernel
theorem dX14_ends_33 : decode cX14_ends 33 = .ok (.getfield 284, 3) := by decide +kernel
theorem dX14_ends_36 : decode cX14_ends 36 = .ok (.i2l, 1) := by decide +kernel
theorem dX14_ends_37 : decode cX14_ends 37 = .ok (.ladd, 1) := by decide +kernel
theorem dX14_ends_38 : decode cX14_ends 38 = .ok (.putfield 280, 3) := by decide +kernel
theorem dX14_ends_41 : decode cX14_ends 41 = .ok (.aload_n 0, 1) := by decide +kernel
theorem dX14_ends_42 : decode cX14_ends 42 = .ok (.getfield 28, 3) := by decide +kernel
theorem dX14_ends_45 : decode cX14_ends 45 = .ok (.invokevirtual 64, 3) := by decide +kernel
theorem dX14_ends_48 : decode cX14_ends 48 = .ok (.bipush 6, 2) := by decide +kernel
theorem dX14_ends_50 : decode cX14_ends 50 = .ok (.if_icmp .ne 16, 3) := by decide +kernel
theorem dX14_ends_66 : decode cX14_ends 66 = .ok (.aload_n 0, 1) := by decide +kernel
theorem dX14_ends_67 : decode cX14_ends 67 = .ok (.getfield 28, 3) := by decide +kernel
theorem dX14_ends_70 : decode cX14_ends 70 = .ok (.iconst 3, 1) := by decide +kernel
theorem dX14_ends_71 : decode cX14_ends 71 = .ok (.newarray .int, 2) := by decide +kernel
theorem dX14_ends_73 : decode cX14_ends 73 = .ok (.dup, 1) := by decide +kernel
theorem dX14_ends_74 : decode cX14_ends 74 = .ok (.iconst 0, 1) := by decide +kernel
theorem dX14_ends_75 : decode cX14_ends 75 = .ok (.iload_n 2, 1) := by decide +kernel
theorem dX14_ends_76 : decode cX14_ends 76 = .ok (.iastore, 1) := by decide +kernel
theorem dX14_ends_77 : decode cX14_ends 77 = .ok (.dup, 1) := by decide +kernel
theorem dX14_ends_78 : decode cX14_ends 78 = .ok (.iconst 1, 1) := by decide +kernel
theorem dX14_ends_79 : decode cX14_ends 79 = .ok (.iload_n 1, 1) := by decide +kernel
theorem dX14_ends_80 : decode cX14_ends 80 = .ok (.iastore, 1) := by decide +kernel
theorem dX14_ends_81 : decode cX14_ends 81 = .ok (.dup, 1) := by decide +kernel
theorem dX14_ends_82 : decode cX14_ends 82 = .ok (.iconst 2, 1) := by decide +kernel
theorem dX14_ends_83 : decode cX14_ends 83 = .ok (.aload_n 3, 1) := by decide +kernel
theorem dX14_ends_84 : decode cX14_ends 84 = .ok (.getfield 284, 3) := by decide +kernel
theorem dX14_ends_87 : decode cX14_ends 87 = .ok (.iastore, 1) := by decide +kernel
theorem dX14_ends_88 : decode cX14_ends 88 = .ok (.invokevirtual 57, 3) := by decide +kernel
theorem dX14_ends_91 : decode cX14_ends 91 = .ok (.pop, 1) := by decide +kernel
theorem dX14_ends_92 : decode cX14_ends 92 = .ok (.return_, 1) := by decide +kernel
set_option maxRecDepth 100000 in
set_option maxHeartbeats 4000000 in
theorem m_endsN (l : Launch) (D : va_G) (cy : Nat → ClassId) {eda ca : Nat} {ia : Nat → Nat} {σ : SG} {K : KM} {g : GH} {n S hw : Nat} (h : Inv eda ia K g n S hw σ) {pp l1 : Nat} (x lt : Int32) (hx1 : 0 ≤ x.toInt) (hx2 : x.toInt ≤ 11) (hpp : sgR σ (kP K) x.toInt.toNat = some pp) (hl1 : sgR σ pp 9 = some l1) (h0 : 0 < sgSz σ l1) (hev : sgSz σ (kE K) < 6) (sz : Nat) : sgM l D cy eda ca ia σ sz yX14_ends (Cond.code yX14_ends cX14_ends 4 none :: mWall) 7 171 2 18 [.ref (kA K), .int x, .int lt] (fun v σ2 => v = none ∧ Inv eda ia K g n S hw σ2 ∧ sgSz σ2 l1 = sgSz σ l1 - 1 ∧ (∀ j, j + 1 < sgSz σ l1 → sgAt σ2 l1 j = sgAt σ l1 (j + 1)) ∧ sgSz σ2 (kE K) = sgSz σ (kE K) + 1 ∧ eFr σ σ2) := by
  refine sg_ofW (cc := cX14_ends) (maxL := 4) (ret := none) (by decide) rfl (Nat.le_of_ble_eq_true rfl) (lv := [(0, .ref (kA K)), (1, .int x), (2, .int lt)]) rfl (fun p e s m below meth c ls H N hrt hnm F hB hl => ?_) sz
  have hx := F.1.1
  have hb := F.1.2.1
  have hown := F.1.2.2.2.1
  have tp := inv_pp h (j := x.toInt.toNat) (by omega) hpp
  obtain ⟨l2, pl1, tl, pl3, pl4, pl5, pl6⟩ := inv_pl h tp
  rw [hl1] at pl1
  cases pl1
  obtain ⟨r1, za, zb⟩ := (inv_LS h).1 _ tl id
  have gs := sgLz_s za h0
  obtain ⟨t0, w1, w2⟩ := inv_L h l1 tl 0 h0
  have tt0 : sgT σ t0 = 19 := by unfold iEl at w2; rw [pl3] at w2; exact w2.1
  have m6 : (6 : Int32).toInt = 6 := rfl
  refine lv_aload_n hx hb dX14_ends_0 rfl (lv_at hl 0 rfl) ?_
  refine gr_X14_18 F hB dX14_ends_1 (inv_A h) (inv_r2 h) ?_
  refine lv_iload_n hx hb dX14_ends_4 rfl (lv_at hl 1 rfl) ?_
  refine sg_aaldR 9 hx hb F.2.1 hB.1 rfl rfl dX14_ends_5 (inv_tP h).1 (by omega) (m_ltN (n := 12) (inv_tP h).2 (by omega)) (m_ltM (inv_tP h).2 (by decide)) hpp ?_
  refine gr_X14_199 F hB dX14_ends_6 tp hl1 ?_
  refine lv_iconst (v := 0) hx hb dX14_ends_9 (by decide) ?_
  refine sg_callV (ci := 4) F hB (m_remove0 l D cy gs h0 (fun j y _ hy => (inv_LS h).2.2.1 r1 j y gs.2.2.1 hy) (by rw [← sgAt_of gs.2.1]; exact w1) _) (cwV 1 F.1.2.2.2.2 (mgV (mm_5 _ (List.mem_of_getElem? (i := 29) rfl)) (mm_5 _ (List.mem_of_getElem? (i := 30) rfl)) (mm_5 _ (List.mem_of_getElem? (i := 31) rfl)) (mm_0 _ (List.mem_of_getElem? (i := 35) rfl)) (mm_5 _ (List.mem_of_getElem? (i := 21) rfl))) rfl rfl rfl ⟨rfl, by decide, by decide, by decide +kernel⟩ ⟨Nat.le_of_ble_eq_true rfl, Nat.le_of_ble_eq_true rfl⟩) rfl rfl (by decide) rfl hl.1 rfl (Nat.le_of_ble_eq_true rfl) dX14_ends_10 (Nat.le_of_ble_eq_true rfl) (Nat.add_le_add_right (Nat.le_of_ble_eq_true rfl) _) tl (fun H locs v σ10 N hBn hX10 hP => ?_)
  clear hB; have hB := hBn; clear hBn
  obtain ⟨rfl, ho, ho1, ho2, ho3, ho4⟩ := hP
  obtain ⟨hI10, rm1, rm2, rm3, rm4, rm5⟩ := inv_rm h gs h0 ho ho1 ho3 ho2 ho4 (by rw [pl3]; decide) (fun z => absurd (pl3.symm.trans z) (by decide))
  have tt : sgT σ10 t0 = 19 := (ho.1 t0).1.trans tt0
  have hlE : ¬ kE K = l1 := fun z => absurd ((inv_tE h).2.symm.trans ((congrArg (gRo g) z).trans pl3)) (by decide)
  have ev10 : sgSz σ10 (kE K) = sgSz σ (kE K) := (rm4 (kE K) (inv_tE h).1 (fun z => z.elim id hlE)).1
  have ef10 : eFr σ σ10 := ⟨fun a _ => ho.1 a, fun a k _ h5 _ => ho.2.2.1 a k (fun z => h5 (by rw [z]; exact tl)), rm5⟩
  refine va_castY hx hb hown (F.1.2.2.2.2 _ (List.mem_cons_of_mem _ (mm_5 _ (List.mem_of_getElem? (i := 25) rfl)))) (F.2.2.1.2.2 ("HubcascadeModel$Transfer", "HubcascadeModel$Transfer") (by decide +kernel)) (sg_recv (ci := 18) F.2.1 hB tt (by decide) rfl) dX14_ends_13 ?_
  refine lv_astore_n (lv' := [(3, .ref _), (0, .ref _), (1, .int _), (2, .int _)]) hx hb dX14_ends_16 rfl hl (by decide) rfl (fun ls hl => ?_)
  refine lv_aload_n hx hb dX14_ends_17 rfl (lv_at hl 1 rfl) ?_
  refine lv_dup hx hb dX14_ends_18 rfl ?_
  refine gf_X14_277 F hB dX14_ends_19 (inv_A hI10) ?_
  refine lv_iconst (v := 1) hx hb dX14_ends_22 (by decide) ?_
  refine lv_iadd hx hb dX14_ends_23 ?_
  refine pf_X14_277 F hB dX14_ends_24 (inv_A hI10) (fun H locs hBn => ?_)
  clear hB; have hB := hBn; clear hBn
  have hI24 := inv_PIc (t := 20) hB hI10 (inv_A hI10) (by unfold iCn; omega)
  refine lv_aload_n hx hb dX14_ends_27 rfl (lv_at hl 1 rfl) ?_
  refine lv_dup hx hb dX14_ends_28 rfl ?_
  refine gf_X14_280 F hB dX14_ends_29 (inv_A hI24) ?_
  refine lv_aload_n hx hb dX14_ends_32 rfl (lv_at hl 0 rfl) ?_
  refine gf_X14_284 F hB dX14_ends_33 (by exact tt) ?_
  refine lv_i2l hx hb dX14_ends_36 rfl ?_
  refine lv_ladd hx hb dX14_ends_37 ?_
  refine pf_X14_280 F hB dX14_ends_38 (inv_A hI24) (fun H locs hBn => ?_)
  clear hB; have hB := hBn; clear hBn
  have hI38 := inv_PJc hB hI24
  have qE := inv_szE hI38
  have e38 := end_38 hB (inv_A hI10)
  have ef38 := eFr_tr ef10 (e38 0).2
  have ek38 := (e38 (kE K)).1
  refine lv_aload_n hx hb dX14_ends_41 rfl (lv_at hl 1 rfl) ?_
  refine gr_X14_28 F hB dX14_ends_42 (inv_A hI38) (inv_r5 hI38) ?_
  refine sg_callV (ci := 4) F hB (m_size l D cy (by exact (inv_tE hI38).1) _) (cwV 0 F.1.2.2.2.2 (mgV (mm_3 _ (List.mem_of_getElem? (i := 18) rfl)) (mm_3 _ (List.mem_of_getElem? (i := 19) rfl)) (mm_3 _ (List.mem_of_getElem? (i := 20) rfl)) (mm_0 _ (List.mem_of_getElem? (i := 35) rfl)) (mm_3 _ (List.mem_of_getElem? (i := 16) rfl))) rfl rfl rfl ⟨rfl, by decide, by decide, by decide +kernel⟩ ⟨Nat.le_of_ble_eq_true rfl, Nat.le_of_ble_eq_true rfl⟩) rfl rfl (by decide) rfl hl.1 rfl (Nat.le_of_ble_eq_true rfl) dX14_ends_45 (Nat.le_of_ble_eq_true rfl) (Nat.add_le_add_right (Nat.le_of_ble_eq_true rfl) _) (inv_tE hI38).1 (fun H locs v σ45 N hBn hX45 hP => ?_)
  clear hB; have hB := hBn; clear hBn
  obtain ⟨rfl, rfl⟩ := hP
  refine lv_bipush (v := 6) hx hb dX14_ends_48 (by decide) ?_
  refine lv_icmp_ne (tgt := 66) hx hb dX14_ends_50 (by decide) (fun c50 => ?_) (fun c50 => (absurd (m_eqI c50) (by rw [m6, qE.1, ek38, ev10]; omega) : False).elim)
  refine lv_aload_n hx hb dX14_ends_66 rfl (lv_at hl 1 rfl) ?_
  refine gr_X14_28 F hB dX14_ends_67 (inv_A hI38) (inv_r5 hI38) ?_
  refine lv_iconst (v := 3) hx hb dX14_ends_70 (by decide) ?_
  refine sg_newa 0 (atype := .int) (ty := .int) (N' := 3) F hB (F.1.2.2.2.2 _ (List.mem_cons_of_mem _ (mm_0 _ (List.mem_of_getElem? (i := 11) rfl)))) rfl rfl (fun C z => by cases z) rfl (fun _ => rfl) (by decide) rfl (by decide) (Nat.le_of_ble_eq_true rfl) (Nat.add_le_add_right (Nat.le_of_ble_eq_true rfl) _) dX14_ends_71 (fun q71 H N hq71 hs71 hBn => ?_)
  clear hB; have hB := hBn; clear hBn
  obtain ⟨hQ71, tq71, nq71⟩ := sgB_nwf hB hq71 (by decide)
  have hI71 := inv_Qt hI38 hQ71 (sg_eda F hB)
  have tt71 := ((hQ71.1 t0 (fun z => absurd (tt.symm.trans z) (by decide))).1).trans tt
  have lq71 := inv_LqQt hI38 hQ71 (sg_eda F hB)
  have hne : q71 ≠ kE K := fun z => by have := (inv_tE hI38).1; rw [← z, hq71] at this; exact absurd this (by decide)
  refine lv_dup hx hb dX14_ends_73 rfl ?_
  refine lv_iconst (v := 0) hx hb dX14_ends_74 (by decide) ?_
  refine lv_iload_n hx hb dX14_ends_75 rfl (lv_at hl 3 rfl) ?_
  refine sg_iast hx hb F.2.1 hB.1 dX14_ends_76 tq71 (by decide) (m_ltN nq71 (by decide)) (m_ltM nq71 (by decide)) (fun H locs hs1 => ?_)
  have hBn := sgB_w hB hs1 (fun _ => rfl) (fun _ => rfl) (Nat.le_of_eq (sgPot_I (Or.inl (by rw [show sgT _ _ = _ from tq71]; decide))))
  clear hB; have hB := hBn; clear hBn
  have hI76 := inv_PIc (t := 100) hB hI71 tq71 (by unfold iCn; omega)
  refine lv_dup hx hb dX14_ends_77 rfl ?_
  refine lv_iconst (v := 1) hx hb dX14_ends_78 (by decide) ?_
  refine lv_iload_n hx hb dX14_ends_79 rfl (lv_at hl 2 rfl) ?_
  refine sg_iast hx hb F.2.1 hB.1 dX14_ends_80 (by exact tq71) (by decide) (m_ltN nq71 (by decide)) (m_ltM nq71 (by decide)) (fun H locs hs1 => ?_)
  have hBn := sgB_w hB hs1 (fun _ => rfl) (fun _ => rfl) (Nat.le_of_eq (sgPot_I (Or.inl (by rw [show sgT _ _ = _ from (by exact tq71)]; decide))))
  clear hB; have hB := hBn; clear hBn
  have hI80 := inv_PIc (t := 100) hB hI76 (by exact tq71) (by unfold iCn; omega)
  refine lv_dup hx hb dX14_ends_81 rfl ?_
  refine lv_iconst (v := 2) hx hb dX14_ends_82 (by decide) ?_
  refine lv_aload_n hx hb dX14_ends_83 rfl (lv_at hl 0 rfl) ?_
  refine gf_X14_284 F hB dX14_ends_84 (by exact tt71) ?_
  refine sg_iast hx hb F.2.1 hB.1 dX14_ends_87 (by exact tq71) (by decide) (m_ltN nq71 (by decide)) (m_ltM nq71 (by decide)) (fun H locs hs1 => ?_)
  have hBn := sgB_w hB hs1 (fun _ => rfl) (fun _ => rfl) (Nat.le_of_eq (sgPot_I (Or.inl (by rw [show sgT _ _ = _ from (by exact tq71)]; decide))))
  clear hB; have hB := hBn; clear hBn
  have hI87 := inv_PIc (t := 100) hB hI80 (by exact tq71) (by unfold iCn; omega)
  obtain ⟨ra88, za88, zb88⟩ := (inv_LS hI87).1 _ (inv_tE hI87).1 id
  refine sg_callV (ci := 4) F hB (m_add l D cy za88 (fun j y h1 h2 => (inv_LS hI87).2.2.1 ra88 j y h1 h2) q71 (iEl_K (l0 := _) (g := g) (j := 0) (by unfold iEl; rw [(inv_tE hI87).2]; exact ⟨tq71, nq71⟩)) zb88 _) (cwV 1 F.1.2.2.2.2 (mgV (mm_3 _ (List.mem_of_getElem? (i := 9) rfl)) (mm_3 _ (List.mem_of_getElem? (i := 10) rfl)) (mm_3 _ (List.mem_of_getElem? (i := 11) rfl)) (mm_0 _ (List.mem_of_getElem? (i := 35) rfl)) (mm_2 _ (List.mem_of_getElem? (i := 29) rfl))) rfl rfl rfl ⟨rfl, by decide, by decide, by decide +kernel⟩ ⟨Nat.le_of_ble_eq_true rfl, Nat.le_of_ble_eq_true rfl⟩) rfl rfl (by decide) rfl hl.1 rfl (Nat.le_of_ble_eq_true rfl) dX14_ends_88 (Nat.le_of_ble_eq_true rfl) (Nat.add_le_add_right (Nat.le_of_ble_eq_true rfl) _) (inv_tE hI87).1 (fun H locs v σ88 N hBn hX88 hP => ?_)
  clear hB; have hB := hBn; clear hBn
  obtain ⟨rfl, hAd88⟩ := hP
  obtain ⟨hI88, ada88, adb88, adc88, add88, ade88, adf88, adg88, adh88⟩ := inv_ad hI87 (inv_tE hI87).1 za88 hAd88 (sg_eda F hB) (by unfold iEl; rw [(inv_tE hI87).2]; exact ⟨tq71, nq71⟩) (by rw [(inv_tE hI87).2]; show _ ≤ 6; rw [sgSz_ne (a := q71) hne, sgSz_ne (a := q71) hne, sgSz_ne (a := q71) hne, sgSz_Qt hQ71 (inv_tE hI38).1]; omega) (Or.inl ⟨inv_nD hI87 (by rw [(inv_tE hI87).2]; decide), rfl⟩) (nr7 (inv_tE hI87).2 (by decide))
  refine lv_pop hx hb dX14_ends_91 rfl ?_
  exact sg_vret F hB hrt dX14_ends_92 (by decide) (by decide) (by
    have qT : sgT σ q71 = 0 := by
      by_cases z : sgT σ q71 = 0
      · exact z
      · exact absurd hq71 (by rw [(ef38.1 q71 z).1]; exact z)
    have tl38 := eFr_0 ef38 tl (by decide)
    have hnl : q71 ≠ l1 := fun z => by rw [z, tl] at qT; exact absurd qT (by decide)
    have nl : ¬ (iX l1 ∨ l1 = kE K) := fun z => z.elim id (fun w => hlE w.symm)
    have q9 := adh88 l1 (by exact (hQ71.1 l1 (by rw [tl38]; decide)).1.trans tl38) nl
    have q8 := lq71 l1 tl38 id
    have q7 := e38 l1
    refine ⟨rfl, hI88, ?_, fun j hj => ?_, ?_, ?_⟩
    · rw [q9.1, sgSz_ne hnl, sgSz_ne hnl, sgSz_ne hnl, q8.1, q7.1]; exact rm2
    · rw [q9.2 j (by rw [sgSz_ne hnl, sgSz_ne hnl, sgSz_ne hnl, q8.1, q7.1, rm2]; omega)]
      exact (q8.2 j (by rw [q7.1, rm2]; omega)).trans (rm3 j hj)
    · rw [ada88, sgSz_ne hne, sgSz_ne hne, sgSz_ne hne, (lq71 (kE K) (inv_tE hI38).1 id).1, ek38, ev10]
    · exact eFr_tr (eFr_nw (eFr_nw (eFr_nw (eFr_tr ef38 (eFr_Qt hQ71)) qT) qT) qT) ⟨add88, fun a k h0 h5 _ => adf88 a k h0 h5, adg88⟩)
theorem dX14_ends_53 : decode cX14_ends 53 = .ok (.aload_n 0, 1) := by decide +kernel
theorem dX14_ends_54 : decode cX14_ends 54 = .ok (.dup, 1) := by decide +kernel
theorem dX14_ends_55 : decode cX14_ends 55 = .ok (.getfield 287, 3) := by decide +kernel
theorem dX14_ends_58 : decode cX14_ends 58 = .ok (.iconst 1, 1) := by decide +kernel
theorem dX14_ends_59 : decode cX14_ends 59 = .ok (.iadd, 1) := by decide +kernel
theorem dX14_ends_60 : decode cX14_ends 60 = .ok (.putfield 287, 3) := by decide +kernel
theorem dX14_ends_63 : decode cX14_ends 63 = .ok (.goto 29, 3) := by decide +kernel
set_option maxRecDepth 100000 in
set_option maxHeartbeats 4000000 in
theorem m_endsF (l : Launch) (D : va_G) (cy : Nat → ClassId) {eda ca : Nat} {ia : Nat → Nat} {σ : SG} {K : KM} {g : GH} {n S hw : Nat} (h : Inv eda ia K g n S hw σ) {pp l1 : Nat} (x lt : Int32) (hx1 : 0 ≤ x.toInt) (hx2 : x.toInt ≤ 11) (hpp : sgR σ (kP K) x.toInt.toNat = some pp) (hl1 : sgR σ pp 9 = some l1) (h0 : 0 < sgSz σ l1) (hev : sgSz σ (kE K) = 6) (sz : Nat) : sgM l D cy eda ca ia σ sz yX14_ends (Cond.code yX14_ends cX14_ends 4 none :: mWall) 7 171 0 0 [.ref (kA K), .int x, .int lt] (fun v σ2 => v = none ∧ Inv eda ia K g n S hw σ2 ∧ sgSz σ2 l1 = sgSz σ l1 - 1 ∧ (∀ j, j + 1 < sgSz σ l1 → sgAt σ2 l1 j = sgAt σ l1 (j + 1)) ∧ sgSz σ2 (kE K) = sgSz σ (kE K) + 0 ∧ eFr σ σ2) := by
  refine sg_ofW (cc := cX14_ends) (maxL := 4) (ret := none) (by decide) rfl (Nat.le_of_ble_eq_true rfl) (lv := [(0, .ref (kA K)), (1, .int x), (2, .int lt)]) rfl (fun p e s m below meth c ls H N hrt hnm F hB hl => ?_) sz
  have hx := F.1.1
  have hb := F.1.2.1
  have hown := F.1.2.2.2.1
  have tp := inv_pp h (j := x.toInt.toNat) (by omega) hpp
  obtain ⟨l2, pl1, tl, pl3, pl4, pl5, pl6⟩ := inv_pl h tp
  rw [hl1] at pl1
  cases pl1
  obtain ⟨r1, za, zb⟩ := (inv_LS h).1 _ tl id
  have gs := sgLz_s za h0
  obtain ⟨t0, w1, w2⟩ := inv_L h l1 tl 0 h0
  have tt0 : sgT σ t0 = 19 := by unfold iEl at w2; rw [pl3] at w2; exact w2.1
  have m6 : (6 : Int32).toInt = 6 := rfl
  refine lv_aload_n hx hb dX14_ends_0 rfl (lv_at hl 0 rfl) ?_
  refine gr_X14_18 F hB dX14_ends_1 (inv_A h) (inv_r2 h) ?_
  refine lv_iload_n hx hb dX14_ends_4 rfl (lv_at hl 1 rfl) ?_
  refine sg_aaldR 9 hx hb F.2.1 hB.1 rfl rfl dX14_ends_5 (inv_tP h).1 (by omega) (m_ltN (n := 12) (inv_tP h).2 (by omega)) (m_ltM (inv_tP h).2 (by decide)) hpp ?_
  refine gr_X14_199 F hB dX14_ends_6 tp hl1 ?_
  refine lv_iconst (v := 0) hx hb dX14_ends_9 (by decide) ?_
  refine sg_callV (ci := 4) F hB (m_remove0 l D cy gs h0 (fun j y _ hy => (inv_LS h).2.2.1 r1 j y gs.2.2.1 hy) (by rw [← sgAt_of gs.2.1]; exact w1) _) (cwV 1 F.1.2.2.2.2 (mgV (mm_5 _ (List.mem_of_getElem? (i := 29) rfl)) (mm_5 _ (List.mem_of_getElem? (i := 30) rfl)) (mm_5 _ (List.mem_of_getElem? (i := 31) rfl)) (mm_0 _ (List.mem_of_getElem? (i := 35) rfl)) (mm_5 _ (List.mem_of_getElem? (i := 21) rfl))) rfl rfl rfl ⟨rfl, by decide, by decide, by decide +kernel⟩ ⟨Nat.le_of_ble_eq_true rfl, Nat.le_of_ble_eq_true rfl⟩) rfl rfl (by decide) rfl hl.1 rfl (Nat.le_of_ble_eq_true rfl) dX14_ends_10 (Nat.le_of_ble_eq_true rfl) (Nat.add_le_add_right (Nat.le_of_ble_eq_true rfl) _) tl (fun H locs v σ10 N hBn hX10 hP => ?_)
  clear hB; have hB := hBn; clear hBn
  obtain ⟨rfl, ho, ho1, ho2, ho3, ho4⟩ := hP
  obtain ⟨hI10, rm1, rm2, rm3, rm4, rm5⟩ := inv_rm h gs h0 ho ho1 ho3 ho2 ho4 (by rw [pl3]; decide) (fun z => absurd (pl3.symm.trans z) (by decide))
  have tt : sgT σ10 t0 = 19 := (ho.1 t0).1.trans tt0
  have hlE : ¬ kE K = l1 := fun z => absurd ((inv_tE h).2.symm.trans ((congrArg (gRo g) z).trans pl3)) (by decide)
  have ev10 : sgSz σ10 (kE K) = sgSz σ (kE K) := (rm4 (kE K) (inv_tE h).1 (fun z => z.elim id hlE)).1
  have ef10 : eFr σ σ10 := ⟨fun a _ => ho.1 a, fun a k _ h5 _ => ho.2.2.1 a k (fun z => h5 (by rw [z]; exact tl)), rm5⟩
  refine va_castY hx hb hown (F.1.2.2.2.2 _ (List.mem_cons_of_mem _ (mm_5 _ (List.mem_of_getElem? (i := 25) rfl)))) (F.2.2.1.2.2 ("HubcascadeModel$Transfer", "HubcascadeModel$Transfer") (by decide +kernel)) (sg_recv (ci := 18) F.2.1 hB tt (by decide) rfl) dX14_ends_13 ?_
  refine lv_astore_n (lv' := [(3, .ref _), (0, .ref _), (1, .int _), (2, .int _)]) hx hb dX14_ends_16 rfl hl (by decide) rfl (fun ls hl => ?_)
  refine lv_aload_n hx hb dX14_ends_17 rfl (lv_at hl 1 rfl) ?_
  refine lv_dup hx hb dX14_ends_18 rfl ?_
  refine gf_X14_277 F hB dX14_ends_19 (inv_A hI10) ?_
  refine lv_iconst (v := 1) hx hb dX14_ends_22 (by decide) ?_
  refine lv_iadd hx hb dX14_ends_23 ?_
  refine pf_X14_277 F hB dX14_ends_24 (inv_A hI10) (fun H locs hBn => ?_)
  clear hB; have hB := hBn; clear hBn
  have hI24 := inv_PIc (t := 20) hB hI10 (inv_A hI10) (by unfold iCn; omega)
  refine lv_aload_n hx hb dX14_ends_27 rfl (lv_at hl 1 rfl) ?_
  refine lv_dup hx hb dX14_ends_28 rfl ?_
  refine gf_X14_280 F hB dX14_ends_29 (inv_A hI24) ?_
  refine lv_aload_n hx hb dX14_ends_32 rfl (lv_at hl 0 rfl) ?_
  refine gf_X14_284 F hB dX14_ends_33 (by exact tt) ?_
  refine lv_i2l hx hb dX14_ends_36 rfl ?_
  refine lv_ladd hx hb dX14_ends_37 ?_
  refine pf_X14_280 F hB dX14_ends_38 (inv_A hI24) (fun H locs hBn => ?_)
  clear hB; have hB := hBn; clear hBn
  have hI38 := inv_PJc hB hI24
  have qE := inv_szE hI38
  have e38 := end_38 hB (inv_A hI10)
  have ef38 := eFr_tr ef10 (e38 0).2
  have ek38 := (e38 (kE K)).1
  refine lv_aload_n hx hb dX14_ends_41 rfl (lv_at hl 1 rfl) ?_
  refine gr_X14_28 F hB dX14_ends_42 (inv_A hI38) (inv_r5 hI38) ?_
  refine sg_callV (ci := 4) F hB (m_size l D cy (by exact (inv_tE hI38).1) _) (cwV 0 F.1.2.2.2.2 (mgV (mm_3 _ (List.mem_of_getElem? (i := 18) rfl)) (mm_3 _ (List.mem_of_getElem? (i := 19) rfl)) (mm_3 _ (List.mem_of_getElem? (i := 20) rfl)) (mm_0 _ (List.mem_of_getElem? (i := 35) rfl)) (mm_3 _ (List.mem_of_getElem? (i := 16) rfl))) rfl rfl rfl ⟨rfl, by decide, by decide, by decide +kernel⟩ ⟨Nat.le_of_ble_eq_true rfl, Nat.le_of_ble_eq_true rfl⟩) rfl rfl (by decide) rfl hl.1 rfl (Nat.le_of_ble_eq_true rfl) dX14_ends_45 (Nat.le_of_ble_eq_true rfl) (Nat.add_le_add_right (Nat.le_of_ble_eq_true rfl) _) (inv_tE hI38).1 (fun H locs v σ45 N hBn hX45 hP => ?_)
  clear hB; have hB := hBn; clear hBn
  obtain ⟨rfl, rfl⟩ := hP
  refine lv_bipush (v := 6) hx hb dX14_ends_48 (by decide) ?_
  refine lv_icmp_ne (tgt := 66) hx hb dX14_ends_50 (by decide) (fun c50 => ((c50 (i_eq.mpr (by rw [m6, qE.1, ek38, ev10, hev]; rfl))) : False).elim) (fun c50 => ?_)
  refine lv_aload_n hx hb dX14_ends_53 rfl (lv_at hl 1 rfl) ?_
  refine lv_dup hx hb dX14_ends_54 rfl ?_
  refine gf_X14_287 F hB dX14_ends_55 (inv_A hI38) ?_
  refine lv_iconst (v := 1) hx hb dX14_ends_58 (by decide) ?_
  refine lv_iadd hx hb dX14_ends_59 ?_
  refine pf_X14_287 F hB dX14_ends_60 (inv_A hI38) (fun H locs hBn => ?_)
  clear hB; have hB := hBn; clear hBn
  have hI60 := inv_PIc (t := 20) hB hI38 (inv_A hI38) (by unfold iCn; omega)
  refine lv_goto (tgt := 92) hx hb dX14_ends_63 (by decide) ?_
  exact sg_vret F hB hrt dX14_ends_92 (by decide) (by decide) (⟨rfl, hI60, (sgSz_nk (by decide)).trans ((e38 l1).1.trans rm2), rm3, (sgSz_nk (by decide)).trans (ek38.trans ev10), eFr_tr ef38 (eFr_A (Or.inl (inv_A hI38)))⟩)
end MM21
