section MM30B
theorem dX14_sounds_0 : decode cX14_sounds 0 = .ok (.aload_n 0, 1) := by decide +kernel
theorem dX14_sounds_1 : decode cX14_sounds 1 = .ok (.getfield 18, 3) := by decide +kernel
theorem dX14_sounds_4 : decode cX14_sounds 4 = .ok (.iload_n 1, 1) := by decide +kernel
theorem dX14_sounds_5 : decode cX14_sounds 5 = .ok (.aaload, 1) := by decide +kernel
theorem dX14_sounds_6 : decode cX14_sounds 6 = .ok (.astore 5, 2) := by decide +kernel
theorem dX14_sounds_8 : decode cX14_sounds 8 = .ok (.aload 5, 2) := by decide +kernel
theorem dX14_sounds_10 : decode cX14_sounds 10 = .ok (.getfield 199, 3) := by decide +kernel
theorem dX14_sounds_13 : decode cX14_sounds 13 = .ok (.iconst 0, 1) := by decide +kernel
theorem dX14_sounds_14 : decode cX14_sounds 14 = .ok (.invokevirtual 76, 3) := by decide +kernel
theorem dX14_sounds_17 : decode cX14_sounds 17 = .ok (.checkcast 275, 3) := by decide +kernel
theorem dX14_sounds_20 : decode cX14_sounds 20 = .ok (.astore 6, 2) := by decide +kernel
theorem dX14_sounds_22 : decode cX14_sounds 22 = .ok (.iload 4, 2) := by decide +kernel
theorem dX14_sounds_24 : decode cX14_sounds 24 = .ok (.bipush 98, 2) := by decide +kernel
theorem dX14_sounds_26 : decode cX14_sounds 26 = .ok (.if_icmp .ne 21, 3) := by decide +kernel
theorem dX14_sounds_29 : decode cX14_sounds 29 = .ok (.aload_n 2, 1) := by decide +kernel
theorem dX14_sounds_30 : decode cX14_sounds 30 = .ok (.getfield 300, 3) := by decide +kernel
theorem dX14_sounds_33 : decode cX14_sounds 33 = .ok (.ifCond .eq 14, 3) := by decide +kernel
theorem dX14_sounds_36 : decode cX14_sounds 36 = .ok (.aload_n 0, 1) := by decide +kernel
theorem dX14_sounds_37 : decode cX14_sounds 37 = .ok (.aload 5, 2) := by decide +kernel
theorem dX14_sounds_39 : decode cX14_sounds 39 = .ok (.getfield 133, 3) := by decide +kernel
theorem dX14_sounds_42 : decode cX14_sounds 42 = .ok (.invokevirtual 362, 3) := by decide +kernel
theorem dX14_sounds_45 : decode cX14_sounds 45 = .ok (.iconst 1, 1) := by decide +kernel
theorem dX14_sounds_46 : decode cX14_sounds 46 = .ok (.ireturn, 1) := by decide +kernel
theorem dX14_sounds_47 : decode cX14_sounds 47 = .ok (.iload_n 3, 1) := by decide +kernel
theorem dX14_sounds_48 : decode cX14_sounds 48 = .ok (.ifCond .le 237, 3) := by decide +kernel
theorem dX14_sounds_51 : decode cX14_sounds 51 = .ok (.aload_n 0, 1) := by decide +kernel
theorem dX14_sounds_52 : decode cX14_sounds 52 = .ok (.dup, 1) := by decide +kernel
theorem dX14_sounds_53 : decode cX14_sounds 53 = .ok (.getfield 366, 3) := by decide +kernel
theorem dX14_sounds_56 : decode cX14_sounds 56 = .ok (.iload 4, 2) := by decide +kernel
theorem dX14_sounds_58 : decode cX14_sounds 58 = .ok (.bipush 32, 2) := by decide +kernel
theorem dX14_sounds_60 : decode cX14_sounds 60 = .ok (.if_icmp .eq 17, 3) := by decide +kernel
theorem dX14_sounds_63 : decode cX14_sounds 63 = .ok (.iload 4, 2) := by decide +kernel
theorem dX14_sounds_65 : decode cX14_sounds 65 = .ok (.bipush 100, 2) := by decide +kernel
theorem dX14_sounds_67 : decode cX14_sounds 67 = .ok (.if_icmp .eq 10, 3) := by decide +kernel
theorem dX14_sounds_70 : decode cX14_sounds 70 = .ok (.iload 4, 2) := by decide +kernel
theorem dX14_sounds_72 : decode cX14_sounds 72 = .ok (.bipush 97, 2) := by decide +kernel
theorem dX14_sounds_74 : decode cX14_sounds 74 = .ok (.if_icmp .ne 7, 3) := by decide +kernel
theorem dX14_sounds_77 : decode cX14_sounds 77 = .ok (.iconst 1, 1) := by decide +kernel
theorem dX14_sounds_78 : decode cX14_sounds 78 = .ok (.goto 4, 3) := by decide +kernel
theorem dX14_sounds_81 : decode cX14_sounds 81 = .ok (.iconst 0, 1) := by decide +kernel
theorem dX14_sounds_82 : decode cX14_sounds 82 = .ok (.iadd, 1) := by decide +kernel
theorem dX14_sounds_83 : decode cX14_sounds 83 = .ok (.putfield 366, 3) := by decide +kernel
theorem dX14_sounds_86 : decode cX14_sounds 86 = .ok (.iconst 0, 1) := by decide +kernel
theorem dX14_sounds_87 : decode cX14_sounds 87 = .ok (.istore 7, 2) := by decide +kernel
theorem dX14_sounds_89 : decode cX14_sounds 89 = .ok (.iload 7, 2) := by decide +kernel
theorem dX14_sounds_91 : decode cX14_sounds 91 = .ok (.iload_n 3, 1) := by decide +kernel
theorem dX14_sounds_92 : decode cX14_sounds 92 = .ok (.if_icmp .ge 99, 3) := by decide +kernel
theorem dX14_sounds_95 : decode cX14_sounds 95 = .ok (.aload_n 2, 1) := by decide +kernel
theorem dX14_sounds_96 : decode cX14_sounds 96 = .ok (.getfield 300, 3) := by decide +kernel
theorem dX14_sounds_99 : decode cX14_sounds 99 = .ok (.ifCond .eq 20, 3) := by decide +kernel
theorem dX14_sounds_102 : decode cX14_sounds 102 = .ok (.aload_n 2, 1) := by decide +kernel
theorem dX14_sounds_103 : decode cX14_sounds 103 = .ok (.getfield 320, 3) := by decide +kernel
theorem dX14_sounds_106 : decode cX14_sounds 106 = .ok (.iconst 0, 1) := by decide +kernel
theorem dX14_sounds_107 : decode cX14_sounds 107 = .ok (.invokevirtual 272, 3) := by decide +kernel
theorem dX14_sounds_110 : decode cX14_sounds 110 = .ok (.checkcast 213, 3) := by decide +kernel
theorem dX14_sounds_113 : decode cX14_sounds 113 = .ok (.invokevirtual 222, 3) := by decide +kernel
theorem dX14_sounds_116 : decode cX14_sounds 116 = .ok (.goto 17, 3) := by decide +kernel
theorem dX14_sounds_133 : decode cX14_sounds 133 = .ok (.istore 8, 2) := by decide +kernel
theorem dX14_sounds_135 : decode cX14_sounds 135 = .ok (.iload 4, 2) := by decide +kernel
theorem dX14_sounds_137 : decode cX14_sounds 137 = .ok (.bipush 32, 2) := by decide +kernel
theorem dX14_sounds_139 : decode cX14_sounds 139 = .ok (.if_icmp .ne 26, 3) := by decide +kernel
theorem dX14_sounds_142 : decode cX14_sounds 142 = .ok (.aload_n 2, 1) := by decide +kernel
theorem dX14_sounds_143 : decode cX14_sounds 143 = .ok (.getfield 300, 3) := by decide +kernel
theorem dX14_sounds_146 : decode cX14_sounds 146 = .ok (.ifCond .eq 19, 3) := by decide +kernel
theorem dX14_sounds_149 : decode cX14_sounds 149 = .ok (.aload_n 0, 1) := by decide +kernel
theorem dX14_sounds_150 : decode cX14_sounds 150 = .ok (.getfield 35, 3) := by decide +kernel
theorem dX14_sounds_153 : decode cX14_sounds 153 = .ok (.iload 8, 2) := by decide +kernel
theorem dX14_sounds_155 : decode cX14_sounds 155 = .ok (.invokestatic 212, 3) := by decide +kernel
theorem dX14_sounds_158 : decode cX14_sounds 158 = .ok (.invokevirtual 57, 3) := by decide +kernel
theorem dX14_sounds_161 : decode cX14_sounds 161 = .ok (.pop, 1) := by decide +kernel
theorem dX14_sounds_162 : decode cX14_sounds 162 = .ok (.goto 23, 3) := by decide +kernel
theorem dX14_sounds_165 : decode cX14_sounds 165 = .ok (.iload 4, 2) := by decide +kernel
theorem dX14_sounds_167 : decode cX14_sounds 167 = .ok (.bipush 32, 2) := by decide +kernel
theorem dX14_sounds_169 : decode cX14_sounds 169 = .ok (.if_icmp .ne 16, 3) := by decide +kernel
theorem dX14_sounds_185 : decode cX14_sounds 185 = .ok (.iinc 7 1, 3) := by decide +kernel
theorem dX14_sounds_188 : decode cX14_sounds 188 = .ok (.goto (-99), 3) := by decide +kernel
theorem dX14_sounds_191 : decode cX14_sounds 191 = .ok (.aload 6, 2) := by decide +kernel
theorem dX14_sounds_193 : decode cX14_sounds 193 = .ok (.dup, 1) := by decide +kernel
theorem dX14_sounds_194 : decode cX14_sounds 194 = .ok (.getfield 284, 3) := by decide +kernel
theorem dX14_sounds_197 : decode cX14_sounds 197 = .ok (.iload_n 3, 1) := by decide +kernel
theorem dX14_sounds_198 : decode cX14_sounds 198 = .ok (.iadd, 1) := by decide +kernel
theorem dX14_sounds_199 : decode cX14_sounds 199 = .ok (.putfield 284, 3) := by decide +kernel
theorem dX14_sounds_202 : decode cX14_sounds 202 = .ok (.aload 6, 2) := by decide +kernel
theorem dX14_sounds_204 : decode cX14_sounds 204 = .ok (.aload 6, 2) := by decide +kernel
theorem dX14_sounds_206 : decode cX14_sounds 206 = .ok (.getfield 371, 3) := by decide +kernel
theorem dX14_sounds_209 : decode cX14_sounds 209 = .ok (.ifCond .ne 10, 3) := by decide +kernel
theorem dX14_sounds_212 : decode cX14_sounds 212 = .ok (.iload 4, 2) := by decide +kernel
theorem dX14_sounds_214 : decode cX14_sounds 214 = .ok (.bipush 32, 2) := by decide +kernel
theorem dX14_sounds_216 : decode cX14_sounds 216 = .ok (.if_icmp .eq 7, 3) := by decide +kernel
theorem dX14_sounds_219 : decode cX14_sounds 219 = .ok (.iconst 1, 1) := by decide +kernel
theorem dX14_sounds_220 : decode cX14_sounds 220 = .ok (.goto 4, 3) := by decide +kernel
theorem dX14_sounds_223 : decode cX14_sounds 223 = .ok (.iconst 0, 1) := by decide +kernel
theorem dX14_sounds_224 : decode cX14_sounds 224 = .ok (.putfield 371, 3) := by decide +kernel
theorem dX14_sounds_227 : decode cX14_sounds 227 = .ok (.aload 6, 2) := by decide +kernel
theorem dX14_sounds_229 : decode cX14_sounds 229 = .ok (.getfield 284, 3) := by decide +kernel
theorem dX14_sounds_232 : decode cX14_sounds 232 = .ok (.aload 6, 2) := by decide +kernel
theorem dX14_sounds_234 : decode cX14_sounds 234 = .ok (.getfield 338, 3) := by decide +kernel
theorem dX14_sounds_237 : decode cX14_sounds 237 = .ok (.if_icmp .lt 26, 3) := by decide +kernel
theorem dX14_sounds_240 : decode cX14_sounds 240 = .ok (.aload_n 0, 1) := by decide +kernel
theorem dX14_sounds_241 : decode cX14_sounds 241 = .ok (.iload_n 1, 1) := by decide +kernel
theorem dX14_sounds_242 : decode cX14_sounds 242 = .ok (.aload 6, 2) := by decide +kernel
theorem dX14_sounds_244 : decode cX14_sounds 244 = .ok (.getfield 371, 3) := by decide +kernel
theorem dX14_sounds_247 : decode cX14_sounds 247 = .ok (.ifCond .eq 8, 3) := by decide +kernel
theorem dX14_sounds_250 : decode cX14_sounds 250 = .ok (.bipush 108, 2) := by decide +kernel
theorem dX14_sounds_252 : decode cX14_sounds 252 = .ok (.goto 5, 3) := by decide +kernel
theorem dX14_sounds_255 : decode cX14_sounds 255 = .ok (.bipush 100, 2) := by decide +kernel
theorem dX14_sounds_257 : decode cX14_sounds 257 = .ok (.invokevirtual 290, 3) := by decide +kernel
theorem dX14_sounds_260 : decode cX14_sounds 260 = .ok (.goto 25, 3) := by decide +kernel
theorem dX14_sounds_263 : decode cX14_sounds 263 = .ok (.aload_n 2, 1) := by decide +kernel
theorem dX14_sounds_264 : decode cX14_sounds 264 = .ok (.getfield 300, 3) := by decide +kernel
theorem dX14_sounds_267 : decode cX14_sounds 267 = .ok (.ifCond .eq 18, 3) := by decide +kernel
theorem dX14_sounds_270 : decode cX14_sounds 270 = .ok (.iload_n 3, 1) := by decide +kernel
theorem dX14_sounds_271 : decode cX14_sounds 271 = .ok (.aload_n 2, 1) := by decide +kernel
theorem dX14_sounds_272 : decode cX14_sounds 272 = .ok (.getfield 238, 3) := by decide +kernel
theorem dX14_sounds_275 : decode cX14_sounds 275 = .ok (.if_icmp .ge 10, 3) := by decide +kernel
theorem dX14_sounds_278 : decode cX14_sounds 278 = .ok (.aload_n 0, 1) := by decide +kernel
theorem dX14_sounds_279 : decode cX14_sounds 279 = .ok (.iload_n 1, 1) := by decide +kernel
theorem dX14_sounds_280 : decode cX14_sounds 280 = .ok (.bipush 104, 2) := by decide +kernel
theorem dX14_sounds_282 : decode cX14_sounds 282 = .ok (.invokevirtual 290, 3) := by decide +kernel
theorem dX14_sounds_285 : decode cX14_sounds 285 = .ok (.iconst 1, 1) := by decide +kernel
theorem dX14_sounds_286 : decode cX14_sounds 286 = .ok (.ireturn, 1) := by decide +kernel
set_option maxRecDepth 100000 in
set_option maxHeartbeats 4000000 in
theorem m_soundsI (l : Launch) (D : va_G) (cy : Nat → ClassId) {eda ca : Nat} {ia : Nat → Nat} {σ : SG} {K : KM} {g : GH} {n S hw : Nat} (h : Inv eda ia K g n S hw σ) (hY : nY g) {pp l1 t0 xe le : Nat} (x : Int32) (w : wPp K g σ x pp l1 t0 xe le) (b f0 : Int32) (hbb : 0 ≤ b.toInt ∧ b.toInt ≤ 8) (hin : ¬ sgI σ xe 0 = 0) (hbs : b.toInt ≤ sgSz σ le) (hks : sgI σ pp 2 = 115) (hf0 : 0 ≤ f0.toInt ∧ f0.toInt ≤ 65535) (hcap : sgSz σ le + b.toInt.toNat ≤ S - hw) (hcapG : sgSz σ (kG K) + b.toInt.toNat ≤ S - hw) (sz : Nat) : sgM l D cy eda ca ia σ sz yX14_sounds (Cond.code yX14_sounds cX14_sounds 9 (some .int) :: mWall) 11 266 18 146 [.ref (kA K), .int x, .ref xe, .int b, .int f0] (fun v σ2 => (∃ y : Int32, v = some (.int y) ∧ (y = 1 ∨ y = 2)) ∧ Inv eda ia K g n S hw σ2) := by
  refine sg_ofW (cc := cX14_sounds) (maxL := 9) (ret := (some .int)) (by decide) rfl (Nat.le_of_ble_eq_true rfl) (lv := [(0, .ref (kA K)), (1, .int x), (2, .ref xe), (3, .int b), (4, .int f0)]) rfl (fun p e s m below meth c ls H N hrt hnm F hB hl => ?_) sz
  have hx := F.1.1
  have hb := F.1.2.1
  have hown := F.1.2.2.2.1
  obtain ⟨tp, ⟨tl, rl, ol⟩, ⟨tt, ot, ht⟩, ⟨tle, rle, ole⟩, pn, hcp, hgr, hk1, hen, hrw⟩ := wPp_of h w
  have wc := w
  obtain ⟨⟨w1, w2⟩, hpp, hl1, h0, ha0, txe, hle, ew, ew1, ew2⟩ := w
  obtain ⟨iw1, iw2, iw3, iw4⟩ := ht.resolve_left (hY _)
  have nle : l1 ≠ le := fun z => absurd (rl.symm.trans ((congrArg (gRo g) z).trans rle)) (by decide)
  have nlG : l1 ≠ kG K := fun z => absurd (rl.symm.trans ((congrArg (gRo g) z).trans (inv_tG h).2)) (by decide)
  have nleG : le ≠ kG K := fun z => absurd (rle.symm.trans ((congrArg (gRo g) z).trans (inv_tG h).2)) (by decide)
  have hkp : (sgI σ xe 4).toInt = -1 := by
    rcases hk1 with q | q | q
    · exact absurd q (hY _)
    · exact q
    · exact absurd hks (by have := q.2.2.2.2; rw [hcp] at this; exact this)
  generalize hlo : ([] : List Loc) = locs at hB ⊢
  clear hlo
  refine lv_aload_n hx hb dX14_sounds_0 rfl (lv_at hl 0 rfl) ?_
  refine gr_X14_18 F hB dX14_sounds_1 (inv_A h) (inv_r2 h) ?_
  refine lv_iload_n hx hb dX14_sounds_4 rfl (lv_at hl 1 rfl) ?_
  refine sg_aaldR 9 hx hb F.2.1 hB.1 rfl rfl dX14_sounds_5 (inv_tP h).1 (by omega) (m_ltN (n := 12) (inv_tP h).2 (by omega)) (m_ltM (inv_tP h).2 (by decide)) hpp ?_
  refine lv_astore (lv' := [(5, .ref _), (0, .ref _), (1, .int _), (2, .ref _), (3, .int _), (4, .int _)]) hx hb dX14_sounds_6 hl (by decide) rfl (fun ls hl => ?_)
  refine lv_aload hx hb dX14_sounds_8 (lv_at hl 0 rfl) ?_
  refine gr_X14_199 F hB dX14_sounds_10 tp hl1 ?_
  refine lv_iconst (v := 0) hx hb dX14_sounds_13 (by decide) ?_
  refine sg_callV (ci := 4) F hB (m_getL l D cy (inv_LS h) tl id 0 (by decide) (by rw [m_i0]; omega) ha0 _) (cwV 1 F.1.2.2.2.2 (mgV (mm_4 _ (List.mem_of_getElem? (i := 3) rfl)) (mm_4 _ (List.mem_of_getElem? (i := 4) rfl)) (mm_4 _ (List.mem_of_getElem? (i := 5) rfl)) (mm_0 _ (List.mem_of_getElem? (i := 35) rfl)) (mm_3 _ (List.mem_of_getElem? (i := 34) rfl))) rfl rfl rfl ⟨rfl, by decide, by decide, by decide +kernel⟩ ⟨Nat.le_of_ble_eq_true rfl, Nat.le_of_ble_eq_true rfl⟩) rfl rfl (by decide) rfl hl.1 rfl (Nat.le_of_ble_eq_true rfl) dX14_sounds_14 (Nat.le_of_ble_eq_true rfl) (Nat.add_le_add_right (Nat.le_of_ble_eq_true rfl) _) tl (fun H locs v σ14 N hBn hX14 hP => ?_)
  clear hB; have hB := hBn; clear hBn
  obtain ⟨rfl, rfl⟩ := hP
  refine va_castY hx hb hown (F.1.2.2.2.2 _ (List.mem_cons_of_mem _ (mm_5 _ (List.mem_of_getElem? (i := 25) rfl)))) (F.2.2.1.2.2 ("HubcascadeModel$Transfer", "HubcascadeModel$Transfer") (by decide +kernel)) (sg_recv (ci := 18) F.2.1 hB tt (by decide) rfl) dX14_sounds_17 ?_
  refine lv_astore (lv' := [(6, .ref _), (5, .ref _), (0, .ref _), (1, .int _), (2, .ref _), (3, .int _), (4, .int _)]) hx hb dX14_sounds_20 hl (by decide) rfl (fun ls hl => ?_)
  refine lv_iload hx hb dX14_sounds_22 (lv_at hl 6 rfl) ?_
  refine lv_bipush (v := 98) hx hb dX14_sounds_24 (by decide) ?_
  refine lv_icmp_ne (tgt := 47) hx hb dX14_sounds_26 (by decide) (fun c26 => ?_) (fun c26 => ?_)
  · refine lv_iload_n hx hb dX14_sounds_47 rfl (lv_at hl 5 rfl) ?_
    refine lv_if_le (tgt := 285) hx hb dX14_sounds_48 (by decide) (fun c48 => ?_) (fun c48 => ?_)
    · first
        | have hfin := hI257b
        | have hfin := hI282b
        | have hfin := inv_dnw h wC (iW_C hBC (iW_L hB199 i3 tt3 tx3 hbb.1 hbb.2 (m_ltC hBC i3 hbb.1 hbb.2 c237)))
        | have hfin : Inv eda ia K g n S hw _ := h
      refine lv_iconst (v := 1) hx hb dX14_sounds_285 (by decide) ?_
      exact sg_iret F hB hrt dX14_sounds_286 (by omega) (by omega) (⟨⟨_, rfl, Or.inl rfl⟩, hfin⟩)
    · refine lv_aload_n hx hb dX14_sounds_51 rfl (lv_at hl 2 rfl) ?_
      refine lv_dup hx hb dX14_sounds_52 rfl ?_
      refine gf_X14_366 F hB dX14_sounds_53 (inv_A h) ?_
      refine lv_iload hx hb dX14_sounds_56 (lv_at hl 6 rfl) ?_
      refine lv_bipush (v := 32) hx hb dX14_sounds_58 (by decide) ?_
      refine lv_icmp_eq (tgt := 77) hx hb dX14_sounds_60 (by decide) (fun c60 => ?_) (fun c60 => ?_)
      · refine lv_iconst (v := 1) hx hb dX14_sounds_77 (by decide) ?_
        refine lv_goto (tgt := 82) hx hb dX14_sounds_78 (by decide) ?_
        refine lv_iadd hx hb dX14_sounds_82 ?_
        refine pf_X14_366 F hB dX14_sounds_83 (inv_A h) (fun H locs hBn => ?_)
        clear hB; have hB := hBn; clear hBn
        have hI83 := inv_PIc (t := 20) hB h (inv_A h) (by unfold iCn; omega)
        have z83 := zPIB (l1 := l1) (t := 20) hB (inv_A h) (by decide) tl
        have hb0 := i_nle c48
        rw [m_i0] at hb0
        obtain ⟨kc, hkc⟩ : ∃ kc : Nat, kc = 0 := ⟨_, rfl⟩
        refine W.widen (k := kc) (n := N) (by omega) (Nat.le_refl _) ?_
        refine lv_iconst (v := 0) hx hb dX14_sounds_86 (by decide) ?_
        refine lv_istore (lv' := [(7, .int _), (6, .ref _), (5, .ref _), (0, .ref _), (1, .int _), (2, .ref _), (3, .int _), (4, .int _)]) hx hb dX14_sounds_87 hl (by decide) rfl (fun ls hl => ?_)
        have key89 : ∃ (σ3 : SG) (k9 : Int32) (nc : Nat), sgB D cy s σ σ3 H locs N nc ∧ lv_has ls 9 [(7, .int k9), (6, .ref t0), (5, .ref pp), (4, .int f0), (3, .int b), (2, .ref xe), (1, .int x), (0, .ref (kA K))] ∧ Inv eda ia K g n S hw σ3 ∧ (0 ≤ k9.toInt ∧ k9.toInt ≤ b.toInt) ∧ sgSz σ3 le = sgSz σ le - k9.toInt.toNat ∧ sgSz σ3 (kG K) ≤ sgSz σ (kG K) + k9.toInt.toNat ∧ (kc ≤ 2 * k9.toInt.toNat ∧ nc ≤ 16 * k9.toInt.toNat) ∧ sgI σ3 xe 4 = sgI σ xe 4 ∧ zR l1 σ σ3 := ⟨_, _, _, hB, (lv_sub hl [0, 1, 2, 7, 6, 5, 4, 3] rfl), hI83, ⟨by decide, by rw [m_i0]; omega⟩, by rw [m_i0]; exact (sgSz_nk (by decide)).trans rfl, by rw [m_i0]; exact Nat.le_of_eq (sgSz_nk (by decide)), ⟨by omega, by omega⟩, sgI_nk (by decide), z83⟩
        clear hB hl hkc
        obtain ⟨σ3, k9, nc, hB, hl, hI3, hi, hzl, hzG, hkn, hz4, hzr⟩ := key89
        obtain ⟨d89, hd89⟩ : ∃ d : Nat, d = (b.toInt - k9.toInt).toNat := ⟨_, rfl⟩
        induction d89 using Nat.strongRecOn generalizing H locs ls N σ3 k9 nc kc
        rename_i d89 ih89
        have tx3 : sgT σ3 xe = 17 := tFr_T hzr.1 txe (by decide)
        have tp3 : sgT σ3 pp = 18 := tFr_T hzr.1 tp (by decide)
        have tle3 : sgT σ3 le = 5 := tFr_T hzr.1 tle (by decide)
        have hle3 : sgR σ3 xe 3 = some le := (hzr.2.2.2.2.1 xe 3 (by rw [txe]; decide)).trans hle
        have tl3 : sgT σ3 l1 = 5 := tFr_T hzr.1 tl (by decide)
        have tt3 : sgT σ3 t0 = 19 := tFr_T hzr.1 tt (by decide)
        have d3 : sgI σ3 t0 2 = sgI σ t0 2 := hzr.2.1 t0 2 tt
        have x03 : sgI σ3 xe 0 = sgI σ xe 0 := hzr.2.2.2.1 xe 0 txe (by decide)
        refine lv_iload hx hb dX14_sounds_89 (lv_at hl 0 rfl) ?_
        refine lv_iload_n hx hb dX14_sounds_91 rfl (lv_at hl 4 rfl) ?_
        refine lv_icmp_ge (tgt := 191) hx hb dX14_sounds_92 (by decide) (fun c92 => ?_) (fun c92 => ?_)
        · have hi4 := i_le c92
          refine W.widen (k := 16) (n := N) (show kc ≤ 16 from by omega) (Nat.le_refl _) ?_
          have hBn := sgB_up (n2 := 128) hB (show nc ≤ 128 from by omega)
          clear hB; have hB := hBn; clear hBn
          refine lv_aload hx hb dX14_sounds_191 (lv_at hl 1 rfl) ?_
          refine lv_dup hx hb dX14_sounds_193 rfl ?_
          refine gf_X14_284 F hB dX14_sounds_194 tt3 ?_
          refine lv_iload_n hx hb dX14_sounds_197 rfl (lv_at hl 4 rfl) ?_
          refine lv_iadd hx hb dX14_sounds_198 ?_
          refine pf_X14_284 F hB dX14_sounds_199 tt3 (fun H locs hBn => ?_)
          clear hB; have hB := hBn; clear hBn
          have hI199 := inv_dnB hB hI3 tt3
          have w3 := wPp_z h wc hzr
          have wB := wPp_hB hB (wPp_PI w3 (Or.inr ⟨fun z => absurd (tt3.symm.trans z) (by decide), fun z => absurd (tt3.symm.trans z) (by decide)⟩) tp3 tl3)
          have hB199 := hB
          have i3 := iW_tr hzr.1 (inv_T h) tt (hzr.2.1 t0 1 tt) (hzr.2.1 t0 2 tt) x03 (hzr.2.2.2.2.1 t0 0 (by rw [tt]; decide)) ⟨iw1, iw2, iw3, iw4⟩
          refine lv_aload hx hb dX14_sounds_202 (lv_at hl 1 rfl) ?_
          refine lv_aload hx hb dX14_sounds_204 (lv_at hl 1 rfl) ?_
          refine gf_X14_371 F hB dX14_sounds_206 (by exact tt3) ?_
          refine lv_if_ne (tgt := 219) hx hb dX14_sounds_209 (by decide) (fun c209 => ?_) (fun c209 => ?_)
          · refine lv_iconst (v := 1) hx hb dX14_sounds_219 (by decide) ?_
            refine lv_goto (tgt := 224) hx hb dX14_sounds_220 (by decide) ?_
            refine pf_X14_371 F hB dX14_sounds_224 (by exact tt3) ⟨by decide, by decide⟩ (fun H locs hBn => ?_)
            clear hB; have hB := hBn; clear hBn
            have hI224 := inv_PIc (t := 19) hB hI199 (by exact tt3) (by unfold iCn; omega)
            have wC := wPp_hB4 hB (wPp_PI wB (Or.inr ⟨fun z => absurd (tt3.symm.trans z) (by decide), fun z => absurd (tt3.symm.trans z) (by decide)⟩) (by exact tp3) (by exact tl3))
            have hBC := hB
            refine lv_aload hx hb dX14_sounds_227 (lv_at hl 1 rfl) ?_
            refine gf_X14_284 F hB dX14_sounds_229 (by exact tt3) ?_
            refine lv_aload hx hb dX14_sounds_232 (lv_at hl 1 rfl) ?_
            refine gf_X14_338 F hB dX14_sounds_234 (by exact tt3) ?_
            refine lv_icmp_lt (tgt := 263) hx hb dX14_sounds_237 (by decide) (fun c237 => ?_) (fun c237 => ?_)
            · refine lv_aload_n hx hb dX14_sounds_263 rfl (lv_at hl 5 rfl) ?_
              refine gf_X14_300 F hB dX14_sounds_264 (by exact tx3) ?_
              refine lv_if_eq (tgt := 285) hx hb dX14_sounds_267 (by decide) (fun c267 => ((hin ((((sgI_nk (by decide)).trans (sgI_nk (by decide))).trans x03).symm.trans c267)) : False).elim) (fun c267 => ?_)
              refine lv_iload_n hx hb dX14_sounds_270 rfl (lv_at hl 4 rfl) ?_
              refine lv_aload_n hx hb dX14_sounds_271 rfl (lv_at hl 5 rfl) ?_
              refine gf_X14_238 F hB dX14_sounds_272 (by exact tx3) ?_
              refine lv_icmp_ge (tgt := 285) hx hb dX14_sounds_275 (by decide) (fun c275 => ?_) (fun c275 => ?_)
              · first
                  | have hfin := hI257b
                  | have hfin := hI282b
                  | have hfin := inv_dnw hI224 wC (iW_C hBC (iW_L hB199 i3 tt3 tx3 hbb.1 hbb.2 (m_ltC hBC i3 hbb.1 hbb.2 c237)))
                  | have hfin : Inv eda ia K g n S hw _ := hI224
                refine lv_iconst (v := 1) hx hb dX14_sounds_285 (by decide) ?_
                exact sg_iret F hB hrt dX14_sounds_286 (by omega) (by omega) (⟨⟨_, rfl, Or.inl rfl⟩, hfin⟩)
              · obtain ⟨m1, hm1⟩ := m_evm hB (K := K)
                refine lv_aload_n hx hb dX14_sounds_278 rfl (lv_at hl 7 rfl) ?_
                refine lv_iload_n hx hb dX14_sounds_279 rfl (lv_at hl 6 rfl) ?_
                refine lv_bipush (v := 104) hx hb dX14_sounds_280 (by decide) ?_
                refine sg_callV (ci := 19) F hB (m_ends l D cy hI224 x 104 wC.1.1 wC.1.2 wC.2.1 wC.2.2.1 wC.2.2.2.1 hm1 _) (cwV 2 F.1.2.2.2.2 (mgV (mm_5 _ (List.mem_of_getElem? (i := 33) rfl)) (mm_5 _ (List.mem_of_getElem? (i := 34) rfl)) (mm_5 _ (List.mem_of_getElem? (i := 35) rfl)) (mm_3 _ (List.mem_of_getElem? (i := 23) rfl)) (mm_5 _ (List.mem_of_getElem? (i := 32) rfl))) rfl rfl rfl ⟨rfl, by decide, by decide, by decide +kernel⟩ ⟨Nat.le_of_ble_eq_true rfl, Nat.le_of_ble_eq_true rfl⟩) rfl rfl (by decide) rfl hl.1 rfl (Nat.le_of_ble_eq_true rfl) dX14_sounds_282 (Nat.le_trans (show _ ≤ 18 from by omega) (Nat.le_of_ble_eq_true rfl)) (Nat.add_le_add_right (Nat.le_trans (show _ ≤ 146 from by omega) (Nat.le_of_ble_eq_true rfl)) _) (inv_A hI224) (fun H locs v σ282 N hBn hX282 hP => ?_)
                clear hB; have hB := hBn; clear hBn
                refine W.widen (k := 18) (n := N) (show _ ≤ 18 from by omega) (Nat.le_refl _) ?_
                have hBn := sgB_up (n2 := 146) hB (show _ ≤ 146 from by omega)
                clear hB; have hB := hBn; clear hBn
                obtain ⟨rfl, hI282, en1_282, en2_282, en3_282, en4_282⟩ := hP
                have hI282b := inv_dne hI224 wC hI282 en1_282 en2_282 en4_282
                first
                  | have hfin := hI257b
                  | have hfin := hI282b
                  | have hfin := inv_dnw hI282b wC (iW_C hBC (iW_L hB199 i3 tt3 tx3 hbb.1 hbb.2 (m_ltC hBC i3 hbb.1 hbb.2 c237)))
                  | have hfin : Inv eda ia K g n S hw _ := hI282b
                refine lv_iconst (v := 1) hx hb dX14_sounds_285 (by decide) ?_
                exact sg_iret F hB hrt dX14_sounds_286 (by omega) (by omega) (⟨⟨_, rfl, Or.inl rfl⟩, hfin⟩)
            · obtain ⟨m1, hm1⟩ := m_evm hB (K := K)
              refine lv_aload_n hx hb dX14_sounds_240 rfl (lv_at hl 7 rfl) ?_
              refine lv_iload_n hx hb dX14_sounds_241 rfl (lv_at hl 6 rfl) ?_
              refine lv_aload hx hb dX14_sounds_242 (lv_at hl 1 rfl) ?_
              refine gf_X14_371 F hB dX14_sounds_244 (by exact tt3) ?_
              refine lv_if_eq (tgt := 255) hx hb dX14_sounds_247 (by decide) (fun c247 => ?_) (fun c247 => ?_)
              · refine lv_bipush (v := 100) hx hb dX14_sounds_255 (by decide) ?_
                refine sg_callV (ci := 19) F hB (m_ends l D cy hI224 x _ wC.1.1 wC.1.2 wC.2.1 wC.2.2.1 wC.2.2.2.1 hm1 _) (cwV 2 F.1.2.2.2.2 (mgV (mm_5 _ (List.mem_of_getElem? (i := 33) rfl)) (mm_5 _ (List.mem_of_getElem? (i := 34) rfl)) (mm_5 _ (List.mem_of_getElem? (i := 35) rfl)) (mm_3 _ (List.mem_of_getElem? (i := 23) rfl)) (mm_5 _ (List.mem_of_getElem? (i := 32) rfl))) rfl rfl rfl ⟨rfl, by decide, by decide, by decide +kernel⟩ ⟨Nat.le_of_ble_eq_true rfl, Nat.le_of_ble_eq_true rfl⟩) rfl rfl (by decide) rfl hl.1 rfl (Nat.le_of_ble_eq_true rfl) dX14_sounds_257 (Nat.le_trans (show _ ≤ 18 from by omega) (Nat.le_of_ble_eq_true rfl)) (Nat.add_le_add_right (Nat.le_trans (show _ ≤ 146 from by omega) (Nat.le_of_ble_eq_true rfl)) _) (inv_A hI224) (fun H locs v σ257 N hBn hX257 hP => ?_)
                clear hB; have hB := hBn; clear hBn
                refine W.widen (k := 18) (n := N) (show _ ≤ 18 from by omega) (Nat.le_refl _) ?_
                have hBn := sgB_up (n2 := 146) hB (show _ ≤ 146 from by omega)
                clear hB; have hB := hBn; clear hBn
                obtain ⟨rfl, hI257, en1_257, en2_257, en3_257, en4_257⟩ := hP
                have hI257b := inv_dne hI224 wC hI257 en1_257 en2_257 en4_257
                refine lv_goto (tgt := 285) hx hb dX14_sounds_260 (by decide) ?_
                first
                  | have hfin := hI257b
                  | have hfin := hI282b
                  | have hfin := inv_dnw hI257b wC (iW_C hBC (iW_L hB199 i3 tt3 tx3 hbb.1 hbb.2 (m_ltC hBC i3 hbb.1 hbb.2 c237)))
                  | have hfin : Inv eda ia K g n S hw _ := hI257b
                refine lv_iconst (v := 1) hx hb dX14_sounds_285 (by decide) ?_
                exact sg_iret F hB hrt dX14_sounds_286 (by omega) (by omega) (⟨⟨_, rfl, Or.inl rfl⟩, hfin⟩)
              · refine lv_bipush (v := 108) hx hb dX14_sounds_250 (by decide) ?_
                refine lv_goto (tgt := 257) hx hb dX14_sounds_252 (by decide) ?_
                refine sg_callV (ci := 19) F hB (m_ends l D cy hI224 x _ wC.1.1 wC.1.2 wC.2.1 wC.2.2.1 wC.2.2.2.1 hm1 _) (cwV 2 F.1.2.2.2.2 (mgV (mm_5 _ (List.mem_of_getElem? (i := 33) rfl)) (mm_5 _ (List.mem_of_getElem? (i := 34) rfl)) (mm_5 _ (List.mem_of_getElem? (i := 35) rfl)) (mm_3 _ (List.mem_of_getElem? (i := 23) rfl)) (mm_5 _ (List.mem_of_getElem? (i := 32) rfl))) rfl rfl rfl ⟨rfl, by decide, by decide, by decide +kernel⟩ ⟨Nat.le_of_ble_eq_true rfl, Nat.le_of_ble_eq_true rfl⟩) rfl rfl (by decide) rfl hl.1 rfl (Nat.le_of_ble_eq_true rfl) dX14_sounds_257 (Nat.le_trans (show _ ≤ 18 from by omega) (Nat.le_of_ble_eq_true rfl)) (Nat.add_le_add_right (Nat.le_trans (show _ ≤ 146 from by omega) (Nat.le_of_ble_eq_true rfl)) _) (inv_A hI224) (fun H locs v σ257 N hBn hX257 hP => ?_)
                clear hB; have hB := hBn; clear hBn
                refine W.widen (k := 18) (n := N) (show _ ≤ 18 from by omega) (Nat.le_refl _) ?_
                have hBn := sgB_up (n2 := 146) hB (show _ ≤ 146 from by omega)
                clear hB; have hB := hBn; clear hBn
                obtain ⟨rfl, hI257, en1_257, en2_257, en3_257, en4_257⟩ := hP
                have hI257b := inv_dne hI224 wC hI257 en1_257 en2_257 en4_257
                refine lv_goto (tgt := 285) hx hb dX14_sounds_260 (by decide) ?_
                first
                  | have hfin := hI257b
                  | have hfin := hI282b
                  | have hfin := inv_dnw hI257b wC (iW_C hBC (iW_L hB199 i3 tt3 tx3 hbb.1 hbb.2 (m_ltC hBC i3 hbb.1 hbb.2 c237)))
                  | have hfin : Inv eda ia K g n S hw _ := hI257b
                refine lv_iconst (v := 1) hx hb dX14_sounds_285 (by decide) ?_
                exact sg_iret F hB hrt dX14_sounds_286 (by omega) (by omega) (⟨⟨_, rfl, Or.inl rfl⟩, hfin⟩)
          · refine lv_iload hx hb dX14_sounds_212 (lv_at hl 3 rfl) ?_
            refine lv_bipush (v := 32) hx hb dX14_sounds_214 (by decide) ?_
            refine lv_icmp_eq (tgt := 223) hx hb dX14_sounds_216 (by decide) (fun c216 => ?_) (fun c216 => ?_)
            · refine lv_iconst (v := 0) hx hb dX14_sounds_223 (by decide) ?_
              refine pf_X14_371 F hB dX14_sounds_224 (by exact tt3) ⟨by decide, by decide⟩ (fun H locs hBn => ?_)
              clear hB; have hB := hBn; clear hBn
              have hI224 := inv_PIc (t := 19) hB hI199 (by exact tt3) (by unfold iCn; omega)
              have wC := wPp_hB4 hB (wPp_PI wB (Or.inr ⟨fun z => absurd (tt3.symm.trans z) (by decide), fun z => absurd (tt3.symm.trans z) (by decide)⟩) (by exact tp3) (by exact tl3))
              have hBC := hB
              refine lv_aload hx hb dX14_sounds_227 (lv_at hl 1 rfl) ?_
              refine gf_X14_284 F hB dX14_sounds_229 (by exact tt3) ?_
              refine lv_aload hx hb dX14_sounds_232 (lv_at hl 1 rfl) ?_
              refine gf_X14_338 F hB dX14_sounds_234 (by exact tt3) ?_
              refine lv_icmp_lt (tgt := 263) hx hb dX14_sounds_237 (by decide) (fun c237 => ?_) (fun c237 => ?_)
              · refine lv_aload_n hx hb dX14_sounds_263 rfl (lv_at hl 5 rfl) ?_
                refine gf_X14_300 F hB dX14_sounds_264 (by exact tx3) ?_
                refine lv_if_eq (tgt := 285) hx hb dX14_sounds_267 (by decide) (fun c267 => ((hin ((((sgI_nk (by decide)).trans (sgI_nk (by decide))).trans x03).symm.trans c267)) : False).elim) (fun c267 => ?_)
                refine lv_iload_n hx hb dX14_sounds_270 rfl (lv_at hl 4 rfl) ?_
                refine lv_aload_n hx hb dX14_sounds_271 rfl (lv_at hl 5 rfl) ?_
                refine gf_X14_238 F hB dX14_sounds_272 (by exact tx3) ?_
                refine lv_icmp_ge (tgt := 285) hx hb dX14_sounds_275 (by decide) (fun c275 => ?_) (fun c275 => ?_)
                · first
                    | have hfin := hI257b
                    | have hfin := hI282b
                    | have hfin := inv_dnw hI224 wC (iW_C hBC (iW_L hB199 i3 tt3 tx3 hbb.1 hbb.2 (m_ltC hBC i3 hbb.1 hbb.2 c237)))
                    | have hfin : Inv eda ia K g n S hw _ := hI224
                  refine lv_iconst (v := 1) hx hb dX14_sounds_285 (by decide) ?_
                  exact sg_iret F hB hrt dX14_sounds_286 (by omega) (by omega) (⟨⟨_, rfl, Or.inl rfl⟩, hfin⟩)
                · obtain ⟨m1, hm1⟩ := m_evm hB (K := K)
                  refine lv_aload_n hx hb dX14_sounds_278 rfl (lv_at hl 7 rfl) ?_
                  refine lv_iload_n hx hb dX14_sounds_279 rfl (lv_at hl 6 rfl) ?_
                  refine lv_bipush (v := 104) hx hb dX14_sounds_280 (by decide) ?_
                  refine sg_callV (ci := 19) F hB (m_ends l D cy hI224 x 104 wC.1.1 wC.1.2 wC.2.1 wC.2.2.1 wC.2.2.2.1 hm1 _) (cwV 2 F.1.2.2.2.2 (mgV (mm_5 _ (List.mem_of_getElem? (i := 33) rfl)) (mm_5 _ (List.mem_of_getElem? (i := 34) rfl)) (mm_5 _ (List.mem_of_getElem? (i := 35) rfl)) (mm_3 _ (List.mem_of_getElem? (i := 23) rfl)) (mm_5 _ (List.mem_of_getElem? (i := 32) rfl))) rfl rfl rfl ⟨rfl, by decide, by decide, by decide +kernel⟩ ⟨Nat.le_of_ble_eq_true rfl, Nat.le_of_ble_eq_true rfl⟩) rfl rfl (by decide) rfl hl.1 rfl (Nat.le_of_ble_eq_true rfl) dX14_sounds_282 (Nat.le_trans (show _ ≤ 18 from by omega) (Nat.le_of_ble_eq_true rfl)) (Nat.add_le_add_right (Nat.le_trans (show _ ≤ 146 from by omega) (Nat.le_of_ble_eq_true rfl)) _) (inv_A hI224) (fun H locs v σ282 N hBn hX282 hP => ?_)
                  clear hB; have hB := hBn; clear hBn
                  refine W.widen (k := 18) (n := N) (show _ ≤ 18 from by omega) (Nat.le_refl _) ?_
                  have hBn := sgB_up (n2 := 146) hB (show _ ≤ 146 from by omega)
                  clear hB; have hB := hBn; clear hBn
                  obtain ⟨rfl, hI282, en1_282, en2_282, en3_282, en4_282⟩ := hP
                  have hI282b := inv_dne hI224 wC hI282 en1_282 en2_282 en4_282
                  first
                    | have hfin := hI257b
                    | have hfin := hI282b
                    | have hfin := inv_dnw hI282b wC (iW_C hBC (iW_L hB199 i3 tt3 tx3 hbb.1 hbb.2 (m_ltC hBC i3 hbb.1 hbb.2 c237)))
                    | have hfin : Inv eda ia K g n S hw _ := hI282b
                  refine lv_iconst (v := 1) hx hb dX14_sounds_285 (by decide) ?_
                  exact sg_iret F hB hrt dX14_sounds_286 (by omega) (by omega) (⟨⟨_, rfl, Or.inl rfl⟩, hfin⟩)
              · obtain ⟨m1, hm1⟩ := m_evm hB (K := K)
                refine lv_aload_n hx hb dX14_sounds_240 rfl (lv_at hl 7 rfl) ?_
                refine lv_iload_n hx hb dX14_sounds_241 rfl (lv_at hl 6 rfl) ?_
                refine lv_aload hx hb dX14_sounds_242 (lv_at hl 1 rfl) ?_
                refine gf_X14_371 F hB dX14_sounds_244 (by exact tt3) ?_
                refine lv_if_eq (tgt := 255) hx hb dX14_sounds_247 (by decide) (fun c247 => ?_) (fun c247 => ?_)
                · refine lv_bipush (v := 100) hx hb dX14_sounds_255 (by decide) ?_
                  refine sg_callV (ci := 19) F hB (m_ends l D cy hI224 x _ wC.1.1 wC.1.2 wC.2.1 wC.2.2.1 wC.2.2.2.1 hm1 _) (cwV 2 F.1.2.2.2.2 (mgV (mm_5 _ (List.mem_of_getElem? (i := 33) rfl)) (mm_5 _ (List.mem_of_getElem? (i := 34) rfl)) (mm_5 _ (List.mem_of_getElem? (i := 35) rfl)) (mm_3 _ (List.mem_of_getElem? (i := 23) rfl)) (mm_5 _ (List.mem_of_getElem? (i := 32) rfl))) rfl rfl rfl ⟨rfl, by decide, by decide, by decide +kernel⟩ ⟨Nat.le_of_ble_eq_true rfl, Nat.le_of_ble_eq_true rfl⟩) rfl rfl (by decide) rfl hl.1 rfl (Nat.le_of_ble_eq_true rfl) dX14_sounds_257 (Nat.le_trans (show _ ≤ 18 from by omega) (Nat.le_of_ble_eq_true rfl)) (Nat.add_le_add_right (Nat.le_trans (show _ ≤ 146 from by omega) (Nat.le_of_ble_eq_true rfl)) _) (inv_A hI224) (fun H locs v σ257 N hBn hX257 hP => ?_)
                  clear hB; have hB := hBn; clear hBn
                  refine W.widen (k := 18) (n := N) (show _ ≤ 18 from by omega) (Nat.le_refl _) ?_
                  have hBn := sgB_up (n2 := 146) hB (show _ ≤ 146 from by omega)
                  clear hB; have hB := hBn; clear hBn
                  obtain ⟨rfl, hI257, en1_257, en2_257, en3_257, en4_257⟩ := hP
                  have hI257b := inv_dne hI224 wC hI257 en1_257 en2_257 en4_257
                  refine lv_goto (tgt := 285) hx hb dX14_sounds_260 (by decide) ?_
                  first
                    | have hfin := hI257b
                    | have hfin := hI282b
                    | have hfin := inv_dnw hI257b wC (iW_C hBC (iW_L hB199 i3 tt3 tx3 hbb.1 hbb.2 (m_ltC hBC i3 hbb.1 hbb.2 c237)))
                    | have hfin : Inv eda ia K g n S hw _ := hI257b
                  refine lv_iconst (v := 1) hx hb dX14_sounds_285 (by decide) ?_
                  exact sg_iret F hB hrt dX14_sounds_286 (by omega) (by omega) (⟨⟨_, rfl, Or.inl rfl⟩, hfin⟩)
                · refine lv_bipush (v := 108) hx hb dX14_sounds_250 (by decide) ?_
                  refine lv_goto (tgt := 257) hx hb dX14_sounds_252 (by decide) ?_
                  refine sg_callV (ci := 19) F hB (m_ends l D cy hI224 x _ wC.1.1 wC.1.2 wC.2.1 wC.2.2.1 wC.2.2.2.1 hm1 _) (cwV 2 F.1.2.2.2.2 (mgV (mm_5 _ (List.mem_of_getElem? (i := 33) rfl)) (mm_5 _ (List.mem_of_getElem? (i := 34) rfl)) (mm_5 _ (List.mem_of_getElem? (i := 35) rfl)) (mm_3 _ (List.mem_of_getElem? (i := 23) rfl)) (mm_5 _ (List.mem_of_getElem? (i := 32) rfl))) rfl rfl rfl ⟨rfl, by decide, by decide, by decide +kernel⟩ ⟨Nat.le_of_ble_eq_true rfl, Nat.le_of_ble_eq_true rfl⟩) rfl rfl (by decide) rfl hl.1 rfl (Nat.le_of_ble_eq_true rfl) dX14_sounds_257 (Nat.le_trans (show _ ≤ 18 from by omega) (Nat.le_of_ble_eq_true rfl)) (Nat.add_le_add_right (Nat.le_trans (show _ ≤ 146 from by omega) (Nat.le_of_ble_eq_true rfl)) _) (inv_A hI224) (fun H locs v σ257 N hBn hX257 hP => ?_)
                  clear hB; have hB := hBn; clear hBn
                  refine W.widen (k := 18) (n := N) (show _ ≤ 18 from by omega) (Nat.le_refl _) ?_
                  have hBn := sgB_up (n2 := 146) hB (show _ ≤ 146 from by omega)
                  clear hB; have hB := hBn; clear hBn
                  obtain ⟨rfl, hI257, en1_257, en2_257, en3_257, en4_257⟩ := hP
                  have hI257b := inv_dne hI224 wC hI257 en1_257 en2_257 en4_257
                  refine lv_goto (tgt := 285) hx hb dX14_sounds_260 (by decide) ?_
                  first
                    | have hfin := hI257b
                    | have hfin := hI282b
                    | have hfin := inv_dnw hI257b wC (iW_C hBC (iW_L hB199 i3 tt3 tx3 hbb.1 hbb.2 (m_ltC hBC i3 hbb.1 hbb.2 c237)))
                    | have hfin : Inv eda ia K g n S hw _ := hI257b
                  refine lv_iconst (v := 1) hx hb dX14_sounds_285 (by decide) ?_
                  exact sg_iret F hB hrt dX14_sounds_286 (by omega) (by omega) (⟨⟨_, rfl, Or.inl rfl⟩, hfin⟩)
            · refine lv_iconst (v := 1) hx hb dX14_sounds_219 (by decide) ?_
              refine lv_goto (tgt := 224) hx hb dX14_sounds_220 (by decide) ?_
              refine pf_X14_371 F hB dX14_sounds_224 (by exact tt3) ⟨by decide, by decide⟩ (fun H locs hBn => ?_)
              clear hB; have hB := hBn; clear hBn
              have hI224 := inv_PIc (t := 19) hB hI199 (by exact tt3) (by unfold iCn; omega)
              have wC := wPp_hB4 hB (wPp_PI wB (Or.inr ⟨fun z => absurd (tt3.symm.trans z) (by decide), fun z => absurd (tt3.symm.trans z) (by decide)⟩) (by exact tp3) (by exact tl3))
              have hBC := hB
              refine lv_aload hx hb dX14_sounds_227 (lv_at hl 1 rfl) ?_
              refine gf_X14_284 F hB dX14_sounds_229 (by exact tt3) ?_
              refine lv_aload hx hb dX14_sounds_232 (lv_at hl 1 rfl) ?_
              refine gf_X14_338 F hB dX14_sounds_234 (by exact tt3) ?_
              refine lv_icmp_lt (tgt := 263) hx hb dX14_sounds_237 (by decide) (fun c237 => ?_) (fun c237 => ?_)
              · refine lv_aload_n hx hb dX14_sounds_263 rfl (lv_at hl 5 rfl) ?_
                refine gf_X14_300 F hB dX14_sounds_264 (by exact tx3) ?_
                refine lv_if_eq (tgt := 285) hx hb dX14_sounds_267 (by decide) (fun c267 => ((hin ((((sgI_nk (by decide)).trans (sgI_nk (by decide))).trans x03).symm.trans c267)) : False).elim) (fun c267 => ?_)
                refine lv_iload_n hx hb dX14_sounds_270 rfl (lv_at hl 4 rfl) ?_
                refine lv_aload_n hx hb dX14_sounds_271 rfl (lv_at hl 5 rfl) ?_
                refine gf_X14_238 F hB dX14_sounds_272 (by exact tx3) ?_
                refine lv_icmp_ge (tgt := 285) hx hb dX14_sounds_275 (by decide) (fun c275 => ?_) (fun c275 => ?_)
                · first
                    | have hfin := hI257b
                    | have hfin := hI282b
                    | have hfin := inv_dnw hI224 wC (iW_C hBC (iW_L hB199 i3 tt3 tx3 hbb.1 hbb.2 (m_ltC hBC i3 hbb.1 hbb.2 c237)))
                    | have hfin : Inv eda ia K g n S hw _ := hI224
                  refine lv_iconst (v := 1) hx hb dX14_sounds_285 (by decide) ?_
                  exact sg_iret F hB hrt dX14_sounds_286 (by omega) (by omega) (⟨⟨_, rfl, Or.inl rfl⟩, hfin⟩)
                · obtain ⟨m1, hm1⟩ := m_evm hB (K := K)
                  refine lv_aload_n hx hb dX14_sounds_278 rfl (lv_at hl 7 rfl) ?_
                  refine lv_iload_n hx hb dX14_sounds_279 rfl (lv_at hl 6 rfl) ?_
                  refine lv_bipush (v := 104) hx hb dX14_sounds_280 (by decide) ?_
                  refine sg_callV (ci := 19) F hB (m_ends l D cy hI224 x 104 wC.1.1 wC.1.2 wC.2.1 wC.2.2.1 wC.2.2.2.1 hm1 _) (cwV 2 F.1.2.2.2.2 (mgV (mm_5 _ (List.mem_of_getElem? (i := 33) rfl)) (mm_5 _ (List.mem_of_getElem? (i := 34) rfl)) (mm_5 _ (List.mem_of_getElem? (i := 35) rfl)) (mm_3 _ (List.mem_of_getElem? (i := 23) rfl)) (mm_5 _ (List.mem_of_getElem? (i := 32) rfl))) rfl rfl rfl ⟨rfl, by decide, by decide, by decide +kernel⟩ ⟨Nat.le_of_ble_eq_true rfl, Nat.le_of_ble_eq_true rfl⟩) rfl rfl (by decide) rfl hl.1 rfl (Nat.le_of_ble_eq_true rfl) dX14_sounds_282 (Nat.le_trans (show _ ≤ 18 from by omega) (Nat.le_of_ble_eq_true rfl)) (Nat.add_le_add_right (Nat.le_trans (show _ ≤ 146 from by omega) (Nat.le_of_ble_eq_true rfl)) _) (inv_A hI224) (fun H locs v σ282 N hBn hX282 hP => ?_)
                  clear hB; have hB := hBn; clear hBn
                  refine W.widen (k := 18) (n := N) (show _ ≤ 18 from by omega) (Nat.le_refl _) ?_
                  have hBn := sgB_up (n2 := 146) hB (show _ ≤ 146 from by omega)
                  clear hB; have hB := hBn; clear hBn
                  obtain ⟨rfl, hI282, en1_282, en2_282, en3_282, en4_282⟩ := hP
                  have hI282b := inv_dne hI224 wC hI282 en1_282 en2_282 en4_282
                  first
                    | have hfin := hI257b
                    | have hfin := hI282b
                    | have hfin := inv_dnw hI282b wC (iW_C hBC (iW_L hB199 i3 tt3 tx3 hbb.1 hbb.2 (m_ltC hBC i3 hbb.1 hbb.2 c237)))
                    | have hfin : Inv eda ia K g n S hw _ := hI282b
                  refine lv_iconst (v := 1) hx hb dX14_sounds_285 (by decide) ?_
                  exact sg_iret F hB hrt dX14_sounds_286 (by omega) (by omega) (⟨⟨_, rfl, Or.inl rfl⟩, hfin⟩)
              · obtain ⟨m1, hm1⟩ := m_evm hB (K := K)
                refine lv_aload_n hx hb dX14_sounds_240 rfl (lv_at hl 7 rfl) ?_
                refine lv_iload_n hx hb dX14_sounds_241 rfl (lv_at hl 6 rfl) ?_
                refine lv_aload hx hb dX14_sounds_242 (lv_at hl 1 rfl) ?_
                refine gf_X14_371 F hB dX14_sounds_244 (by exact tt3) ?_
                refine lv_if_eq (tgt := 255) hx hb dX14_sounds_247 (by decide) (fun c247 => ?_) (fun c247 => ?_)
                · refine lv_bipush (v := 100) hx hb dX14_sounds_255 (by decide) ?_
                  refine sg_callV (ci := 19) F hB (m_ends l D cy hI224 x _ wC.1.1 wC.1.2 wC.2.1 wC.2.2.1 wC.2.2.2.1 hm1 _) (cwV 2 F.1.2.2.2.2 (mgV (mm_5 _ (List.mem_of_getElem? (i := 33) rfl)) (mm_5 _ (List.mem_of_getElem? (i := 34) rfl)) (mm_5 _ (List.mem_of_getElem? (i := 35) rfl)) (mm_3 _ (List.mem_of_getElem? (i := 23) rfl)) (mm_5 _ (List.mem_of_getElem? (i := 32) rfl))) rfl rfl rfl ⟨rfl, by decide, by decide, by decide +kernel⟩ ⟨Nat.le_of_ble_eq_true rfl, Nat.le_of_ble_eq_true rfl⟩) rfl rfl (by decide) rfl hl.1 rfl (Nat.le_of_ble_eq_true rfl) dX14_sounds_257 (Nat.le_trans (show _ ≤ 18 from by omega) (Nat.le_of_ble_eq_true rfl)) (Nat.add_le_add_right (Nat.le_trans (show _ ≤ 146 from by omega) (Nat.le_of_ble_eq_true rfl)) _) (inv_A hI224) (fun H locs v σ257 N hBn hX257 hP => ?_)
                  clear hB; have hB := hBn; clear hBn
                  refine W.widen (k := 18) (n := N) (show _ ≤ 18 from by omega) (Nat.le_refl _) ?_
                  have hBn := sgB_up (n2 := 146) hB (show _ ≤ 146 from by omega)
                  clear hB; have hB := hBn; clear hBn
                  obtain ⟨rfl, hI257, en1_257, en2_257, en3_257, en4_257⟩ := hP
                  have hI257b := inv_dne hI224 wC hI257 en1_257 en2_257 en4_257
                  refine lv_goto (tgt := 285) hx hb dX14_sounds_260 (by decide) ?_
                  first
                    | have hfin := hI257b
                    | have hfin := hI282b
                    | have hfin := inv_dnw hI257b wC (iW_C hBC (iW_L hB199 i3 tt3 tx3 hbb.1 hbb.2 (m_ltC hBC i3 hbb.1 hbb.2 c237)))
                    | have hfin : Inv eda ia K g n S hw _ := hI257b
                  refine lv_iconst (v := 1) hx hb dX14_sounds_285 (by decide) ?_
                  exact sg_iret F hB hrt dX14_sounds_286 (by omega) (by omega) (⟨⟨_, rfl, Or.inl rfl⟩, hfin⟩)
                · refine lv_bipush (v := 108) hx hb dX14_sounds_250 (by decide) ?_
                  refine lv_goto (tgt := 257) hx hb dX14_sounds_252 (by decide) ?_
                  refine sg_callV (ci := 19) F hB (m_ends l D cy hI224 x _ wC.1.1 wC.1.2 wC.2.1 wC.2.2.1 wC.2.2.2.1 hm1 _) (cwV 2 F.1.2.2.2.2 (mgV (mm_5 _ (List.mem_of_getElem? (i := 33) rfl)) (mm_5 _ (List.mem_of_getElem? (i := 34) rfl)) (mm_5 _ (List.mem_of_getElem? (i := 35) rfl)) (mm_3 _ (List.mem_of_getElem? (i := 23) rfl)) (mm_5 _ (List.mem_of_getElem? (i := 32) rfl))) rfl rfl rfl ⟨rfl, by decide, by decide, by decide +kernel⟩ ⟨Nat.le_of_ble_eq_true rfl, Nat.le_of_ble_eq_true rfl⟩) rfl rfl (by decide) rfl hl.1 rfl (Nat.le_of_ble_eq_true rfl) dX14_sounds_257 (Nat.le_trans (show _ ≤ 18 from by omega) (Nat.le_of_ble_eq_true rfl)) (Nat.add_le_add_right (Nat.le_trans (show _ ≤ 146 from by omega) (Nat.le_of_ble_eq_true rfl)) _) (inv_A hI224) (fun H locs v σ257 N hBn hX257 hP => ?_)
                  clear hB; have hB := hBn; clear hBn
                  refine W.widen (k := 18) (n := N) (show _ ≤ 18 from by omega) (Nat.le_refl _) ?_
                  have hBn := sgB_up (n2 := 146) hB (show _ ≤ 146 from by omega)
                  clear hB; have hB := hBn; clear hBn
                  obtain ⟨rfl, hI257, en1_257, en2_257, en3_257, en4_257⟩ := hP
                  have hI257b := inv_dne hI224 wC hI257 en1_257 en2_257 en4_257
                  refine lv_goto (tgt := 285) hx hb dX14_sounds_260 (by decide) ?_
                  first
                    | have hfin := hI257b
                    | have hfin := hI282b
                    | have hfin := inv_dnw hI257b wC (iW_C hBC (iW_L hB199 i3 tt3 tx3 hbb.1 hbb.2 (m_ltC hBC i3 hbb.1 hbb.2 c237)))
                    | have hfin : Inv eda ia K g n S hw _ := hI257b
                  refine lv_iconst (v := 1) hx hb dX14_sounds_285 (by decide) ?_
                  exact sg_iret F hB hrt dX14_sounds_286 (by omega) (by omega) (⟨⟨_, rfl, Or.inl rfl⟩, hfin⟩)
        · have hi4 := i_nle c92
          refine lv_aload_n hx hb dX14_sounds_95 rfl (lv_at hl 5 rfl) ?_
          refine gf_X14_300 F hB dX14_sounds_96 tx3 ?_
          refine lv_if_eq (tgt := 119) hx hb dX14_sounds_99 (by decide) (fun c99 => ((hin ((x03).symm.trans c99)) : False).elim) (fun c99 => ?_)
          have h03 : 0 < sgSz σ3 le := by omega
          obtain ⟨r1, za, zb⟩ := (inv_LS hI3).1 _ tle3 id
          have gs := sgLz_s za h03
          obtain ⟨t9, v1, v2⟩ := inv_L hI3 le tle3 0 h03
          refine lv_aload_n hx hb dX14_sounds_102 rfl (lv_at hl 5 rfl) ?_
          refine gr_X14_320 F hB dX14_sounds_103 tx3 hle3 ?_
          refine lv_iconst (v := 0) hx hb dX14_sounds_106 (by decide) ?_
          refine sg_callV (ci := 4) F hB (m_remove0 l D cy gs h03 (fun j y _ hy => (inv_LS hI3).2.2.1 r1 j y gs.2.2.1 hy) (by rw [← sgAt_of gs.2.1]; exact v1) _) (cwV 1 F.1.2.2.2.2 (mgV (mm_5 _ (List.mem_of_getElem? (i := 29) rfl)) (mm_5 _ (List.mem_of_getElem? (i := 30) rfl)) (mm_5 _ (List.mem_of_getElem? (i := 31) rfl)) (mm_0 _ (List.mem_of_getElem? (i := 35) rfl)) (mm_5 _ (List.mem_of_getElem? (i := 21) rfl))) rfl rfl rfl ⟨rfl, by decide, by decide, by decide +kernel⟩ ⟨Nat.le_of_ble_eq_true rfl, Nat.le_of_ble_eq_true rfl⟩) rfl rfl (by decide) rfl hl.1 rfl (Nat.le_of_ble_eq_true rfl) dX14_sounds_107 (by show _ ≤ 18; omega) (Nat.add_le_add_right (by omega) _) tle3 (fun H locs v σ107 N hBn hX107 hP => ?_)
          clear hB; have hB := hBn; clear hBn
          obtain ⟨rfl, ho, ho1, ho2, ho3, ho4⟩ := hP
          obtain ⟨hI107, rm1, rm2, rm3, rm4, rm5⟩ := inv_rm hI3 gs h03 ho ho1 ho3 ho2 ho4 (fun z => absurd (rle.symm.trans z) (by decide)) (fun _ _ => Or.inr (by rw [ole, hz4]; exact hkp))
          have hbx0 : sgBx ia σ107 t9 := sgBx_mono (fun a _ => ho.1 a) (by unfold iEl at v2; rw [rle] at v2; exact v2)
          have zr107 : zR l1 σ3 σ107 := zR_l (l2 := le) (fun a _ => ho.1 a) (fun a k _ h5 => ho.2.2.1 a k (fun z => h5 (by rw [z]; exact tle3))) rm5 rm4 tl3 nle
          have i107 : ∀ k, sgI σ107 xe k = sgI σ3 xe k := fun k => ho.2.2.1 xe k (fun z => by rw [z, tle3] at tx3; exact absurd tx3 (by decide))
          have tx107 := tFr_T zr107.1 tx3 (by decide)
          have tl107 := tFr_T zr107.1 tl3 (by decide)
          have tle107 : sgT σ107 le = 5 := (ho.1 le).1.trans tle3
          have sG107 : sgSz σ107 (kG K) = sgSz σ3 (kG K) := (rm4 _ (inv_tG hI3).1 (fun z => z.elim id (fun w => nleG w.symm))).1
          refine va_castY hx hb hown (F.1.2.2.2.2 _ (List.mem_cons_of_mem _ (mm_8 _ (List.mem_of_getElem? (i := 3) rfl)))) (F.2.2.1.2.2 ("java/lang/Integer", "java/lang/Integer") (by decide +kernel)) (sg_rbx F hB hbx0) dX14_sounds_110 ?_
          refine sg_callVr F hB (m_unbox l D cy hbx0 _) (cwV 0 F.1.2.2.2.2 (mgV (mm_8 _ (List.mem_of_getElem? (i := 5) rfl)) (mm_8 _ (List.mem_of_getElem? (i := 6) rfl)) (mm_8 _ (List.mem_of_getElem? (i := 7) rfl)) (mm_7 _ (List.mem_of_getElem? (i := 30) rfl)) (mm_8 _ (List.mem_of_getElem? (i := 1) rfl))) rfl rfl rfl ⟨rfl, by decide, by decide, by decide +kernel⟩ ⟨Nat.le_of_ble_eq_true rfl, Nat.le_of_ble_eq_true rfl⟩) rfl hl.1 rfl (Nat.le_of_ble_eq_true rfl) dX14_sounds_113 (by show _ ≤ 18; omega) (Nat.add_le_add_right (by omega) _) (sg_rbx F hB hbx0) (fun H locs v σ113 N hBn hX113 hP => ?_)
          clear hB; have hB := hBn; clear hBn
          obtain ⟨⟨w113, rfl⟩, rfl⟩ := hP
          refine lv_goto (tgt := 133) hx hb dX14_sounds_116 (by decide) ?_
          refine lv_istore (lv' := [(8, .int _), (7, .int _), (6, .ref _), (5, .ref _), (4, .int _), (3, .int _), (2, .ref _), (1, .int _), (0, .ref _)]) hx hb dX14_sounds_133 hl (by decide) rfl (fun ls hl => ?_)
          refine lv_iload hx hb dX14_sounds_135 (lv_at hl 4 rfl) ?_
          refine lv_bipush (v := 32) hx hb dX14_sounds_137 (by decide) ?_
          refine lv_icmp_ne (tgt := 165) hx hb dX14_sounds_139 (by decide) (fun c139 => ?_) (fun c139 => ?_)
          · refine lv_iload hx hb dX14_sounds_165 (lv_at hl 4 rfl) ?_
            refine lv_bipush (v := 32) hx hb dX14_sounds_167 (by decide) ?_
            refine lv_icmp_ne (tgt := 185) hx hb dX14_sounds_169 (by decide) (fun c169 => ?_) (fun c169 => ((c139 c169) : False).elim)
            refine lv_iinc (lv' := [(7, .int _), (8, .int _), (6, .ref _), (5, .ref _), (4, .int _), (3, .int _), (2, .ref _), (1, .int _), (0, .ref _)]) hx hb dX14_sounds_185 hl (k := 1) rfl rfl (by decide) rfl (fun ls hl => ?_)
            refine lv_goto (tgt := 89) hx hb dX14_sounds_188 (by decide) ?_
            have hi3 := i_nle c92
            have e9 : (k9 + Int32.ofInt 1).toInt = k9.toInt + 1 := m_add1 (by omega) (by omega)
            first
              | exact ih89 _ (by subst hd89; rw [e9]; omega) _ _ _ _ _ _ _ _ hB (lv_sub hl [0, 2, 3, 4, 5, 6, 7, 8] rfl) hI158 ⟨by rw [e9]; omega, by rw [e9]; omega⟩ (by rw [e9, l158, rm2]; omega) (by rw [e9, ada158, sG5]; omega) ⟨by rw [e9]; show kc + 0 + 0 + 1 + 1 ≤ _; omega, by rw [e9]; omega⟩ (x158.trans hz4) z158 rfl
              | exact ih89 _ (by subst hd89; rw [e9]; omega) _ _ _ _ _ _ _ _ hB (lv_sub hl [0, 2, 3, 4, 5, 6, 7, 8] rfl) hI107 ⟨by rw [e9]; omega, by rw [e9]; omega⟩ (by rw [e9, rm2]; omega) (by rw [e9, sG107]; omega) ⟨by rw [e9]; show kc + 0 + 0 ≤ _; omega, by rw [e9]; omega⟩ ((i107 4).trans hz4) (zR_tr hzr zr107) rfl
          · refine lv_aload_n hx hb dX14_sounds_142 rfl (lv_at hl 6 rfl) ?_
            refine gf_X14_300 F hB dX14_sounds_143 tx107 ?_
            refine lv_if_eq (tgt := 165) hx hb dX14_sounds_146 (by decide) (fun c146 => ((hin (((i107 0).trans x03).symm.trans c146)) : False).elim) (fun c146 => ?_)
            refine lv_aload_n hx hb dX14_sounds_149 rfl (lv_at hl 8 rfl) ?_
            refine gr_X14_35 F hB dX14_sounds_150 (inv_A hI107) (inv_r8 hI107) ?_
            refine lv_iload hx hb dX14_sounds_153 (lv_at hl 0 rfl) ?_
            refine sg_callS F hB (m_box l D cy _ _) (va_cwS 1 F.1.2.2.2.2 (mgS2 (mm_7 _ (List.mem_of_getElem? (i := 33) rfl)) (mm_7 _ (List.mem_of_getElem? (i := 34) rfl)) (mm_7 _ (List.mem_of_getElem? (i := 30) rfl)) (mm_7 _ (List.mem_of_getElem? (i := 25) rfl))) rfl rfl rfl ⟨by decide, by decide, by decide +kernel⟩ ⟨Nat.le_of_ble_eq_true rfl, Nat.le_of_ble_eq_true rfl⟩) rfl hl.1 rfl (Nat.le_of_ble_eq_true rfl) dX14_sounds_155 (by show _ ≤ 18; omega) (Nat.add_le_add_right (by omega) _)  (fun H locs v σ155 N hBn hX155 hP => ?_)
            clear hB; have hB := hBn; clear hBn
            obtain ⟨y155, rfl, hbx, hqt⟩ := hP
            have ed5 := sg_eda F hB
            have hI155 := inv_Qt hI107 hqt ed5
            have tG5 := (inv_tG hI155).1
            have sG5 : sgSz σ155 (kG K) = sgSz σ3 (kG K) := (sgSz_Qt hqt (inv_tG hI107).1).trans sG107
            have z5 := zR_Qt hI107 hqt ed5 tl107
            have lq5 := inv_LqQt hI107 hqt ed5
            obtain ⟨ra158, za158, zb158⟩ := (inv_LS hI155).1 _ tG5 id
            refine sg_callV (ci := 4) F hB (m_add l D cy za158 (fun j y h1 h2 => (inv_LS hI155).2.2.1 ra158 j y h1 h2) y155 (iEl_K (l0 := _) (g := g) (j := 0) (by unfold iEl; rw [(inv_tG h).2]; exact hbx)) zb158 _) (cwV 1 F.1.2.2.2.2 (mgV (mm_3 _ (List.mem_of_getElem? (i := 9) rfl)) (mm_3 _ (List.mem_of_getElem? (i := 10) rfl)) (mm_3 _ (List.mem_of_getElem? (i := 11) rfl)) (mm_0 _ (List.mem_of_getElem? (i := 35) rfl)) (mm_2 _ (List.mem_of_getElem? (i := 29) rfl))) rfl rfl rfl ⟨rfl, by decide, by decide, by decide +kernel⟩ ⟨Nat.le_of_ble_eq_true rfl, Nat.le_of_ble_eq_true rfl⟩) rfl rfl (by decide) rfl hl.1 rfl (Nat.le_of_ble_eq_true rfl) dX14_sounds_158 (by show _ ≤ 18; omega) (Nat.add_le_add_right (by omega) _) tG5 (fun H locs v σ158 N hBn hX158 hP => ?_)
            clear hB; have hB := hBn; clear hBn
            obtain ⟨rfl, hAd158⟩ := hP
            obtain ⟨hI158, ada158, adb158, adc158, add158, ade158, adf158, adg158, adh158⟩ := inv_ad hI155 tG5 za158 hAd158 (sg_eda F hB) (by unfold iEl; rw [(inv_tG h).2]; exact hbx) (by rw [(inv_tG h).2]; refine inv_cap ?_ (Or.inl rfl); rw [sG5]; omega) (Or.inl ⟨inv_nD hI155 (by rw [(inv_tG h).2]; decide), rfl⟩) (nr7 (inv_tG h).2 (by decide))
            have z158 : zR l1 σ σ158 := zR_tr hzr (zR_tr zr107 (zR_tr z5 (zR_l (l2 := kG K) add158 adf158 adg158 adh158 (tFr_T z5.1 tl107 (by decide)) nlG)))
            have l158 : sgSz σ158 le = sgSz σ107 le := ((adh158 le (tFr_T z5.1 tle107 (by decide)) (fun z => z.elim id nleG)).1).trans (lq5 le tle107 id).1
            have x158 : sgI σ158 xe 4 = sgI σ3 xe 4 := ((adf158 xe 4 (by rw [tFr_T z5.1 tx107 (by decide)]; decide) (by rw [tFr_T z5.1 tx107 (by decide)]; decide)).trans (((hqt.1 xe (by rw [tx107]; decide)).2.2 4).1)).trans (i107 4)
            refine lv_pop hx hb dX14_sounds_161 rfl ?_
            refine lv_goto (tgt := 185) hx hb dX14_sounds_162 (by decide) ?_
            refine lv_iinc (lv' := [(7, .int _), (8, .int _), (6, .ref _), (5, .ref _), (4, .int _), (3, .int _), (2, .ref _), (1, .int _), (0, .ref _)]) hx hb dX14_sounds_185 hl (k := 1) rfl rfl (by decide) rfl (fun ls hl => ?_)
            refine lv_goto (tgt := 89) hx hb dX14_sounds_188 (by decide) ?_
            have hi3 := i_nle c92
            have e9 : (k9 + Int32.ofInt 1).toInt = k9.toInt + 1 := m_add1 (by omega) (by omega)
            first
              | exact ih89 _ (by subst hd89; rw [e9]; omega) _ _ _ _ _ _ _ _ hB (lv_sub hl [0, 2, 3, 4, 5, 6, 7, 8] rfl) hI158 ⟨by rw [e9]; omega, by rw [e9]; omega⟩ (by rw [e9, l158, rm2]; omega) (by rw [e9, ada158, sG5]; omega) ⟨by rw [e9]; show kc + 0 + 0 + 1 + 1 ≤ _; omega, by rw [e9]; omega⟩ (x158.trans hz4) z158 rfl
              | exact ih89 _ (by subst hd89; rw [e9]; omega) _ _ _ _ _ _ _ _ hB (lv_sub hl [0, 2, 3, 4, 5, 6, 7, 8] rfl) hI107 ⟨by rw [e9]; omega, by rw [e9]; omega⟩ (by rw [e9, rm2]; omega) (by rw [e9, sG107]; omega) ⟨by rw [e9]; show kc + 0 + 0 ≤ _; omega, by rw [e9]; omega⟩ ((i107 4).trans hz4) (zR_tr hzr zr107) rfl
      · refine lv_iload hx hb dX14_sounds_63 (lv_at hl 6 rfl) ?_
        refine lv_bipush (v := 100) hx hb dX14_sounds_65 (by decide) ?_
        refine lv_icmp_eq (tgt := 77) hx hb dX14_sounds_67 (by decide) (fun c67 => ?_) (fun c67 => ?_)
        · refine lv_iconst (v := 1) hx hb dX14_sounds_77 (by decide) ?_
          refine lv_goto (tgt := 82) hx hb dX14_sounds_78 (by decide) ?_
          refine lv_iadd hx hb dX14_sounds_82 ?_
          refine pf_X14_366 F hB dX14_sounds_83 (inv_A h) (fun H locs hBn => ?_)
          clear hB; have hB := hBn; clear hBn
          have hI83 := inv_PIc (t := 20) hB h (inv_A h) (by unfold iCn; omega)
          have z83 := zPIB (l1 := l1) (t := 20) hB (inv_A h) (by decide) tl
          have hb0 := i_nle c48
          rw [m_i0] at hb0
          obtain ⟨kc, hkc⟩ : ∃ kc : Nat, kc = 0 := ⟨_, rfl⟩
          refine W.widen (k := kc) (n := N) (by omega) (Nat.le_refl _) ?_
          refine lv_iconst (v := 0) hx hb dX14_sounds_86 (by decide) ?_
          refine lv_istore (lv' := [(7, .int _), (6, .ref _), (5, .ref _), (0, .ref _), (1, .int _), (2, .ref _), (3, .int _), (4, .int _)]) hx hb dX14_sounds_87 hl (by decide) rfl (fun ls hl => ?_)
          have key89 : ∃ (σ3 : SG) (k9 : Int32) (nc : Nat), sgB D cy s σ σ3 H locs N nc ∧ lv_has ls 9 [(7, .int k9), (6, .ref t0), (5, .ref pp), (4, .int f0), (3, .int b), (2, .ref xe), (1, .int x), (0, .ref (kA K))] ∧ Inv eda ia K g n S hw σ3 ∧ (0 ≤ k9.toInt ∧ k9.toInt ≤ b.toInt) ∧ sgSz σ3 le = sgSz σ le - k9.toInt.toNat ∧ sgSz σ3 (kG K) ≤ sgSz σ (kG K) + k9.toInt.toNat ∧ (kc ≤ 2 * k9.toInt.toNat ∧ nc ≤ 16 * k9.toInt.toNat) ∧ sgI σ3 xe 4 = sgI σ xe 4 ∧ zR l1 σ σ3 := ⟨_, _, _, hB, (lv_sub hl [0, 1, 2, 7, 6, 5, 4, 3] rfl), hI83, ⟨by decide, by rw [m_i0]; omega⟩, by rw [m_i0]; exact (sgSz_nk (by decide)).trans rfl, by rw [m_i0]; exact Nat.le_of_eq (sgSz_nk (by decide)), ⟨by omega, by omega⟩, sgI_nk (by decide), z83⟩
          clear hB hl hkc
          obtain ⟨σ3, k9, nc, hB, hl, hI3, hi, hzl, hzG, hkn, hz4, hzr⟩ := key89
          obtain ⟨d89, hd89⟩ : ∃ d : Nat, d = (b.toInt - k9.toInt).toNat := ⟨_, rfl⟩
          induction d89 using Nat.strongRecOn generalizing H locs ls N σ3 k9 nc kc
          rename_i d89 ih89
          have tx3 : sgT σ3 xe = 17 := tFr_T hzr.1 txe (by decide)
          have tp3 : sgT σ3 pp = 18 := tFr_T hzr.1 tp (by decide)
          have tle3 : sgT σ3 le = 5 := tFr_T hzr.1 tle (by decide)
          have hle3 : sgR σ3 xe 3 = some le := (hzr.2.2.2.2.1 xe 3 (by rw [txe]; decide)).trans hle
          have tl3 : sgT σ3 l1 = 5 := tFr_T hzr.1 tl (by decide)
          have tt3 : sgT σ3 t0 = 19 := tFr_T hzr.1 tt (by decide)
          have d3 : sgI σ3 t0 2 = sgI σ t0 2 := hzr.2.1 t0 2 tt
          have x03 : sgI σ3 xe 0 = sgI σ xe 0 := hzr.2.2.2.1 xe 0 txe (by decide)
          refine lv_iload hx hb dX14_sounds_89 (lv_at hl 0 rfl) ?_
          refine lv_iload_n hx hb dX14_sounds_91 rfl (lv_at hl 4 rfl) ?_
          refine lv_icmp_ge (tgt := 191) hx hb dX14_sounds_92 (by decide) (fun c92 => ?_) (fun c92 => ?_)
          · have hi4 := i_le c92
            refine W.widen (k := 16) (n := N) (show kc ≤ 16 from by omega) (Nat.le_refl _) ?_
            have hBn := sgB_up (n2 := 128) hB (show nc ≤ 128 from by omega)
            clear hB; have hB := hBn; clear hBn
            refine lv_aload hx hb dX14_sounds_191 (lv_at hl 1 rfl) ?_
            refine lv_dup hx hb dX14_sounds_193 rfl ?_
            refine gf_X14_284 F hB dX14_sounds_194 tt3 ?_
            refine lv_iload_n hx hb dX14_sounds_197 rfl (lv_at hl 4 rfl) ?_
            refine lv_iadd hx hb dX14_sounds_198 ?_
            refine pf_X14_284 F hB dX14_sounds_199 tt3 (fun H locs hBn => ?_)
            clear hB; have hB := hBn; clear hBn
            have hI199 := inv_dnB hB hI3 tt3
            have w3 := wPp_z h wc hzr
            have wB := wPp_hB hB (wPp_PI w3 (Or.inr ⟨fun z => absurd (tt3.symm.trans z) (by decide), fun z => absurd (tt3.symm.trans z) (by decide)⟩) tp3 tl3)
            have hB199 := hB
            have i3 := iW_tr hzr.1 (inv_T h) tt (hzr.2.1 t0 1 tt) (hzr.2.1 t0 2 tt) x03 (hzr.2.2.2.2.1 t0 0 (by rw [tt]; decide)) ⟨iw1, iw2, iw3, iw4⟩
            refine lv_aload hx hb dX14_sounds_202 (lv_at hl 1 rfl) ?_
            refine lv_aload hx hb dX14_sounds_204 (lv_at hl 1 rfl) ?_
            refine gf_X14_371 F hB dX14_sounds_206 (by exact tt3) ?_
            refine lv_if_ne (tgt := 219) hx hb dX14_sounds_209 (by decide) (fun c209 => ?_) (fun c209 => ?_)
            · refine lv_iconst (v := 1) hx hb dX14_sounds_219 (by decide) ?_
              refine lv_goto (tgt := 224) hx hb dX14_sounds_220 (by decide) ?_
              refine pf_X14_371 F hB dX14_sounds_224 (by exact tt3) ⟨by decide, by decide⟩ (fun H locs hBn => ?_)
              clear hB; have hB := hBn; clear hBn
              have hI224 := inv_PIc (t := 19) hB hI199 (by exact tt3) (by unfold iCn; omega)
              have wC := wPp_hB4 hB (wPp_PI wB (Or.inr ⟨fun z => absurd (tt3.symm.trans z) (by decide), fun z => absurd (tt3.symm.trans z) (by decide)⟩) (by exact tp3) (by exact tl3))
              have hBC := hB
              refine lv_aload hx hb dX14_sounds_227 (lv_at hl 1 rfl) ?_
              refine gf_X14_284 F hB dX14_sounds_229 (by exact tt3) ?_
              refine lv_aload hx hb dX14_sounds_232 (lv_at hl 1 rfl) ?_
              refine gf_X14_338 F hB dX14_sounds_234 (by exact tt3) ?_
              refine lv_icmp_lt (tgt := 263) hx hb dX14_sounds_237 (by decide) (fun c237 => ?_) (fun c237 => ?_)
              · refine lv_aload_n hx hb dX14_sounds_263 rfl (lv_at hl 5 rfl) ?_
                refine gf_X14_300 F hB dX14_sounds_264 (by exact tx3) ?_
                refine lv_if_eq (tgt := 285) hx hb dX14_sounds_267 (by decide) (fun c267 => ((hin ((((sgI_nk (by decide)).trans (sgI_nk (by decide))).trans x03).symm.trans c267)) : False).elim) (fun c267 => ?_)
                refine lv_iload_n hx hb dX14_sounds_270 rfl (lv_at hl 4 rfl) ?_
                refine lv_aload_n hx hb dX14_sounds_271 rfl (lv_at hl 5 rfl) ?_
                refine gf_X14_238 F hB dX14_sounds_272 (by exact tx3) ?_
                refine lv_icmp_ge (tgt := 285) hx hb dX14_sounds_275 (by decide) (fun c275 => ?_) (fun c275 => ?_)
                · first
                    | have hfin := hI257b
                    | have hfin := hI282b
                    | have hfin := inv_dnw hI224 wC (iW_C hBC (iW_L hB199 i3 tt3 tx3 hbb.1 hbb.2 (m_ltC hBC i3 hbb.1 hbb.2 c237)))
                    | have hfin : Inv eda ia K g n S hw _ := hI224
                  refine lv_iconst (v := 1) hx hb dX14_sounds_285 (by decide) ?_
                  exact sg_iret F hB hrt dX14_sounds_286 (by omega) (by omega) (⟨⟨_, rfl, Or.inl rfl⟩, hfin⟩)
                · obtain ⟨m1, hm1⟩ := m_evm hB (K := K)
                  refine lv_aload_n hx hb dX14_sounds_278 rfl (lv_at hl 7 rfl) ?_
                  refine lv_iload_n hx hb dX14_sounds_279 rfl (lv_at hl 6 rfl) ?_
                  refine lv_bipush (v := 104) hx hb dX14_sounds_280 (by decide) ?_
                  refine sg_callV (ci := 19) F hB (m_ends l D cy hI224 x 104 wC.1.1 wC.1.2 wC.2.1 wC.2.2.1 wC.2.2.2.1 hm1 _) (cwV 2 F.1.2.2.2.2 (mgV (mm_5 _ (List.mem_of_getElem? (i := 33) rfl)) (mm_5 _ (List.mem_of_getElem? (i := 34) rfl)) (mm_5 _ (List.mem_of_getElem? (i := 35) rfl)) (mm_3 _ (List.mem_of_getElem? (i := 23) rfl)) (mm_5 _ (List.mem_of_getElem? (i := 32) rfl))) rfl rfl rfl ⟨rfl, by decide, by decide, by decide +kernel⟩ ⟨Nat.le_of_ble_eq_true rfl, Nat.le_of_ble_eq_true rfl⟩) rfl rfl (by decide) rfl hl.1 rfl (Nat.le_of_ble_eq_true rfl) dX14_sounds_282 (Nat.le_trans (show _ ≤ 18 from by omega) (Nat.le_of_ble_eq_true rfl)) (Nat.add_le_add_right (Nat.le_trans (show _ ≤ 146 from by omega) (Nat.le_of_ble_eq_true rfl)) _) (inv_A hI224) (fun H locs v σ282 N hBn hX282 hP => ?_)
                  clear hB; have hB := hBn; clear hBn
                  refine W.widen (k := 18) (n := N) (show _ ≤ 18 from by omega) (Nat.le_refl _) ?_
                  have hBn := sgB_up (n2 := 146) hB (show _ ≤ 146 from by omega)
                  clear hB; have hB := hBn; clear hBn
                  obtain ⟨rfl, hI282, en1_282, en2_282, en3_282, en4_282⟩ := hP
                  have hI282b := inv_dne hI224 wC hI282 en1_282 en2_282 en4_282
                  first
                    | have hfin := hI257b
                    | have hfin := hI282b
                    | have hfin := inv_dnw hI282b wC (iW_C hBC (iW_L hB199 i3 tt3 tx3 hbb.1 hbb.2 (m_ltC hBC i3 hbb.1 hbb.2 c237)))
                    | have hfin : Inv eda ia K g n S hw _ := hI282b
                  refine lv_iconst (v := 1) hx hb dX14_sounds_285 (by decide) ?_
                  exact sg_iret F hB hrt dX14_sounds_286 (by omega) (by omega) (⟨⟨_, rfl, Or.inl rfl⟩, hfin⟩)
              · obtain ⟨m1, hm1⟩ := m_evm hB (K := K)
                refine lv_aload_n hx hb dX14_sounds_240 rfl (lv_at hl 7 rfl) ?_
                refine lv_iload_n hx hb dX14_sounds_241 rfl (lv_at hl 6 rfl) ?_
                refine lv_aload hx hb dX14_sounds_242 (lv_at hl 1 rfl) ?_
                refine gf_X14_371 F hB dX14_sounds_244 (by exact tt3) ?_
                refine lv_if_eq (tgt := 255) hx hb dX14_sounds_247 (by decide) (fun c247 => ?_) (fun c247 => ?_)
                · refine lv_bipush (v := 100) hx hb dX14_sounds_255 (by decide) ?_
                  refine sg_callV (ci := 19) F hB (m_ends l D cy hI224 x _ wC.1.1 wC.1.2 wC.2.1 wC.2.2.1 wC.2.2.2.1 hm1 _) (cwV 2 F.1.2.2.2.2 (mgV (mm_5 _ (List.mem_of_getElem? (i := 33) rfl)) (mm_5 _ (List.mem_of_getElem? (i := 34) rfl)) (mm_5 _ (List.mem_of_getElem? (i := 35) rfl)) (mm_3 _ (List.mem_of_getElem? (i := 23) rfl)) (mm_5 _ (List.mem_of_getElem? (i := 32) rfl))) rfl rfl rfl ⟨rfl, by decide, by decide, by decide +kernel⟩ ⟨Nat.le_of_ble_eq_true rfl, Nat.le_of_ble_eq_true rfl⟩) rfl rfl (by decide) rfl hl.1 rfl (Nat.le_of_ble_eq_true rfl) dX14_sounds_257 (Nat.le_trans (show _ ≤ 18 from by omega) (Nat.le_of_ble_eq_true rfl)) (Nat.add_le_add_right (Nat.le_trans (show _ ≤ 146 from by omega) (Nat.le_of_ble_eq_true rfl)) _) (inv_A hI224) (fun H locs v σ257 N hBn hX257 hP => ?_)
                  clear hB; have hB := hBn; clear hBn
                  refine W.widen (k := 18) (n := N) (show _ ≤ 18 from by omega) (Nat.le_refl _) ?_
                  have hBn := sgB_up (n2 := 146) hB (show _ ≤ 146 from by omega)
                  clear hB; have hB := hBn; clear hBn
                  obtain ⟨rfl, hI257, en1_257, en2_257, en3_257, en4_257⟩ := hP
                  have hI257b := inv_dne hI224 wC hI257 en1_257 en2_257 en4_257
                  refine lv_goto (tgt := 285) hx hb dX14_sounds_260 (by decide) ?_
                  first
                    | have hfin := hI257b
                    | have hfin := hI282b
                    | have hfin := inv_dnw hI257b wC (iW_C hBC (iW_L hB199 i3 tt3 tx3 hbb.1 hbb.2 (m_ltC hBC i3 hbb.1 hbb.2 c237)))
                    | have hfin : Inv eda ia K g n S hw _ := hI257b
                  refine lv_iconst (v := 1) hx hb dX14_sounds_285 (by decide) ?_
                  exact sg_iret F hB hrt dX14_sounds_286 (by omega) (by omega) (⟨⟨_, rfl, Or.inl rfl⟩, hfin⟩)
                · refine lv_bipush (v := 108) hx hb dX14_sounds_250 (by decide) ?_
                  refine lv_goto (tgt := 257) hx hb dX14_sounds_252 (by decide) ?_
                  refine sg_callV (ci := 19) F hB (m_ends l D cy hI224 x _ wC.1.1 wC.1.2 wC.2.1 wC.2.2.1 wC.2.2.2.1 hm1 _) (cwV 2 F.1.2.2.2.2 (mgV (mm_5 _ (List.mem_of_getElem? (i := 33) rfl)) (mm_5 _ (List.mem_of_getElem? (i := 34) rfl)) (mm_5 _ (List.mem_of_getElem? (i := 35) rfl)) (mm_3 _ (List.mem_of_getElem? (i := 23) rfl)) (mm_5 _ (List.mem_of_getElem? (i := 32) rfl))) rfl rfl rfl ⟨rfl, by decide, by decide, by decide +kernel⟩ ⟨Nat.le_of_ble_eq_true rfl, Nat.le_of_ble_eq_true rfl⟩) rfl rfl (by decide) rfl hl.1 rfl (Nat.le_of_ble_eq_true rfl) dX14_sounds_257 (Nat.le_trans (show _ ≤ 18 from by omega) (Nat.le_of_ble_eq_true rfl)) (Nat.add_le_add_right (Nat.le_trans (show _ ≤ 146 from by omega) (Nat.le_of_ble_eq_true rfl)) _) (inv_A hI224) (fun H locs v σ257 N hBn hX257 hP => ?_)
                  clear hB; have hB := hBn; clear hBn
                  refine W.widen (k := 18) (n := N) (show _ ≤ 18 from by omega) (Nat.le_refl _) ?_
                  have hBn := sgB_up (n2 := 146) hB (show _ ≤ 146 from by omega)
                  clear hB; have hB := hBn; clear hBn
                  obtain ⟨rfl, hI257, en1_257, en2_257, en3_257, en4_257⟩ := hP
                  have hI257b := inv_dne hI224 wC hI257 en1_257 en2_257 en4_257
                  refine lv_goto (tgt := 285) hx hb dX14_sounds_260 (by decide) ?_
                  first
                    | have hfin := hI257b
                    | have hfin := hI282b
                    | have hfin := inv_dnw hI257b wC (iW_C hBC (iW_L hB199 i3 tt3 tx3 hbb.1 hbb.2 (m_ltC hBC i3 hbb.1 hbb.2 c237)))
                    | have hfin : Inv eda ia K g n S hw _ := hI257b
                  refine lv_iconst (v := 1) hx hb dX14_sounds_285 (by decide) ?_
                  exact sg_iret F hB hrt dX14_sounds_286 (by omega) (by omega) (⟨⟨_, rfl, Or.inl rfl⟩, hfin⟩)
            · refine lv_iload hx hb dX14_sounds_212 (lv_at hl 3 rfl) ?_
              refine lv_bipush (v := 32) hx hb dX14_sounds_214 (by decide) ?_
              refine lv_icmp_eq (tgt := 223) hx hb dX14_sounds_216 (by decide) (fun c216 => ?_) (fun c216 => ?_)
              · refine lv_iconst (v := 0) hx hb dX14_sounds_223 (by decide) ?_
                refine pf_X14_371 F hB dX14_sounds_224 (by exact tt3) ⟨by decide, by decide⟩ (fun H locs hBn => ?_)
                clear hB; have hB := hBn; clear hBn
                have hI224 := inv_PIc (t := 19) hB hI199 (by exact tt3) (by unfold iCn; omega)
                have wC := wPp_hB4 hB (wPp_PI wB (Or.inr ⟨fun z => absurd (tt3.symm.trans z) (by decide), fun z => absurd (tt3.symm.trans z) (by decide)⟩) (by exact tp3) (by exact tl3))
                have hBC := hB
                refine lv_aload hx hb dX14_sounds_227 (lv_at hl 1 rfl) ?_
                refine gf_X14_284 F hB dX14_sounds_229 (by exact tt3) ?_
                refine lv_aload hx hb dX14_sounds_232 (lv_at hl 1 rfl) ?_
                refine gf_X14_338 F hB dX14_sounds_234 (by exact tt3) ?_
                refine lv_icmp_lt (tgt := 263) hx hb dX14_sounds_237 (by decide) (fun c237 => ?_) (fun c237 => ?_)
                · refine lv_aload_n hx hb dX14_sounds_263 rfl (lv_at hl 5 rfl) ?_
                  refine gf_X14_300 F hB dX14_sounds_264 (by exact tx3) ?_
                  refine lv_if_eq (tgt := 285) hx hb dX14_sounds_267 (by decide) (fun c267 => ((hin ((((sgI_nk (by decide)).trans (sgI_nk (by decide))).trans x03).symm.trans c267)) : False).elim) (fun c267 => ?_)
                  refine lv_iload_n hx hb dX14_sounds_270 rfl (lv_at hl 4 rfl) ?_
                  refine lv_aload_n hx hb dX14_sounds_271 rfl (lv_at hl 5 rfl) ?_
                  refine gf_X14_238 F hB dX14_sounds_272 (by exact tx3) ?_
                  refine lv_icmp_ge (tgt := 285) hx hb dX14_sounds_275 (by decide) (fun c275 => ?_) (fun c275 => ?_)
                  · first
                      | have hfin := hI257b
                      | have hfin := hI282b
                      | have hfin := inv_dnw hI224 wC (iW_C hBC (iW_L hB199 i3 tt3 tx3 hbb.1 hbb.2 (m_ltC hBC i3 hbb.1 hbb.2 c237)))
                      | have hfin : Inv eda ia K g n S hw _ := hI224
                    refine lv_iconst (v := 1) hx hb dX14_sounds_285 (by decide) ?_
                    exact sg_iret F hB hrt dX14_sounds_286 (by omega) (by omega) (⟨⟨_, rfl, Or.inl rfl⟩, hfin⟩)
                  · obtain ⟨m1, hm1⟩ := m_evm hB (K := K)
                    refine lv_aload_n hx hb dX14_sounds_278 rfl (lv_at hl 7 rfl) ?_
                    refine lv_iload_n hx hb dX14_sounds_279 rfl (lv_at hl 6 rfl) ?_
                    refine lv_bipush (v := 104) hx hb dX14_sounds_280 (by decide) ?_
                    refine sg_callV (ci := 19) F hB (m_ends l D cy hI224 x 104 wC.1.1 wC.1.2 wC.2.1 wC.2.2.1 wC.2.2.2.1 hm1 _) (cwV 2 F.1.2.2.2.2 (mgV (mm_5 _ (List.mem_of_getElem? (i := 33) rfl)) (mm_5 _ (List.mem_of_getElem? (i := 34) rfl)) (mm_5 _ (List.mem_of_getElem? (i := 35) rfl)) (mm_3 _ (List.mem_of_getElem? (i := 23) rfl)) (mm_5 _ (List.mem_of_getElem? (i := 32) rfl))) rfl rfl rfl ⟨rfl, by decide, by decide, by decide +kernel⟩ ⟨Nat.le_of_ble_eq_true rfl, Nat.le_of_ble_eq_true rfl⟩) rfl rfl (by decide) rfl hl.1 rfl (Nat.le_of_ble_eq_true rfl) dX14_sounds_282 (Nat.le_trans (show _ ≤ 18 from by omega) (Nat.le_of_ble_eq_true rfl)) (Nat.add_le_add_right (Nat.le_trans (show _ ≤ 146 from by omega) (Nat.le_of_ble_eq_true rfl)) _) (inv_A hI224) (fun H locs v σ282 N hBn hX282 hP => ?_)
                    clear hB; have hB := hBn; clear hBn
                    refine W.widen (k := 18) (n := N) (show _ ≤ 18 from by omega) (Nat.le_refl _) ?_
                    have hBn := sgB_up (n2 := 146) hB (show _ ≤ 146 from by omega)
                    clear hB; have hB := hBn; clear hBn
                    obtain ⟨rfl, hI282, en1_282, en2_282, en3_282, en4_282⟩ := hP
                    have hI282b := inv_dne hI224 wC hI282 en1_282 en2_282 en4_282
                    first
                      | have hfin := hI257b
                      | have hfin := hI282b
                      | have hfin := inv_dnw hI282b wC (iW_C hBC (iW_L hB199 i3 tt3 tx3 hbb.1 hbb.2 (m_ltC hBC i3 hbb.1 hbb.2 c237)))
                      | have hfin : Inv eda ia K g n S hw _ := hI282b
                    refine lv_iconst (v := 1) hx hb dX14_sounds_285 (by decide) ?_
                    exact sg_iret F hB hrt dX14_sounds_286 (by omega) (by omega) (⟨⟨_, rfl, Or.inl rfl⟩, hfin⟩)
                · obtain ⟨m1, hm1⟩ := m_evm hB (K := K)
                  refine lv_aload_n hx hb dX14_sounds_240 rfl (lv_at hl 7 rfl) ?_
                  refine lv_iload_n hx hb dX14_sounds_241 rfl (lv_at hl 6 rfl) ?_
                  refine lv_aload hx hb dX14_sounds_242 (lv_at hl 1 rfl) ?_
                  refine gf_X14_371 F hB dX14_sounds_244 (by exact tt3) ?_
                  refine lv_if_eq (tgt := 255) hx hb dX14_sounds_247 (by decide) (fun c247 => ?_) (fun c247 => ?_)
                  · refine lv_bipush (v := 100) hx hb dX14_sounds_255 (by decide) ?_
                    refine sg_callV (ci := 19) F hB (m_ends l D cy hI224 x _ wC.1.1 wC.1.2 wC.2.1 wC.2.2.1 wC.2.2.2.1 hm1 _) (cwV 2 F.1.2.2.2.2 (mgV (mm_5 _ (List.mem_of_getElem? (i := 33) rfl)) (mm_5 _ (List.mem_of_getElem? (i := 34) rfl)) (mm_5 _ (List.mem_of_getElem? (i := 35) rfl)) (mm_3 _ (List.mem_of_getElem? (i := 23) rfl)) (mm_5 _ (List.mem_of_getElem? (i := 32) rfl))) rfl rfl rfl ⟨rfl, by decide, by decide, by decide +kernel⟩ ⟨Nat.le_of_ble_eq_true rfl, Nat.le_of_ble_eq_true rfl⟩) rfl rfl (by decide) rfl hl.1 rfl (Nat.le_of_ble_eq_true rfl) dX14_sounds_257 (Nat.le_trans (show _ ≤ 18 from by omega) (Nat.le_of_ble_eq_true rfl)) (Nat.add_le_add_right (Nat.le_trans (show _ ≤ 146 from by omega) (Nat.le_of_ble_eq_true rfl)) _) (inv_A hI224) (fun H locs v σ257 N hBn hX257 hP => ?_)
                    clear hB; have hB := hBn; clear hBn
                    refine W.widen (k := 18) (n := N) (show _ ≤ 18 from by omega) (Nat.le_refl _) ?_
                    have hBn := sgB_up (n2 := 146) hB (show _ ≤ 146 from by omega)
                    clear hB; have hB := hBn; clear hBn
                    obtain ⟨rfl, hI257, en1_257, en2_257, en3_257, en4_257⟩ := hP
                    have hI257b := inv_dne hI224 wC hI257 en1_257 en2_257 en4_257
                    refine lv_goto (tgt := 285) hx hb dX14_sounds_260 (by decide) ?_
                    first
                      | have hfin := hI257b
                      | have hfin := hI282b
                      | have hfin := inv_dnw hI257b wC (iW_C hBC (iW_L hB199 i3 tt3 tx3 hbb.1 hbb.2 (m_ltC hBC i3 hbb.1 hbb.2 c237)))
                      | have hfin : Inv eda ia K g n S hw _ := hI257b
                    refine lv_iconst (v := 1) hx hb dX14_sounds_285 (by decide) ?_
                    exact sg_iret F hB hrt dX14_sounds_286 (by omega) (by omega) (⟨⟨_, rfl, Or.inl rfl⟩, hfin⟩)
                  · refine lv_bipush (v := 108) hx hb dX14_sounds_250 (by decide) ?_
                    refine lv_goto (tgt := 257) hx hb dX14_sounds_252 (by decide) ?_
                    refine sg_callV (ci := 19) F hB (m_ends l D cy hI224 x _ wC.1.1 wC.1.2 wC.2.1 wC.2.2.1 wC.2.2.2.1 hm1 _) (cwV 2 F.1.2.2.2.2 (mgV (mm_5 _ (List.mem_of_getElem? (i := 33) rfl)) (mm_5 _ (List.mem_of_getElem? (i := 34) rfl)) (mm_5 _ (List.mem_of_getElem? (i := 35) rfl)) (mm_3 _ (List.mem_of_getElem? (i := 23) rfl)) (mm_5 _ (List.mem_of_getElem? (i := 32) rfl))) rfl rfl rfl ⟨rfl, by decide, by decide, by decide +kernel⟩ ⟨Nat.le_of_ble_eq_true rfl, Nat.le_of_ble_eq_true rfl⟩) rfl rfl (by decide) rfl hl.1 rfl (Nat.le_of_ble_eq_true rfl) dX14_sounds_257 (Nat.le_trans (show _ ≤ 18 from by omega) (Nat.le_of_ble_eq_true rfl)) (Nat.add_le_add_right (Nat.le_trans (show _ ≤ 146 from by omega) (Nat.le_of_ble_eq_true rfl)) _) (inv_A hI224) (fun H locs v σ257 N hBn hX257 hP => ?_)
                    clear hB; have hB := hBn; clear hBn
                    refine W.widen (k := 18) (n := N) (show _ ≤ 18 from by omega) (Nat.le_refl _) ?_
                    have hBn := sgB_up (n2 := 146) hB (show _ ≤ 146 from by omega)
                    clear hB; have hB := hBn; clear hBn
                    obtain ⟨rfl, hI257, en1_257, en2_257, en3_257, en4_257⟩ := hP
                    have hI257b := inv_dne hI224 wC hI257 en1_257 en2_257 en4_257
                    refine lv_goto (tgt := 285) hx hb dX14_sounds_260 (by decide) ?_
                    first
                      | have hfin := hI257b
                      | have hfin := hI282b
                      | have hfin := inv_dnw hI257b wC (iW_C hBC (iW_L hB199 i3 tt3 tx3 hbb.1 hbb.2 (m_ltC hBC i3 hbb.1 hbb.2 c237)))
                      | have hfin : Inv eda ia K g n S hw _ := hI257b
                    refine lv_iconst (v := 1) hx hb dX14_sounds_285 (by decide) ?_
                    exact sg_iret F hB hrt dX14_sounds_286 (by omega) (by omega) (⟨⟨_, rfl, Or.inl rfl⟩, hfin⟩)
              · refine lv_iconst (v := 1) hx hb dX14_sounds_219 (by decide) ?_
                refine lv_goto (tgt := 224) hx hb dX14_sounds_220 (by decide) ?_
                refine pf_X14_371 F hB dX14_sounds_224 (by exact tt3) ⟨by decide, by decide⟩ (fun H locs hBn => ?_)
                clear hB; have hB := hBn; clear hBn
                have hI224 := inv_PIc (t := 19) hB hI199 (by exact tt3) (by unfold iCn; omega)
                have wC := wPp_hB4 hB (wPp_PI wB (Or.inr ⟨fun z => absurd (tt3.symm.trans z) (by decide), fun z => absurd (tt3.symm.trans z) (by decide)⟩) (by exact tp3) (by exact tl3))
                have hBC := hB
                refine lv_aload hx hb dX14_sounds_227 (lv_at hl 1 rfl) ?_
                refine gf_X14_284 F hB dX14_sounds_229 (by exact tt3) ?_
                refine lv_aload hx hb dX14_sounds_232 (lv_at hl 1 rfl) ?_
                refine gf_X14_338 F hB dX14_sounds_234 (by exact tt3) ?_
                refine lv_icmp_lt (tgt := 263) hx hb dX14_sounds_237 (by decide) (fun c237 => ?_) (fun c237 => ?_)
                · refine lv_aload_n hx hb dX14_sounds_263 rfl (lv_at hl 5 rfl) ?_
                  refine gf_X14_300 F hB dX14_sounds_264 (by exact tx3) ?_
                  refine lv_if_eq (tgt := 285) hx hb dX14_sounds_267 (by decide) (fun c267 => ((hin ((((sgI_nk (by decide)).trans (sgI_nk (by decide))).trans x03).symm.trans c267)) : False).elim) (fun c267 => ?_)
                  refine lv_iload_n hx hb dX14_sounds_270 rfl (lv_at hl 4 rfl) ?_
                  refine lv_aload_n hx hb dX14_sounds_271 rfl (lv_at hl 5 rfl) ?_
                  refine gf_X14_238 F hB dX14_sounds_272 (by exact tx3) ?_
                  refine lv_icmp_ge (tgt := 285) hx hb dX14_sounds_275 (by decide) (fun c275 => ?_) (fun c275 => ?_)
                  · first
                      | have hfin := hI257b
                      | have hfin := hI282b
                      | have hfin := inv_dnw hI224 wC (iW_C hBC (iW_L hB199 i3 tt3 tx3 hbb.1 hbb.2 (m_ltC hBC i3 hbb.1 hbb.2 c237)))
                      | have hfin : Inv eda ia K g n S hw _ := hI224
                    refine lv_iconst (v := 1) hx hb dX14_sounds_285 (by decide) ?_
                    exact sg_iret F hB hrt dX14_sounds_286 (by omega) (by omega) (⟨⟨_, rfl, Or.inl rfl⟩, hfin⟩)
                  · obtain ⟨m1, hm1⟩ := m_evm hB (K := K)
                    refine lv_aload_n hx hb dX14_sounds_278 rfl (lv_at hl 7 rfl) ?_
                    refine lv_iload_n hx hb dX14_sounds_279 rfl (lv_at hl 6 rfl) ?_
                    refine lv_bipush (v := 104) hx hb dX14_sounds_280 (by decide) ?_
                    refine sg_callV (ci := 19) F hB (m_ends l D cy hI224 x 104 wC.1.1 wC.1.2 wC.2.1 wC.2.2.1 wC.2.2.2.1 hm1 _) (cwV 2 F.1.2.2.2.2 (mgV (mm_5 _ (List.mem_of_getElem? (i := 33) rfl)) (mm_5 _ (List.mem_of_getElem? (i := 34) rfl)) (mm_5 _ (List.mem_of_getElem? (i := 35) rfl)) (mm_3 _ (List.mem_of_getElem? (i := 23) rfl)) (mm_5 _ (List.mem_of_getElem? (i := 32) rfl))) rfl rfl rfl ⟨rfl, by decide, by decide, by decide +kernel⟩ ⟨Nat.le_of_ble_eq_true rfl, Nat.le_of_ble_eq_true rfl⟩) rfl rfl (by decide) rfl hl.1 rfl (Nat.le_of_ble_eq_true rfl) dX14_sounds_282 (Nat.le_trans (show _ ≤ 18 from by omega) (Nat.le_of_ble_eq_true rfl)) (Nat.add_le_add_right (Nat.le_trans (show _ ≤ 146 from by omega) (Nat.le_of_ble_eq_true rfl)) _) (inv_A hI224) (fun H locs v σ282 N hBn hX282 hP => ?_)
                    clear hB; have hB := hBn; clear hBn
                    refine W.widen (k := 18) (n := N) (show _ ≤ 18 from by omega) (Nat.le_refl _) ?_
                    have hBn := sgB_up (n2 := 146) hB (show _ ≤ 146 from by omega)
                    clear hB; have hB := hBn; clear hBn
                    obtain ⟨rfl, hI282, en1_282, en2_282, en3_282, en4_282⟩ := hP
                    have hI282b := inv_dne hI224 wC hI282 en1_282 en2_282 en4_282
                    first
                      | have hfin := hI257b
                      | have hfin := hI282b
                      | have hfin := inv_dnw hI282b wC (iW_C hBC (iW_L hB199 i3 tt3 tx3 hbb.1 hbb.2 (m_ltC hBC i3 hbb.1 hbb.2 c237)))
                      | have hfin : Inv eda ia K g n S hw _ := hI282b
                    refine lv_iconst (v := 1) hx hb dX14_sounds_285 (by decide) ?_
                    exact sg_iret F hB hrt dX14_sounds_286 (by omega) (by omega) (⟨⟨_, rfl, Or.inl rfl⟩, hfin⟩)
                · obtain ⟨m1, hm1⟩ := m_evm hB (K := K)
                  refine lv_aload_n hx hb dX14_sounds_240 rfl (lv_at hl 7 rfl) ?_
                  refine lv_iload_n hx hb dX14_sounds_241 rfl (lv_at hl 6 rfl) ?_
                  refine lv_aload hx hb dX14_sounds_242 (lv_at hl 1 rfl) ?_
                  refine gf_X14_371 F hB dX14_sounds_244 (by exact tt3) ?_
                  refine lv_if_eq (tgt := 255) hx hb dX14_sounds_247 (by decide) (fun c247 => ?_) (fun c247 => ?_)
                  · refine lv_bipush (v := 100) hx hb dX14_sounds_255 (by decide) ?_
                    refine sg_callV (ci := 19) F hB (m_ends l D cy hI224 x _ wC.1.1 wC.1.2 wC.2.1 wC.2.2.1 wC.2.2.2.1 hm1 _) (cwV 2 F.1.2.2.2.2 (mgV (mm_5 _ (List.mem_of_getElem? (i := 33) rfl)) (mm_5 _ (List.mem_of_getElem? (i := 34) rfl)) (mm_5 _ (List.mem_of_getElem? (i := 35) rfl)) (mm_3 _ (List.mem_of_getElem? (i := 23) rfl)) (mm_5 _ (List.mem_of_getElem? (i := 32) rfl))) rfl rfl rfl ⟨rfl, by decide, by decide, by decide +kernel⟩ ⟨Nat.le_of_ble_eq_true rfl, Nat.le_of_ble_eq_true rfl⟩) rfl rfl (by decide) rfl hl.1 rfl (Nat.le_of_ble_eq_true rfl) dX14_sounds_257 (Nat.le_trans (show _ ≤ 18 from by omega) (Nat.le_of_ble_eq_true rfl)) (Nat.add_le_add_right (Nat.le_trans (show _ ≤ 146 from by omega) (Nat.le_of_ble_eq_true rfl)) _) (inv_A hI224) (fun H locs v σ257 N hBn hX257 hP => ?_)
                    clear hB; have hB := hBn; clear hBn
                    refine W.widen (k := 18) (n := N) (show _ ≤ 18 from by omega) (Nat.le_refl _) ?_
                    have hBn := sgB_up (n2 := 146) hB (show _ ≤ 146 from by omega)
                    clear hB; have hB := hBn; clear hBn
                    obtain ⟨rfl, hI257, en1_257, en2_257, en3_257, en4_257⟩ := hP
                    have hI257b := inv_dne hI224 wC hI257 en1_257 en2_257 en4_257
                    refine lv_goto (tgt := 285) hx hb dX14_sounds_260 (by decide) ?_
                    first
                      | have hfin := hI257b
                      | have hfin := hI282b
                      | have hfin := inv_dnw hI257b wC (iW_C hBC (iW_L hB199 i3 tt3 tx3 hbb.1 hbb.2 (m_ltC hBC i3 hbb.1 hbb.2 c237)))
                      | have hfin : Inv eda ia K g n S hw _ := hI257b
                    refine lv_iconst (v := 1) hx hb dX14_sounds_285 (by decide) ?_
                    exact sg_iret F hB hrt dX14_sounds_286 (by omega) (by omega) (⟨⟨_, rfl, Or.inl rfl⟩, hfin⟩)
                  · refine lv_bipush (v := 108) hx hb dX14_sounds_250 (by decide) ?_
                    refine lv_goto (tgt := 257) hx hb dX14_sounds_252 (by decide) ?_
                    refine sg_callV (ci := 19) F hB (m_ends l D cy hI224 x _ wC.1.1 wC.1.2 wC.2.1 wC.2.2.1 wC.2.2.2.1 hm1 _) (cwV 2 F.1.2.2.2.2 (mgV (mm_5 _ (List.mem_of_getElem? (i := 33) rfl)) (mm_5 _ (List.mem_of_getElem? (i := 34) rfl)) (mm_5 _ (List.mem_of_getElem? (i := 35) rfl)) (mm_3 _ (List.mem_of_getElem? (i := 23) rfl)) (mm_5 _ (List.mem_of_getElem? (i := 32) rfl))) rfl rfl rfl ⟨rfl, by decide, by decide, by decide +kernel⟩ ⟨Nat.le_of_ble_eq_true rfl, Nat.le_of_ble_eq_true rfl⟩) rfl rfl (by decide) rfl hl.1 rfl (Nat.le_of_ble_eq_true rfl) dX14_sounds_257 (Nat.le_trans (show _ ≤ 18 from by omega) (Nat.le_of_ble_eq_true rfl)) (Nat.add_le_add_right (Nat.le_trans (show _ ≤ 146 from by omega) (Nat.le_of_ble_eq_true rfl)) _) (inv_A hI224) (fun H locs v σ257 N hBn hX257 hP => ?_)
                    clear hB; have hB := hBn; clear hBn
                    refine W.widen (k := 18) (n := N) (show _ ≤ 18 from by omega) (Nat.le_refl _) ?_
                    have hBn := sgB_up (n2 := 146) hB (show _ ≤ 146 from by omega)
                    clear hB; have hB := hBn; clear hBn
                    obtain ⟨rfl, hI257, en1_257, en2_257, en3_257, en4_257⟩ := hP
                    have hI257b := inv_dne hI224 wC hI257 en1_257 en2_257 en4_257
                    refine lv_goto (tgt := 285) hx hb dX14_sounds_260 (by decide) ?_
                    first
                      | have hfin := hI257b
                      | have hfin := hI282b
                      | have hfin := inv_dnw hI257b wC (iW_C hBC (iW_L hB199 i3 tt3 tx3 hbb.1 hbb.2 (m_ltC hBC i3 hbb.1 hbb.2 c237)))
                      | have hfin : Inv eda ia K g n S hw _ := hI257b
                    refine lv_iconst (v := 1) hx hb dX14_sounds_285 (by decide) ?_
                    exact sg_iret F hB hrt dX14_sounds_286 (by omega) (by omega) (⟨⟨_, rfl, Or.inl rfl⟩, hfin⟩)
          · have hi4 := i_nle c92
            refine lv_aload_n hx hb dX14_sounds_95 rfl (lv_at hl 5 rfl) ?_
            refine gf_X14_300 F hB dX14_sounds_96 tx3 ?_
            refine lv_if_eq (tgt := 119) hx hb dX14_sounds_99 (by decide) (fun c99 => ((hin ((x03).symm.trans c99)) : False).elim) (fun c99 => ?_)
            have h03 : 0 < sgSz σ3 le := by omega
            obtain ⟨r1, za, zb⟩ := (inv_LS hI3).1 _ tle3 id
            have gs := sgLz_s za h03
            obtain ⟨t9, v1, v2⟩ := inv_L hI3 le tle3 0 h03
            refine lv_aload_n hx hb dX14_sounds_102 rfl (lv_at hl 5 rfl) ?_
            refine gr_X14_320 F hB dX14_sounds_103 tx3 hle3 ?_
            refine lv_iconst (v := 0) hx hb dX14_sounds_106 (by decide) ?_
            refine sg_callV (ci := 4) F hB (m_remove0 l D cy gs h03 (fun j y _ hy => (inv_LS hI3).2.2.1 r1 j y gs.2.2.1 hy) (by rw [← sgAt_of gs.2.1]; exact v1) _) (cwV 1 F.1.2.2.2.2 (mgV (mm_5 _ (List.mem_of_getElem? (i := 29) rfl)) (mm_5 _ (List.mem_of_getElem? (i := 30) rfl)) (mm_5 _ (List.mem_of_getElem? (i := 31) rfl)) (mm_0 _ (List.mem_of_getElem? (i := 35) rfl)) (mm_5 _ (List.mem_of_getElem? (i := 21) rfl))) rfl rfl rfl ⟨rfl, by decide, by decide, by decide +kernel⟩ ⟨Nat.le_of_ble_eq_true rfl, Nat.le_of_ble_eq_true rfl⟩) rfl rfl (by decide) rfl hl.1 rfl (Nat.le_of_ble_eq_true rfl) dX14_sounds_107 (by show _ ≤ 18; omega) (Nat.add_le_add_right (by omega) _) tle3 (fun H locs v σ107 N hBn hX107 hP => ?_)
            clear hB; have hB := hBn; clear hBn
            obtain ⟨rfl, ho, ho1, ho2, ho3, ho4⟩ := hP
            obtain ⟨hI107, rm1, rm2, rm3, rm4, rm5⟩ := inv_rm hI3 gs h03 ho ho1 ho3 ho2 ho4 (fun z => absurd (rle.symm.trans z) (by decide)) (fun _ _ => Or.inr (by rw [ole, hz4]; exact hkp))
            have hbx0 : sgBx ia σ107 t9 := sgBx_mono (fun a _ => ho.1 a) (by unfold iEl at v2; rw [rle] at v2; exact v2)
            have zr107 : zR l1 σ3 σ107 := zR_l (l2 := le) (fun a _ => ho.1 a) (fun a k _ h5 => ho.2.2.1 a k (fun z => h5 (by rw [z]; exact tle3))) rm5 rm4 tl3 nle
            have i107 : ∀ k, sgI σ107 xe k = sgI σ3 xe k := fun k => ho.2.2.1 xe k (fun z => by rw [z, tle3] at tx3; exact absurd tx3 (by decide))
            have tx107 := tFr_T zr107.1 tx3 (by decide)
            have tl107 := tFr_T zr107.1 tl3 (by decide)
            have tle107 : sgT σ107 le = 5 := (ho.1 le).1.trans tle3
            have sG107 : sgSz σ107 (kG K) = sgSz σ3 (kG K) := (rm4 _ (inv_tG hI3).1 (fun z => z.elim id (fun w => nleG w.symm))).1
            refine va_castY hx hb hown (F.1.2.2.2.2 _ (List.mem_cons_of_mem _ (mm_8 _ (List.mem_of_getElem? (i := 3) rfl)))) (F.2.2.1.2.2 ("java/lang/Integer", "java/lang/Integer") (by decide +kernel)) (sg_rbx F hB hbx0) dX14_sounds_110 ?_
            refine sg_callVr F hB (m_unbox l D cy hbx0 _) (cwV 0 F.1.2.2.2.2 (mgV (mm_8 _ (List.mem_of_getElem? (i := 5) rfl)) (mm_8 _ (List.mem_of_getElem? (i := 6) rfl)) (mm_8 _ (List.mem_of_getElem? (i := 7) rfl)) (mm_7 _ (List.mem_of_getElem? (i := 30) rfl)) (mm_8 _ (List.mem_of_getElem? (i := 1) rfl))) rfl rfl rfl ⟨rfl, by decide, by decide, by decide +kernel⟩ ⟨Nat.le_of_ble_eq_true rfl, Nat.le_of_ble_eq_true rfl⟩) rfl hl.1 rfl (Nat.le_of_ble_eq_true rfl) dX14_sounds_113 (by show _ ≤ 18; omega) (Nat.add_le_add_right (by omega) _) (sg_rbx F hB hbx0) (fun H locs v σ113 N hBn hX113 hP => ?_)
            clear hB; have hB := hBn; clear hBn
            obtain ⟨⟨w113, rfl⟩, rfl⟩ := hP
            refine lv_goto (tgt := 133) hx hb dX14_sounds_116 (by decide) ?_
            refine lv_istore (lv' := [(8, .int _), (7, .int _), (6, .ref _), (5, .ref _), (4, .int _), (3, .int _), (2, .ref _), (1, .int _), (0, .ref _)]) hx hb dX14_sounds_133 hl (by decide) rfl (fun ls hl => ?_)
            refine lv_iload hx hb dX14_sounds_135 (lv_at hl 4 rfl) ?_
            refine lv_bipush (v := 32) hx hb dX14_sounds_137 (by decide) ?_
            refine lv_icmp_ne (tgt := 165) hx hb dX14_sounds_139 (by decide) (fun c139 => ?_) (fun c139 => ?_)
            · refine lv_iload hx hb dX14_sounds_165 (lv_at hl 4 rfl) ?_
              refine lv_bipush (v := 32) hx hb dX14_sounds_167 (by decide) ?_
              refine lv_icmp_ne (tgt := 185) hx hb dX14_sounds_169 (by decide) (fun c169 => ?_) (fun c169 => ((c139 c169) : False).elim)
              refine lv_iinc (lv' := [(7, .int _), (8, .int _), (6, .ref _), (5, .ref _), (4, .int _), (3, .int _), (2, .ref _), (1, .int _), (0, .ref _)]) hx hb dX14_sounds_185 hl (k := 1) rfl rfl (by decide) rfl (fun ls hl => ?_)
              refine lv_goto (tgt := 89) hx hb dX14_sounds_188 (by decide) ?_
              have hi3 := i_nle c92
              have e9 : (k9 + Int32.ofInt 1).toInt = k9.toInt + 1 := m_add1 (by omega) (by omega)
              first
                | exact ih89 _ (by subst hd89; rw [e9]; omega) _ _ _ _ _ _ _ _ hB (lv_sub hl [0, 2, 3, 4, 5, 6, 7, 8] rfl) hI158 ⟨by rw [e9]; omega, by rw [e9]; omega⟩ (by rw [e9, l158, rm2]; omega) (by rw [e9, ada158, sG5]; omega) ⟨by rw [e9]; show kc + 0 + 0 + 1 + 1 ≤ _; omega, by rw [e9]; omega⟩ (x158.trans hz4) z158 rfl
                | exact ih89 _ (by subst hd89; rw [e9]; omega) _ _ _ _ _ _ _ _ hB (lv_sub hl [0, 2, 3, 4, 5, 6, 7, 8] rfl) hI107 ⟨by rw [e9]; omega, by rw [e9]; omega⟩ (by rw [e9, rm2]; omega) (by rw [e9, sG107]; omega) ⟨by rw [e9]; show kc + 0 + 0 ≤ _; omega, by rw [e9]; omega⟩ ((i107 4).trans hz4) (zR_tr hzr zr107) rfl
            · refine lv_aload_n hx hb dX14_sounds_142 rfl (lv_at hl 6 rfl) ?_
              refine gf_X14_300 F hB dX14_sounds_143 tx107 ?_
              refine lv_if_eq (tgt := 165) hx hb dX14_sounds_146 (by decide) (fun c146 => ((hin (((i107 0).trans x03).symm.trans c146)) : False).elim) (fun c146 => ?_)
              refine lv_aload_n hx hb dX14_sounds_149 rfl (lv_at hl 8 rfl) ?_
              refine gr_X14_35 F hB dX14_sounds_150 (inv_A hI107) (inv_r8 hI107) ?_
              refine lv_iload hx hb dX14_sounds_153 (lv_at hl 0 rfl) ?_
              refine sg_callS F hB (m_box l D cy _ _) (va_cwS 1 F.1.2.2.2.2 (mgS2 (mm_7 _ (List.mem_of_getElem? (i := 33) rfl)) (mm_7 _ (List.mem_of_getElem? (i := 34) rfl)) (mm_7 _ (List.mem_of_getElem? (i := 30) rfl)) (mm_7 _ (List.mem_of_getElem? (i := 25) rfl))) rfl rfl rfl ⟨by decide, by decide, by decide +kernel⟩ ⟨Nat.le_of_ble_eq_true rfl, Nat.le_of_ble_eq_true rfl⟩) rfl hl.1 rfl (Nat.le_of_ble_eq_true rfl) dX14_sounds_155 (by show _ ≤ 18; omega) (Nat.add_le_add_right (by omega) _)  (fun H locs v σ155 N hBn hX155 hP => ?_)
              clear hB; have hB := hBn; clear hBn
              obtain ⟨y155, rfl, hbx, hqt⟩ := hP
              have ed5 := sg_eda F hB
              have hI155 := inv_Qt hI107 hqt ed5
              have tG5 := (inv_tG hI155).1
              have sG5 : sgSz σ155 (kG K) = sgSz σ3 (kG K) := (sgSz_Qt hqt (inv_tG hI107).1).trans sG107
              have z5 := zR_Qt hI107 hqt ed5 tl107
              have lq5 := inv_LqQt hI107 hqt ed5
              obtain ⟨ra158, za158, zb158⟩ := (inv_LS hI155).1 _ tG5 id
              refine sg_callV (ci := 4) F hB (m_add l D cy za158 (fun j y h1 h2 => (inv_LS hI155).2.2.1 ra158 j y h1 h2) y155 (iEl_K (l0 := _) (g := g) (j := 0) (by unfold iEl; rw [(inv_tG h).2]; exact hbx)) zb158 _) (cwV 1 F.1.2.2.2.2 (mgV (mm_3 _ (List.mem_of_getElem? (i := 9) rfl)) (mm_3 _ (List.mem_of_getElem? (i := 10) rfl)) (mm_3 _ (List.mem_of_getElem? (i := 11) rfl)) (mm_0 _ (List.mem_of_getElem? (i := 35) rfl)) (mm_2 _ (List.mem_of_getElem? (i := 29) rfl))) rfl rfl rfl ⟨rfl, by decide, by decide, by decide +kernel⟩ ⟨Nat.le_of_ble_eq_true rfl, Nat.le_of_ble_eq_true rfl⟩) rfl rfl (by decide) rfl hl.1 rfl (Nat.le_of_ble_eq_true rfl) dX14_sounds_158 (by show _ ≤ 18; omega) (Nat.add_le_add_right (by omega) _) tG5 (fun H locs v σ158 N hBn hX158 hP => ?_)
              clear hB; have hB := hBn; clear hBn
              obtain ⟨rfl, hAd158⟩ := hP
              obtain ⟨hI158, ada158, adb158, adc158, add158, ade158, adf158, adg158, adh158⟩ := inv_ad hI155 tG5 za158 hAd158 (sg_eda F hB) (by unfold iEl; rw [(inv_tG h).2]; exact hbx) (by rw [(inv_tG h).2]; refine inv_cap ?_ (Or.inl rfl); rw [sG5]; omega) (Or.inl ⟨inv_nD hI155 (by rw [(inv_tG h).2]; decide), rfl⟩) (nr7 (inv_tG h).2 (by decide))
              have z158 : zR l1 σ σ158 := zR_tr hzr (zR_tr zr107 (zR_tr z5 (zR_l (l2 := kG K) add158 adf158 adg158 adh158 (tFr_T z5.1 tl107 (by decide)) nlG)))
              have l158 : sgSz σ158 le = sgSz σ107 le := ((adh158 le (tFr_T z5.1 tle107 (by decide)) (fun z => z.elim id nleG)).1).trans (lq5 le tle107 id).1
              have x158 : sgI σ158 xe 4 = sgI σ3 xe 4 := ((adf158 xe 4 (by rw [tFr_T z5.1 tx107 (by decide)]; decide) (by rw [tFr_T z5.1 tx107 (by decide)]; decide)).trans (((hqt.1 xe (by rw [tx107]; decide)).2.2 4).1)).trans (i107 4)
              refine lv_pop hx hb dX14_sounds_161 rfl ?_
              refine lv_goto (tgt := 185) hx hb dX14_sounds_162 (by decide) ?_
              refine lv_iinc (lv' := [(7, .int _), (8, .int _), (6, .ref _), (5, .ref _), (4, .int _), (3, .int _), (2, .ref _), (1, .int _), (0, .ref _)]) hx hb dX14_sounds_185 hl (k := 1) rfl rfl (by decide) rfl (fun ls hl => ?_)
              refine lv_goto (tgt := 89) hx hb dX14_sounds_188 (by decide) ?_
              have hi3 := i_nle c92
              have e9 : (k9 + Int32.ofInt 1).toInt = k9.toInt + 1 := m_add1 (by omega) (by omega)
              first
                | exact ih89 _ (by subst hd89; rw [e9]; omega) _ _ _ _ _ _ _ _ hB (lv_sub hl [0, 2, 3, 4, 5, 6, 7, 8] rfl) hI158 ⟨by rw [e9]; omega, by rw [e9]; omega⟩ (by rw [e9, l158, rm2]; omega) (by rw [e9, ada158, sG5]; omega) ⟨by rw [e9]; show kc + 0 + 0 + 1 + 1 ≤ _; omega, by rw [e9]; omega⟩ (x158.trans hz4) z158 rfl
                | exact ih89 _ (by subst hd89; rw [e9]; omega) _ _ _ _ _ _ _ _ hB (lv_sub hl [0, 2, 3, 4, 5, 6, 7, 8] rfl) hI107 ⟨by rw [e9]; omega, by rw [e9]; omega⟩ (by rw [e9, rm2]; omega) (by rw [e9, sG107]; omega) ⟨by rw [e9]; show kc + 0 + 0 ≤ _; omega, by rw [e9]; omega⟩ ((i107 4).trans hz4) (zR_tr hzr zr107) rfl
        · refine lv_iload hx hb dX14_sounds_70 (lv_at hl 6 rfl) ?_
          refine lv_bipush (v := 97) hx hb dX14_sounds_72 (by decide) ?_
          refine lv_icmp_ne (tgt := 81) hx hb dX14_sounds_74 (by decide) (fun c74 => ?_) (fun c74 => ?_)
          · refine lv_iconst (v := 0) hx hb dX14_sounds_81 (by decide) ?_
            refine lv_iadd hx hb dX14_sounds_82 ?_
            refine pf_X14_366 F hB dX14_sounds_83 (inv_A h) (fun H locs hBn => ?_)
            clear hB; have hB := hBn; clear hBn
            have hI83 := inv_PIc (t := 20) hB h (inv_A h) (by unfold iCn; omega)
            have z83 := zPIB (l1 := l1) (t := 20) hB (inv_A h) (by decide) tl
            have hb0 := i_nle c48
            rw [m_i0] at hb0
            obtain ⟨kc, hkc⟩ : ∃ kc : Nat, kc = 0 := ⟨_, rfl⟩
            refine W.widen (k := kc) (n := N) (by omega) (Nat.le_refl _) ?_
            refine lv_iconst (v := 0) hx hb dX14_sounds_86 (by decide) ?_
            refine lv_istore (lv' := [(7, .int _), (6, .ref _), (5, .ref _), (0, .ref _), (1, .int _), (2, .ref _), (3, .int _), (4, .int _)]) hx hb dX14_sounds_87 hl (by decide) rfl (fun ls hl => ?_)
            have key89 : ∃ (σ3 : SG) (k9 : Int32) (nc : Nat), sgB D cy s σ σ3 H locs N nc ∧ lv_has ls 9 [(7, .int k9), (6, .ref t0), (5, .ref pp), (4, .int f0), (3, .int b), (2, .ref xe), (1, .int x), (0, .ref (kA K))] ∧ Inv eda ia K g n S hw σ3 ∧ (0 ≤ k9.toInt ∧ k9.toInt ≤ b.toInt) ∧ sgSz σ3 le = sgSz σ le - k9.toInt.toNat ∧ sgSz σ3 (kG K) ≤ sgSz σ (kG K) + k9.toInt.toNat ∧ (kc ≤ 2 * k9.toInt.toNat ∧ nc ≤ 16 * k9.toInt.toNat) ∧ sgI σ3 xe 4 = sgI σ xe 4 ∧ zR l1 σ σ3 := ⟨_, _, _, hB, (lv_sub hl [0, 1, 2, 7, 6, 5, 4, 3] rfl), hI83, ⟨by decide, by rw [m_i0]; omega⟩, by rw [m_i0]; exact (sgSz_nk (by decide)).trans rfl, by rw [m_i0]; exact Nat.le_of_eq (sgSz_nk (by decide)), ⟨by omega, by omega⟩, sgI_nk (by decide), z83⟩
            clear hB hl hkc
            obtain ⟨σ3, k9, nc, hB, hl, hI3, hi, hzl, hzG, hkn, hz4, hzr⟩ := key89
            obtain ⟨d89, hd89⟩ : ∃ d : Nat, d = (b.toInt - k9.toInt).toNat := ⟨_, rfl⟩
            induction d89 using Nat.strongRecOn generalizing H locs ls N σ3 k9 nc kc
            rename_i d89 ih89
            have tx3 : sgT σ3 xe = 17 := tFr_T hzr.1 txe (by decide)
            have tp3 : sgT σ3 pp = 18 := tFr_T hzr.1 tp (by decide)
            have tle3 : sgT σ3 le = 5 := tFr_T hzr.1 tle (by decide)
            have hle3 : sgR σ3 xe 3 = some le := (hzr.2.2.2.2.1 xe 3 (by rw [txe]; decide)).trans hle
            have tl3 : sgT σ3 l1 = 5 := tFr_T hzr.1 tl (by decide)
            have tt3 : sgT σ3 t0 = 19 := tFr_T hzr.1 tt (by decide)
            have d3 : sgI σ3 t0 2 = sgI σ t0 2 := hzr.2.1 t0 2 tt
            have x03 : sgI σ3 xe 0 = sgI σ xe 0 := hzr.2.2.2.1 xe 0 txe (by decide)
            refine lv_iload hx hb dX14_sounds_89 (lv_at hl 0 rfl) ?_
            refine lv_iload_n hx hb dX14_sounds_91 rfl (lv_at hl 4 rfl) ?_
            refine lv_icmp_ge (tgt := 191) hx hb dX14_sounds_92 (by decide) (fun c92 => ?_) (fun c92 => ?_)
            · have hi4 := i_le c92
              refine W.widen (k := 16) (n := N) (show kc ≤ 16 from by omega) (Nat.le_refl _) ?_
              have hBn := sgB_up (n2 := 128) hB (show nc ≤ 128 from by omega)
              clear hB; have hB := hBn; clear hBn
              refine lv_aload hx hb dX14_sounds_191 (lv_at hl 1 rfl) ?_
              refine lv_dup hx hb dX14_sounds_193 rfl ?_
              refine gf_X14_284 F hB dX14_sounds_194 tt3 ?_
              refine lv_iload_n hx hb dX14_sounds_197 rfl (lv_at hl 4 rfl) ?_
              refine lv_iadd hx hb dX14_sounds_198 ?_
              refine pf_X14_284 F hB dX14_sounds_199 tt3 (fun H locs hBn => ?_)
              clear hB; have hB := hBn; clear hBn
              have hI199 := inv_dnB hB hI3 tt3
              have w3 := wPp_z h wc hzr
              have wB := wPp_hB hB (wPp_PI w3 (Or.inr ⟨fun z => absurd (tt3.symm.trans z) (by decide), fun z => absurd (tt3.symm.trans z) (by decide)⟩) tp3 tl3)
              have hB199 := hB
              have i3 := iW_tr hzr.1 (inv_T h) tt (hzr.2.1 t0 1 tt) (hzr.2.1 t0 2 tt) x03 (hzr.2.2.2.2.1 t0 0 (by rw [tt]; decide)) ⟨iw1, iw2, iw3, iw4⟩
              refine lv_aload hx hb dX14_sounds_202 (lv_at hl 1 rfl) ?_
              refine lv_aload hx hb dX14_sounds_204 (lv_at hl 1 rfl) ?_
              refine gf_X14_371 F hB dX14_sounds_206 (by exact tt3) ?_
              refine lv_if_ne (tgt := 219) hx hb dX14_sounds_209 (by decide) (fun c209 => ?_) (fun c209 => ?_)
              · refine lv_iconst (v := 1) hx hb dX14_sounds_219 (by decide) ?_
                refine lv_goto (tgt := 224) hx hb dX14_sounds_220 (by decide) ?_
                refine pf_X14_371 F hB dX14_sounds_224 (by exact tt3) ⟨by decide, by decide⟩ (fun H locs hBn => ?_)
                clear hB; have hB := hBn; clear hBn
                have hI224 := inv_PIc (t := 19) hB hI199 (by exact tt3) (by unfold iCn; omega)
                have wC := wPp_hB4 hB (wPp_PI wB (Or.inr ⟨fun z => absurd (tt3.symm.trans z) (by decide), fun z => absurd (tt3.symm.trans z) (by decide)⟩) (by exact tp3) (by exact tl3))
                have hBC := hB
                refine lv_aload hx hb dX14_sounds_227 (lv_at hl 1 rfl) ?_
                refine gf_X14_284 F hB dX14_sounds_229 (by exact tt3) ?_
                refine lv_aload hx hb dX14_sounds_232 (lv_at hl 1 rfl) ?_
                refine gf_X14_338 F hB dX14_sounds_234 (by exact tt3) ?_
                refine lv_icmp_lt (tgt := 263) hx hb dX14_sounds_237 (by decide) (fun c237 => ?_) (fun c237 => ?_)
                · refine lv_aload_n hx hb dX14_sounds_263 rfl (lv_at hl 5 rfl) ?_
                  refine gf_X14_300 F hB dX14_sounds_264 (by exact tx3) ?_
                  refine lv_if_eq (tgt := 285) hx hb dX14_sounds_267 (by decide) (fun c267 => ((hin ((((sgI_nk (by decide)).trans (sgI_nk (by decide))).trans x03).symm.trans c267)) : False).elim) (fun c267 => ?_)
                  refine lv_iload_n hx hb dX14_sounds_270 rfl (lv_at hl 4 rfl) ?_
                  refine lv_aload_n hx hb dX14_sounds_271 rfl (lv_at hl 5 rfl) ?_
                  refine gf_X14_238 F hB dX14_sounds_272 (by exact tx3) ?_
                  refine lv_icmp_ge (tgt := 285) hx hb dX14_sounds_275 (by decide) (fun c275 => ?_) (fun c275 => ?_)
                  · first
                      | have hfin := hI257b
                      | have hfin := hI282b
                      | have hfin := inv_dnw hI224 wC (iW_C hBC (iW_L hB199 i3 tt3 tx3 hbb.1 hbb.2 (m_ltC hBC i3 hbb.1 hbb.2 c237)))
                      | have hfin : Inv eda ia K g n S hw _ := hI224
                    refine lv_iconst (v := 1) hx hb dX14_sounds_285 (by decide) ?_
                    exact sg_iret F hB hrt dX14_sounds_286 (by omega) (by omega) (⟨⟨_, rfl, Or.inl rfl⟩, hfin⟩)
                  · obtain ⟨m1, hm1⟩ := m_evm hB (K := K)
                    refine lv_aload_n hx hb dX14_sounds_278 rfl (lv_at hl 7 rfl) ?_
                    refine lv_iload_n hx hb dX14_sounds_279 rfl (lv_at hl 6 rfl) ?_
                    refine lv_bipush (v := 104) hx hb dX14_sounds_280 (by decide) ?_
                    refine sg_callV (ci := 19) F hB (m_ends l D cy hI224 x 104 wC.1.1 wC.1.2 wC.2.1 wC.2.2.1 wC.2.2.2.1 hm1 _) (cwV 2 F.1.2.2.2.2 (mgV (mm_5 _ (List.mem_of_getElem? (i := 33) rfl)) (mm_5 _ (List.mem_of_getElem? (i := 34) rfl)) (mm_5 _ (List.mem_of_getElem? (i := 35) rfl)) (mm_3 _ (List.mem_of_getElem? (i := 23) rfl)) (mm_5 _ (List.mem_of_getElem? (i := 32) rfl))) rfl rfl rfl ⟨rfl, by decide, by decide, by decide +kernel⟩ ⟨Nat.le_of_ble_eq_true rfl, Nat.le_of_ble_eq_true rfl⟩) rfl rfl (by decide) rfl hl.1 rfl (Nat.le_of_ble_eq_true rfl) dX14_sounds_282 (Nat.le_trans (show _ ≤ 18 from by omega) (Nat.le_of_ble_eq_true rfl)) (Nat.add_le_add_right (Nat.le_trans (show _ ≤ 146 from by omega) (Nat.le_of_ble_eq_true rfl)) _) (inv_A hI224) (fun H locs v σ282 N hBn hX282 hP => ?_)
                    clear hB; have hB := hBn; clear hBn
                    refine W.widen (k := 18) (n := N) (show _ ≤ 18 from by omega) (Nat.le_refl _) ?_
                    have hBn := sgB_up (n2 := 146) hB (show _ ≤ 146 from by omega)
                    clear hB; have hB := hBn; clear hBn
                    obtain ⟨rfl, hI282, en1_282, en2_282, en3_282, en4_282⟩ := hP
                    have hI282b := inv_dne hI224 wC hI282 en1_282 en2_282 en4_282
                    first
                      | have hfin := hI257b
                      | have hfin := hI282b
                      | have hfin := inv_dnw hI282b wC (iW_C hBC (iW_L hB199 i3 tt3 tx3 hbb.1 hbb.2 (m_ltC hBC i3 hbb.1 hbb.2 c237)))
                      | have hfin : Inv eda ia K g n S hw _ := hI282b
                    refine lv_iconst (v := 1) hx hb dX14_sounds_285 (by decide) ?_
                    exact sg_iret F hB hrt dX14_sounds_286 (by omega) (by omega) (⟨⟨_, rfl, Or.inl rfl⟩, hfin⟩)
                · obtain ⟨m1, hm1⟩ := m_evm hB (K := K)
                  refine lv_aload_n hx hb dX14_sounds_240 rfl (lv_at hl 7 rfl) ?_
                  refine lv_iload_n hx hb dX14_sounds_241 rfl (lv_at hl 6 rfl) ?_
                  refine lv_aload hx hb dX14_sounds_242 (lv_at hl 1 rfl) ?_
                  refine gf_X14_371 F hB dX14_sounds_244 (by exact tt3) ?_
                  refine lv_if_eq (tgt := 255) hx hb dX14_sounds_247 (by decide) (fun c247 => ?_) (fun c247 => ?_)
                  · refine lv_bipush (v := 100) hx hb dX14_sounds_255 (by decide) ?_
                    refine sg_callV (ci := 19) F hB (m_ends l D cy hI224 x _ wC.1.1 wC.1.2 wC.2.1 wC.2.2.1 wC.2.2.2.1 hm1 _) (cwV 2 F.1.2.2.2.2 (mgV (mm_5 _ (List.mem_of_getElem? (i := 33) rfl)) (mm_5 _ (List.mem_of_getElem? (i := 34) rfl)) (mm_5 _ (List.mem_of_getElem? (i := 35) rfl)) (mm_3 _ (List.mem_of_getElem? (i := 23) rfl)) (mm_5 _ (List.mem_of_getElem? (i := 32) rfl))) rfl rfl rfl ⟨rfl, by decide, by decide, by decide +kernel⟩ ⟨Nat.le_of_ble_eq_true rfl, Nat.le_of_ble_eq_true rfl⟩) rfl rfl (by decide) rfl hl.1 rfl (Nat.le_of_ble_eq_true rfl) dX14_sounds_257 (Nat.le_trans (show _ ≤ 18 from by omega) (Nat.le_of_ble_eq_true rfl)) (Nat.add_le_add_right (Nat.le_trans (show _ ≤ 146 from by omega) (Nat.le_of_ble_eq_true rfl)) _) (inv_A hI224) (fun H locs v σ257 N hBn hX257 hP => ?_)
                    clear hB; have hB := hBn; clear hBn
                    refine W.widen (k := 18) (n := N) (show _ ≤ 18 from by omega) (Nat.le_refl _) ?_
                    have hBn := sgB_up (n2 := 146) hB (show _ ≤ 146 from by omega)
                    clear hB; have hB := hBn; clear hBn
                    obtain ⟨rfl, hI257, en1_257, en2_257, en3_257, en4_257⟩ := hP
                    have hI257b := inv_dne hI224 wC hI257 en1_257 en2_257 en4_257
                    refine lv_goto (tgt := 285) hx hb dX14_sounds_260 (by decide) ?_
                    first
                      | have hfin := hI257b
                      | have hfin := hI282b
                      | have hfin := inv_dnw hI257b wC (iW_C hBC (iW_L hB199 i3 tt3 tx3 hbb.1 hbb.2 (m_ltC hBC i3 hbb.1 hbb.2 c237)))
                      | have hfin : Inv eda ia K g n S hw _ := hI257b
                    refine lv_iconst (v := 1) hx hb dX14_sounds_285 (by decide) ?_
                    exact sg_iret F hB hrt dX14_sounds_286 (by omega) (by omega) (⟨⟨_, rfl, Or.inl rfl⟩, hfin⟩)
                  · refine lv_bipush (v := 108) hx hb dX14_sounds_250 (by decide) ?_
                    refine lv_goto (tgt := 257) hx hb dX14_sounds_252 (by decide) ?_
                    refine sg_callV (ci := 19) F hB (m_ends l D cy hI224 x _ wC.1.1 wC.1.2 wC.2.1 wC.2.2.1 wC.2.2.2.1 hm1 _) (cwV 2 F.1.2.2.2.2 (mgV (mm_5 _ (List.mem_of_getElem? (i := 33) rfl)) (mm_5 _ (List.mem_of_getElem? (i := 34) rfl)) (mm_5 _ (List.mem_of_getElem? (i := 35) rfl)) (mm_3 _ (List.mem_of_getElem? (i := 23) rfl)) (mm_5 _ (List.mem_of_getElem? (i := 32) rfl))) rfl rfl rfl ⟨rfl, by decide, by decide, by decide +kernel⟩ ⟨Nat.le_of_ble_eq_true rfl, Nat.le_of_ble_eq_true rfl⟩) rfl rfl (by decide) rfl hl.1 rfl (Nat.le_of_ble_eq_true rfl) dX14_sounds_257 (Nat.le_trans (show _ ≤ 18 from by omega) (Nat.le_of_ble_eq_true rfl)) (Nat.add_le_add_right (Nat.le_trans (show _ ≤ 146 from by omega) (Nat.le_of_ble_eq_true rfl)) _) (inv_A hI224) (fun H locs v σ257 N hBn hX257 hP => ?_)
                    clear hB; have hB := hBn; clear hBn
                    refine W.widen (k := 18) (n := N) (show _ ≤ 18 from by omega) (Nat.le_refl _) ?_
                    have hBn := sgB_up (n2 := 146) hB (show _ ≤ 146 from by omega)
                    clear hB; have hB := hBn; clear hBn
                    obtain ⟨rfl, hI257, en1_257, en2_257, en3_257, en4_257⟩ := hP
                    have hI257b := inv_dne hI224 wC hI257 en1_257 en2_257 en4_257
                    refine lv_goto (tgt := 285) hx hb dX14_sounds_260 (by decide) ?_
                    first
                      | have hfin := hI257b
                      | have hfin := hI282b
                      | have hfin := inv_dnw hI257b wC (iW_C hBC (iW_L hB199 i3 tt3 tx3 hbb.1 hbb.2 (m_ltC hBC i3 hbb.1 hbb.2 c237)))
                      | have hfin : Inv eda ia K g n S hw _ := hI257b
                    refine lv_iconst (v := 1) hx hb dX14_sounds_285 (by decide) ?_
                    exact sg_iret F hB hrt dX14_sounds_286 (by omega) (by omega) (⟨⟨_, rfl, Or.inl rfl⟩, hfin⟩)
              · refine lv_iload hx hb dX14_sounds_212 (lv_at hl 3 rfl) ?_
                refine lv_bipush (v := 32) hx hb dX14_sounds_214 (by decide) ?_
                refine lv_icmp_eq (tgt := 223) hx hb dX14_sounds_216 (by decide) (fun c216 => ?_) (fun c216 => ?_)
                · refine lv_iconst (v := 0) hx hb dX14_sounds_223 (by decide) ?_
                  refine pf_X14_371 F hB dX14_sounds_224 (by exact tt3) ⟨by decide, by decide⟩ (fun H locs hBn => ?_)
                  clear hB; have hB := hBn; clear hBn
                  have hI224 := inv_PIc (t := 19) hB hI199 (by exact tt3) (by unfold iCn; omega)
                  have wC := wPp_hB4 hB (wPp_PI wB (Or.inr ⟨fun z => absurd (tt3.symm.trans z) (by decide), fun z => absurd (tt3.symm.trans z) (by decide)⟩) (by exact tp3) (by exact tl3))
                  have hBC := hB
                  refine lv_aload hx hb dX14_sounds_227 (lv_at hl 1 rfl) ?_
                  refine gf_X14_284 F hB dX14_sounds_229 (by exact tt3) ?_
                  refine lv_aload hx hb dX14_sounds_232 (lv_at hl 1 rfl) ?_
                  refine gf_X14_338 F hB dX14_sounds_234 (by exact tt3) ?_
                  refine lv_icmp_lt (tgt := 263) hx hb dX14_sounds_237 (by decide) (fun c237 => ?_) (fun c237 => ?_)
                  · refine lv_aload_n hx hb dX14_sounds_263 rfl (lv_at hl 5 rfl) ?_
                    refine gf_X14_300 F hB dX14_sounds_264 (by exact tx3) ?_
                    refine lv_if_eq (tgt := 285) hx hb dX14_sounds_267 (by decide) (fun c267 => ((hin ((((sgI_nk (by decide)).trans (sgI_nk (by decide))).trans x03).symm.trans c267)) : False).elim) (fun c267 => ?_)
                    refine lv_iload_n hx hb dX14_sounds_270 rfl (lv_at hl 4 rfl) ?_
                    refine lv_aload_n hx hb dX14_sounds_271 rfl (lv_at hl 5 rfl) ?_
                    refine gf_X14_238 F hB dX14_sounds_272 (by exact tx3) ?_
                    refine lv_icmp_ge (tgt := 285) hx hb dX14_sounds_275 (by decide) (fun c275 => ?_) (fun c275 => ?_)
                    · first
                        | have hfin := hI257b
                        | have hfin := hI282b
                        | have hfin := inv_dnw hI224 wC (iW_C hBC (iW_L hB199 i3 tt3 tx3 hbb.1 hbb.2 (m_ltC hBC i3 hbb.1 hbb.2 c237)))
                        | have hfin : Inv eda ia K g n S hw _ := hI224
                      refine lv_iconst (v := 1) hx hb dX14_sounds_285 (by decide) ?_
                      exact sg_iret F hB hrt dX14_sounds_286 (by omega) (by omega) (⟨⟨_, rfl, Or.inl rfl⟩, hfin⟩)
                    · obtain ⟨m1, hm1⟩ := m_evm hB (K := K)
                      refine lv_aload_n hx hb dX14_sounds_278 rfl (lv_at hl 7 rfl) ?_
                      refine lv_iload_n hx hb dX14_sounds_279 rfl (lv_at hl 6 rfl) ?_
                      refine lv_bipush (v := 104) hx hb dX14_sounds_280 (by decide) ?_
                      refine sg_callV (ci := 19) F hB (m_ends l D cy hI224 x 104 wC.1.1 wC.1.2 wC.2.1 wC.2.2.1 wC.2.2.2.1 hm1 _) (cwV 2 F.1.2.2.2.2 (mgV (mm_5 _ (List.mem_of_getElem? (i := 33) rfl)) (mm_5 _ (List.mem_of_getElem? (i := 34) rfl)) (mm_5 _ (List.mem_of_getElem? (i := 35) rfl)) (mm_3 _ (List.mem_of_getElem? (i := 23) rfl)) (mm_5 _ (List.mem_of_getElem? (i := 32) rfl))) rfl rfl rfl ⟨rfl, by decide, by decide, by decide +kernel⟩ ⟨Nat.le_of_ble_eq_true rfl, Nat.le_of_ble_eq_true rfl⟩) rfl rfl (by decide) rfl hl.1 rfl (Nat.le_of_ble_eq_true rfl) dX14_sounds_282 (Nat.le_trans (show _ ≤ 18 from by omega) (Nat.le_of_ble_eq_true rfl)) (Nat.add_le_add_right (Nat.le_trans (show _ ≤ 146 from by omega) (Nat.le_of_ble_eq_true rfl)) _) (inv_A hI224) (fun H locs v σ282 N hBn hX282 hP => ?_)
                      clear hB; have hB := hBn; clear hBn
                      refine W.widen (k := 18) (n := N) (show _ ≤ 18 from by omega) (Nat.le_refl _) ?_
                      have hBn := sgB_up (n2 := 146) hB (show _ ≤ 146 from by omega)
                      clear hB; have hB := hBn; clear hBn
                      obtain ⟨rfl, hI282, en1_282, en2_282, en3_282, en4_282⟩ := hP
                      have hI282b := inv_dne hI224 wC hI282 en1_282 en2_282 en4_282
                      first
                        | have hfin := hI257b
                        | have hfin := hI282b
                        | have hfin := inv_dnw hI282b wC (iW_C hBC (iW_L hB199 i3 tt3 tx3 hbb.1 hbb.2 (m_ltC hBC i3 hbb.1 hbb.2 c237)))
                        | have hfin : Inv eda ia K g n S hw _ := hI282b
                      refine lv_iconst (v := 1) hx hb dX14_sounds_285 (by decide) ?_
                      exact sg_iret F hB hrt dX14_sounds_286 (by omega) (by omega) (⟨⟨_, rfl, Or.inl rfl⟩, hfin⟩)
                  · obtain ⟨m1, hm1⟩ := m_evm hB (K := K)
                    refine lv_aload_n hx hb dX14_sounds_240 rfl (lv_at hl 7 rfl) ?_
                    refine lv_iload_n hx hb dX14_sounds_241 rfl (lv_at hl 6 rfl) ?_
                    refine lv_aload hx hb dX14_sounds_242 (lv_at hl 1 rfl) ?_
                    refine gf_X14_371 F hB dX14_sounds_244 (by exact tt3) ?_
                    refine lv_if_eq (tgt := 255) hx hb dX14_sounds_247 (by decide) (fun c247 => ?_) (fun c247 => ?_)
                    · refine lv_bipush (v := 100) hx hb dX14_sounds_255 (by decide) ?_
                      refine sg_callV (ci := 19) F hB (m_ends l D cy hI224 x _ wC.1.1 wC.1.2 wC.2.1 wC.2.2.1 wC.2.2.2.1 hm1 _) (cwV 2 F.1.2.2.2.2 (mgV (mm_5 _ (List.mem_of_getElem? (i := 33) rfl)) (mm_5 _ (List.mem_of_getElem? (i := 34) rfl)) (mm_5 _ (List.mem_of_getElem? (i := 35) rfl)) (mm_3 _ (List.mem_of_getElem? (i := 23) rfl)) (mm_5 _ (List.mem_of_getElem? (i := 32) rfl))) rfl rfl rfl ⟨rfl, by decide, by decide, by decide +kernel⟩ ⟨Nat.le_of_ble_eq_true rfl, Nat.le_of_ble_eq_true rfl⟩) rfl rfl (by decide) rfl hl.1 rfl (Nat.le_of_ble_eq_true rfl) dX14_sounds_257 (Nat.le_trans (show _ ≤ 18 from by omega) (Nat.le_of_ble_eq_true rfl)) (Nat.add_le_add_right (Nat.le_trans (show _ ≤ 146 from by omega) (Nat.le_of_ble_eq_true rfl)) _) (inv_A hI224) (fun H locs v σ257 N hBn hX257 hP => ?_)
                      clear hB; have hB := hBn; clear hBn
                      refine W.widen (k := 18) (n := N) (show _ ≤ 18 from by omega) (Nat.le_refl _) ?_
                      have hBn := sgB_up (n2 := 146) hB (show _ ≤ 146 from by omega)
                      clear hB; have hB := hBn; clear hBn
                      obtain ⟨rfl, hI257, en1_257, en2_257, en3_257, en4_257⟩ := hP
                      have hI257b := inv_dne hI224 wC hI257 en1_257 en2_257 en4_257
                      refine lv_goto (tgt := 285) hx hb dX14_sounds_260 (by decide) ?_
                      first
                        | have hfin := hI257b
                        | have hfin := hI282b
                        | have hfin := inv_dnw hI257b wC (iW_C hBC (iW_L hB199 i3 tt3 tx3 hbb.1 hbb.2 (m_ltC hBC i3 hbb.1 hbb.2 c237)))
                        | have hfin : Inv eda ia K g n S hw _ := hI257b
                      refine lv_iconst (v := 1) hx hb dX14_sounds_285 (by decide) ?_
                      exact sg_iret F hB hrt dX14_sounds_286 (by omega) (by omega) (⟨⟨_, rfl, Or.inl rfl⟩, hfin⟩)
                    · refine lv_bipush (v := 108) hx hb dX14_sounds_250 (by decide) ?_
                      refine lv_goto (tgt := 257) hx hb dX14_sounds_252 (by decide) ?_
                      refine sg_callV (ci := 19) F hB (m_ends l D cy hI224 x _ wC.1.1 wC.1.2 wC.2.1 wC.2.2.1 wC.2.2.2.1 hm1 _) (cwV 2 F.1.2.2.2.2 (mgV (mm_5 _ (List.mem_of_getElem? (i := 33) rfl)) (mm_5 _ (List.mem_of_getElem? (i := 34) rfl)) (mm_5 _ (List.mem_of_getElem? (i := 35) rfl)) (mm_3 _ (List.mem_of_getElem? (i := 23) rfl)) (mm_5 _ (List.mem_of_getElem? (i := 32) rfl))) rfl rfl rfl ⟨rfl, by decide, by decide, by decide +kernel⟩ ⟨Nat.le_of_ble_eq_true rfl, Nat.le_of_ble_eq_true rfl⟩) rfl rfl (by decide) rfl hl.1 rfl (Nat.le_of_ble_eq_true rfl) dX14_sounds_257 (Nat.le_trans (show _ ≤ 18 from by omega) (Nat.le_of_ble_eq_true rfl)) (Nat.add_le_add_right (Nat.le_trans (show _ ≤ 146 from by omega) (Nat.le_of_ble_eq_true rfl)) _) (inv_A hI224) (fun H locs v σ257 N hBn hX257 hP => ?_)
                      clear hB; have hB := hBn; clear hBn
                      refine W.widen (k := 18) (n := N) (show _ ≤ 18 from by omega) (Nat.le_refl _) ?_
                      have hBn := sgB_up (n2 := 146) hB (show _ ≤ 146 from by omega)
                      clear hB; have hB := hBn; clear hBn
                      obtain ⟨rfl, hI257, en1_257, en2_257, en3_257, en4_257⟩ := hP
                      have hI257b := inv_dne hI224 wC hI257 en1_257 en2_257 en4_257
                      refine lv_goto (tgt := 285) hx hb dX14_sounds_260 (by decide) ?_
                      first
                        | have hfin := hI257b
                        | have hfin := hI282b
                        | have hfin := inv_dnw hI257b wC (iW_C hBC (iW_L hB199 i3 tt3 tx3 hbb.1 hbb.2 (m_ltC hBC i3 hbb.1 hbb.2 c237)))
                        | have hfin : Inv eda ia K g n S hw _ := hI257b
                      refine lv_iconst (v := 1) hx hb dX14_sounds_285 (by decide) ?_
                      exact sg_iret F hB hrt dX14_sounds_286 (by omega) (by omega) (⟨⟨_, rfl, Or.inl rfl⟩, hfin⟩)
                · refine lv_iconst (v := 1) hx hb dX14_sounds_219 (by decide) ?_
                  refine lv_goto (tgt := 224) hx hb dX14_sounds_220 (by decide) ?_
                  refine pf_X14_371 F hB dX14_sounds_224 (by exact tt3) ⟨by decide, by decide⟩ (fun H locs hBn => ?_)
                  clear hB; have hB := hBn; clear hBn
                  have hI224 := inv_PIc (t := 19) hB hI199 (by exact tt3) (by unfold iCn; omega)
                  have wC := wPp_hB4 hB (wPp_PI wB (Or.inr ⟨fun z => absurd (tt3.symm.trans z) (by decide), fun z => absurd (tt3.symm.trans z) (by decide)⟩) (by exact tp3) (by exact tl3))
                  have hBC := hB
                  refine lv_aload hx hb dX14_sounds_227 (lv_at hl 1 rfl) ?_
                  refine gf_X14_284 F hB dX14_sounds_229 (by exact tt3) ?_
                  refine lv_aload hx hb dX14_sounds_232 (lv_at hl 1 rfl) ?_
                  refine gf_X14_338 F hB dX14_sounds_234 (by exact tt3) ?_
                  refine lv_icmp_lt (tgt := 263) hx hb dX14_sounds_237 (by decide) (fun c237 => ?_) (fun c237 => ?_)
                  · refine lv_aload_n hx hb dX14_sounds_263 rfl (lv_at hl 5 rfl) ?_
                    refine gf_X14_300 F hB dX14_sounds_264 (by exact tx3) ?_
                    refine lv_if_eq (tgt := 285) hx hb dX14_sounds_267 (by decide) (fun c267 => ((hin ((((sgI_nk (by decide)).trans (sgI_nk (by decide))).trans x03).symm.trans c267)) : False).elim) (fun c267 => ?_)
                    refine lv_iload_n hx hb dX14_sounds_270 rfl (lv_at hl 4 rfl) ?_
                    refine lv_aload_n hx hb dX14_sounds_271 rfl (lv_at hl 5 rfl) ?_
                    refine gf_X14_238 F hB dX14_sounds_272 (by exact tx3) ?_
                    refine lv_icmp_ge (tgt := 285) hx hb dX14_sounds_275 (by decide) (fun c275 => ?_) (fun c275 => ?_)
                    · first
                        | have hfin := hI257b
                        | have hfin := hI282b
                        | have hfin := inv_dnw hI224 wC (iW_C hBC (iW_L hB199 i3 tt3 tx3 hbb.1 hbb.2 (m_ltC hBC i3 hbb.1 hbb.2 c237)))
                        | have hfin : Inv eda ia K g n S hw _ := hI224
                      refine lv_iconst (v := 1) hx hb dX14_sounds_285 (by decide) ?_
                      exact sg_iret F hB hrt dX14_sounds_286 (by omega) (by omega) (⟨⟨_, rfl, Or.inl rfl⟩, hfin⟩)
                    · obtain ⟨m1, hm1⟩ := m_evm hB (K := K)
                      refine lv_aload_n hx hb dX14_sounds_278 rfl (lv_at hl 7 rfl) ?_
                      refine lv_iload_n hx hb dX14_sounds_279 rfl (lv_at hl 6 rfl) ?_
                      refine lv_bipush (v := 104) hx hb dX14_sounds_280 (by decide) ?_
                      refine sg_callV (ci := 19) F hB (m_ends l D cy hI224 x 104 wC.1.1 wC.1.2 wC.2.1 wC.2.2.1 wC.2.2.2.1 hm1 _) (cwV 2 F.1.2.2.2.2 (mgV (mm_5 _ (List.mem_of_getElem? (i := 33) rfl)) (mm_5 _ (List.mem_of_getElem? (i := 34) rfl)) (mm_5 _ (List.mem_of_getElem? (i := 35) rfl)) (mm_3 _ (List.mem_of_getElem? (i := 23) rfl)) (mm_5 _ (List.mem_of_getElem? (i := 32) rfl))) rfl rfl rfl ⟨rfl, by decide, by decide, by decide +kernel⟩ ⟨Nat.le_of_ble_eq_true rfl, Nat.le_of_ble_eq_true rfl⟩) rfl rfl (by decide) rfl hl.1 rfl (Nat.le_of_ble_eq_true rfl) dX14_sounds_282 (Nat.le_trans (show _ ≤ 18 from by omega) (Nat.le_of_ble_eq_true rfl)) (Nat.add_le_add_right (Nat.le_trans (show _ ≤ 146 from by omega) (Nat.le_of_ble_eq_true rfl)) _) (inv_A hI224) (fun H locs v σ282 N hBn hX282 hP => ?_)
                      clear hB; have hB := hBn; clear hBn
                      refine W.widen (k := 18) (n := N) (show _ ≤ 18 from by omega) (Nat.le_refl _) ?_
                      have hBn := sgB_up (n2 := 146) hB (show _ ≤ 146 from by omega)
                      clear hB; have hB := hBn; clear hBn
                      obtain ⟨rfl, hI282, en1_282, en2_282, en3_282, en4_282⟩ := hP
                      have hI282b := inv_dne hI224 wC hI282 en1_282 en2_282 en4_282
                      first
                        | have hfin := hI257b
                        | have hfin := hI282b
                        | have hfin := inv_dnw hI282b wC (iW_C hBC (iW_L hB199 i3 tt3 tx3 hbb.1 hbb.2 (m_ltC hBC i3 hbb.1 hbb.2 c237)))
                        | have hfin : Inv eda ia K g n S hw _ := hI282b
                      refine lv_iconst (v := 1) hx hb dX14_sounds_285 (by decide) ?_
                      exact sg_iret F hB hrt dX14_sounds_286 (by omega) (by omega) (⟨⟨_, rfl, Or.inl rfl⟩, hfin⟩)
                  · obtain ⟨m1, hm1⟩ := m_evm hB (K := K)
                    refine lv_aload_n hx hb dX14_sounds_240 rfl (lv_at hl 7 rfl) ?_
                    refine lv_iload_n hx hb dX14_sounds_241 rfl (lv_at hl 6 rfl) ?_
                    refine lv_aload hx hb dX14_sounds_242 (lv_at hl 1 rfl) ?_
                    refine gf_X14_371 F hB dX14_sounds_244 (by exact tt3) ?_
                    refine lv_if_eq (tgt := 255) hx hb dX14_sounds_247 (by decide) (fun c247 => ?_) (fun c247 => ?_)
                    · refine lv_bipush (v := 100) hx hb dX14_sounds_255 (by decide) ?_
                      refine sg_callV (ci := 19) F hB (m_ends l D cy hI224 x _ wC.1.1 wC.1.2 wC.2.1 wC.2.2.1 wC.2.2.2.1 hm1 _) (cwV 2 F.1.2.2.2.2 (mgV (mm_5 _ (List.mem_of_getElem? (i := 33) rfl)) (mm_5 _ (List.mem_of_getElem? (i := 34) rfl)) (mm_5 _ (List.mem_of_getElem? (i := 35) rfl)) (mm_3 _ (List.mem_of_getElem? (i := 23) rfl)) (mm_5 _ (List.mem_of_getElem? (i := 32) rfl))) rfl rfl rfl ⟨rfl, by decide, by decide, by decide +kernel⟩ ⟨Nat.le_of_ble_eq_true rfl, Nat.le_of_ble_eq_true rfl⟩) rfl rfl (by decide) rfl hl.1 rfl (Nat.le_of_ble_eq_true rfl) dX14_sounds_257 (Nat.le_trans (show _ ≤ 18 from by omega) (Nat.le_of_ble_eq_true rfl)) (Nat.add_le_add_right (Nat.le_trans (show _ ≤ 146 from by omega) (Nat.le_of_ble_eq_true rfl)) _) (inv_A hI224) (fun H locs v σ257 N hBn hX257 hP => ?_)
                      clear hB; have hB := hBn; clear hBn
                      refine W.widen (k := 18) (n := N) (show _ ≤ 18 from by omega) (Nat.le_refl _) ?_
                      have hBn := sgB_up (n2 := 146) hB (show _ ≤ 146 from by omega)
                      clear hB; have hB := hBn; clear hBn
                      obtain ⟨rfl, hI257, en1_257, en2_257, en3_257, en4_257⟩ := hP
                      have hI257b := inv_dne hI224 wC hI257 en1_257 en2_257 en4_257
                      refine lv_goto (tgt := 285) hx hb dX14_sounds_260 (by decide) ?_
                      first
                        | have hfin := hI257b
                        | have hfin := hI282b
                        | have hfin := inv_dnw hI257b wC (iW_C hBC (iW_L hB199 i3 tt3 tx3 hbb.1 hbb.2 (m_ltC hBC i3 hbb.1 hbb.2 c237)))
                        | have hfin : Inv eda ia K g n S hw _ := hI257b
                      refine lv_iconst (v := 1) hx hb dX14_sounds_285 (by decide) ?_
                      exact sg_iret F hB hrt dX14_sounds_286 (by omega) (by omega) (⟨⟨_, rfl, Or.inl rfl⟩, hfin⟩)
                    · refine lv_bipush (v := 108) hx hb dX14_sounds_250 (by decide) ?_
                      refine lv_goto (tgt := 257) hx hb dX14_sounds_252 (by decide) ?_
                      refine sg_callV (ci := 19) F hB (m_ends l D cy hI224 x _ wC.1.1 wC.1.2 wC.2.1 wC.2.2.1 wC.2.2.2.1 hm1 _) (cwV 2 F.1.2.2.2.2 (mgV (mm_5 _ (List.mem_of_getElem? (i := 33) rfl)) (mm_5 _ (List.mem_of_getElem? (i := 34) rfl)) (mm_5 _ (List.mem_of_getElem? (i := 35) rfl)) (mm_3 _ (List.mem_of_getElem? (i := 23) rfl)) (mm_5 _ (List.mem_of_getElem? (i := 32) rfl))) rfl rfl rfl ⟨rfl, by decide, by decide, by decide +kernel⟩ ⟨Nat.le_of_ble_eq_true rfl, Nat.le_of_ble_eq_true rfl⟩) rfl rfl (by decide) rfl hl.1 rfl (Nat.le_of_ble_eq_true rfl) dX14_sounds_257 (Nat.le_trans (show _ ≤ 18 from by omega) (Nat.le_of_ble_eq_true rfl)) (Nat.add_le_add_right (Nat.le_trans (show _ ≤ 146 from by omega) (Nat.le_of_ble_eq_true rfl)) _) (inv_A hI224) (fun H locs v σ257 N hBn hX257 hP => ?_)
                      clear hB; have hB := hBn; clear hBn
                      refine W.widen (k := 18) (n := N) (show _ ≤ 18 from by omega) (Nat.le_refl _) ?_
                      have hBn := sgB_up (n2 := 146) hB (show _ ≤ 146 from by omega)
                      clear hB; have hB := hBn; clear hBn
                      obtain ⟨rfl, hI257, en1_257, en2_257, en3_257, en4_257⟩ := hP
                      have hI257b := inv_dne hI224 wC hI257 en1_257 en2_257 en4_257
                      refine lv_goto (tgt := 285) hx hb dX14_sounds_260 (by decide) ?_
                      first
                        | have hfin := hI257b
                        | have hfin := hI282b
                        | have hfin := inv_dnw hI257b wC (iW_C hBC (iW_L hB199 i3 tt3 tx3 hbb.1 hbb.2 (m_ltC hBC i3 hbb.1 hbb.2 c237)))
                        | have hfin : Inv eda ia K g n S hw _ := hI257b
                      refine lv_iconst (v := 1) hx hb dX14_sounds_285 (by decide) ?_
                      exact sg_iret F hB hrt dX14_sounds_286 (by omega) (by omega) (⟨⟨_, rfl, Or.inl rfl⟩, hfin⟩)
            · have hi4 := i_nle c92
              refine lv_aload_n hx hb dX14_sounds_95 rfl (lv_at hl 5 rfl) ?_
              refine gf_X14_300 F hB dX14_sounds_96 tx3 ?_
              refine lv_if_eq (tgt := 119) hx hb dX14_sounds_99 (by decide) (fun c99 => ((hin ((x03).symm.trans c99)) : False).elim) (fun c99 => ?_)
              have h03 : 0 < sgSz σ3 le := by omega
              obtain ⟨r1, za, zb⟩ := (inv_LS hI3).1 _ tle3 id
              have gs := sgLz_s za h03
              obtain ⟨t9, v1, v2⟩ := inv_L hI3 le tle3 0 h03
              refine lv_aload_n hx hb dX14_sounds_102 rfl (lv_at hl 5 rfl) ?_
              refine gr_X14_320 F hB dX14_sounds_103 tx3 hle3 ?_
              refine lv_iconst (v := 0) hx hb dX14_sounds_106 (by decide) ?_
              refine sg_callV (ci := 4) F hB (m_remove0 l D cy gs h03 (fun j y _ hy => (inv_LS hI3).2.2.1 r1 j y gs.2.2.1 hy) (by rw [← sgAt_of gs.2.1]; exact v1) _) (cwV 1 F.1.2.2.2.2 (mgV (mm_5 _ (List.mem_of_getElem? (i := 29) rfl)) (mm_5 _ (List.mem_of_getElem? (i := 30) rfl)) (mm_5 _ (List.mem_of_getElem? (i := 31) rfl)) (mm_0 _ (List.mem_of_getElem? (i := 35) rfl)) (mm_5 _ (List.mem_of_getElem? (i := 21) rfl))) rfl rfl rfl ⟨rfl, by decide, by decide, by decide +kernel⟩ ⟨Nat.le_of_ble_eq_true rfl, Nat.le_of_ble_eq_true rfl⟩) rfl rfl (by decide) rfl hl.1 rfl (Nat.le_of_ble_eq_true rfl) dX14_sounds_107 (by show _ ≤ 18; omega) (Nat.add_le_add_right (by omega) _) tle3 (fun H locs v σ107 N hBn hX107 hP => ?_)
              clear hB; have hB := hBn; clear hBn
              obtain ⟨rfl, ho, ho1, ho2, ho3, ho4⟩ := hP
              obtain ⟨hI107, rm1, rm2, rm3, rm4, rm5⟩ := inv_rm hI3 gs h03 ho ho1 ho3 ho2 ho4 (fun z => absurd (rle.symm.trans z) (by decide)) (fun _ _ => Or.inr (by rw [ole, hz4]; exact hkp))
              have hbx0 : sgBx ia σ107 t9 := sgBx_mono (fun a _ => ho.1 a) (by unfold iEl at v2; rw [rle] at v2; exact v2)
              have zr107 : zR l1 σ3 σ107 := zR_l (l2 := le) (fun a _ => ho.1 a) (fun a k _ h5 => ho.2.2.1 a k (fun z => h5 (by rw [z]; exact tle3))) rm5 rm4 tl3 nle
              have i107 : ∀ k, sgI σ107 xe k = sgI σ3 xe k := fun k => ho.2.2.1 xe k (fun z => by rw [z, tle3] at tx3; exact absurd tx3 (by decide))
              have tx107 := tFr_T zr107.1 tx3 (by decide)
              have tl107 := tFr_T zr107.1 tl3 (by decide)
              have tle107 : sgT σ107 le = 5 := (ho.1 le).1.trans tle3
              have sG107 : sgSz σ107 (kG K) = sgSz σ3 (kG K) := (rm4 _ (inv_tG hI3).1 (fun z => z.elim id (fun w => nleG w.symm))).1
              refine va_castY hx hb hown (F.1.2.2.2.2 _ (List.mem_cons_of_mem _ (mm_8 _ (List.mem_of_getElem? (i := 3) rfl)))) (F.2.2.1.2.2 ("java/lang/Integer", "java/lang/Integer") (by decide +kernel)) (sg_rbx F hB hbx0) dX14_sounds_110 ?_
              refine sg_callVr F hB (m_unbox l D cy hbx0 _) (cwV 0 F.1.2.2.2.2 (mgV (mm_8 _ (List.mem_of_getElem? (i := 5) rfl)) (mm_8 _ (List.mem_of_getElem? (i := 6) rfl)) (mm_8 _ (List.mem_of_getElem? (i := 7) rfl)) (mm_7 _ (List.mem_of_getElem? (i := 30) rfl)) (mm_8 _ (List.mem_of_getElem? (i := 1) rfl))) rfl rfl rfl ⟨rfl, by decide, by decide, by decide +kernel⟩ ⟨Nat.le_of_ble_eq_true rfl, Nat.le_of_ble_eq_true rfl⟩) rfl hl.1 rfl (Nat.le_of_ble_eq_true rfl) dX14_sounds_113 (by show _ ≤ 18; omega) (Nat.add_le_add_right (by omega) _) (sg_rbx F hB hbx0) (fun H locs v σ113 N hBn hX113 hP => ?_)
              clear hB; have hB := hBn; clear hBn
              obtain ⟨⟨w113, rfl⟩, rfl⟩ := hP
              refine lv_goto (tgt := 133) hx hb dX14_sounds_116 (by decide) ?_
              refine lv_istore (lv' := [(8, .int _), (7, .int _), (6, .ref _), (5, .ref _), (4, .int _), (3, .int _), (2, .ref _), (1, .int _), (0, .ref _)]) hx hb dX14_sounds_133 hl (by decide) rfl (fun ls hl => ?_)
              refine lv_iload hx hb dX14_sounds_135 (lv_at hl 4 rfl) ?_
              refine lv_bipush (v := 32) hx hb dX14_sounds_137 (by decide) ?_
              refine lv_icmp_ne (tgt := 165) hx hb dX14_sounds_139 (by decide) (fun c139 => ?_) (fun c139 => ?_)
              · refine lv_iload hx hb dX14_sounds_165 (lv_at hl 4 rfl) ?_
                refine lv_bipush (v := 32) hx hb dX14_sounds_167 (by decide) ?_
                refine lv_icmp_ne (tgt := 185) hx hb dX14_sounds_169 (by decide) (fun c169 => ?_) (fun c169 => ((c139 c169) : False).elim)
                refine lv_iinc (lv' := [(7, .int _), (8, .int _), (6, .ref _), (5, .ref _), (4, .int _), (3, .int _), (2, .ref _), (1, .int _), (0, .ref _)]) hx hb dX14_sounds_185 hl (k := 1) rfl rfl (by decide) rfl (fun ls hl => ?_)
                refine lv_goto (tgt := 89) hx hb dX14_sounds_188 (by decide) ?_
                have hi3 := i_nle c92
                have e9 : (k9 + Int32.ofInt 1).toInt = k9.toInt + 1 := m_add1 (by omega) (by omega)
                first
                  | exact ih89 _ (by subst hd89; rw [e9]; omega) _ _ _ _ _ _ _ _ hB (lv_sub hl [0, 2, 3, 4, 5, 6, 7, 8] rfl) hI158 ⟨by rw [e9]; omega, by rw [e9]; omega⟩ (by rw [e9, l158, rm2]; omega) (by rw [e9, ada158, sG5]; omega) ⟨by rw [e9]; show kc + 0 + 0 + 1 + 1 ≤ _; omega, by rw [e9]; omega⟩ (x158.trans hz4) z158 rfl
                  | exact ih89 _ (by subst hd89; rw [e9]; omega) _ _ _ _ _ _ _ _ hB (lv_sub hl [0, 2, 3, 4, 5, 6, 7, 8] rfl) hI107 ⟨by rw [e9]; omega, by rw [e9]; omega⟩ (by rw [e9, rm2]; omega) (by rw [e9, sG107]; omega) ⟨by rw [e9]; show kc + 0 + 0 ≤ _; omega, by rw [e9]; omega⟩ ((i107 4).trans hz4) (zR_tr hzr zr107) rfl
              · refine lv_aload_n hx hb dX14_sounds_142 rfl (lv_at hl 6 rfl) ?_
                refine gf_X14_300 F hB dX14_sounds_143 tx107 ?_
                refine lv_if_eq (tgt := 165) hx hb dX14_sounds_146 (by decide) (fun c146 => ((hin (((i107 0).trans x03).symm.trans c146)) : False).elim) (fun c146 => ?_)
                refine lv_aload_n hx hb dX14_sounds_149 rfl (lv_at hl 8 rfl) ?_
                refine gr_X14_35 F hB dX14_sounds_150 (inv_A hI107) (inv_r8 hI107) ?_
                refine lv_iload hx hb dX14_sounds_153 (lv_at hl 0 rfl) ?_
                refine sg_callS F hB (m_box l D cy _ _) (va_cwS 1 F.1.2.2.2.2 (mgS2 (mm_7 _ (List.mem_of_getElem? (i := 33) rfl)) (mm_7 _ (List.mem_of_getElem? (i := 34) rfl)) (mm_7 _ (List.mem_of_getElem? (i := 30) rfl)) (mm_7 _ (List.mem_of_getElem? (i := 25) rfl))) rfl rfl rfl ⟨by decide, by decide, by decide +kernel⟩ ⟨Nat.le_of_ble_eq_true rfl, Nat.le_of_ble_eq_true rfl⟩) rfl hl.1 rfl (Nat.le_of_ble_eq_true rfl) dX14_sounds_155 (by show _ ≤ 18; omega) (Nat.add_le_add_right (by omega) _)  (fun H locs v σ155 N hBn hX155 hP => ?_)
                clear hB; have hB := hBn; clear hBn
                obtain ⟨y155, rfl, hbx, hqt⟩ := hP
                have ed5 := sg_eda F hB
                have hI155 := inv_Qt hI107 hqt ed5
                have tG5 := (inv_tG hI155).1
                have sG5 : sgSz σ155 (kG K) = sgSz σ3 (kG K) := (sgSz_Qt hqt (inv_tG hI107).1).trans sG107
                have z5 := zR_Qt hI107 hqt ed5 tl107
                have lq5 := inv_LqQt hI107 hqt ed5
                obtain ⟨ra158, za158, zb158⟩ := (inv_LS hI155).1 _ tG5 id
                refine sg_callV (ci := 4) F hB (m_add l D cy za158 (fun j y h1 h2 => (inv_LS hI155).2.2.1 ra158 j y h1 h2) y155 (iEl_K (l0 := _) (g := g) (j := 0) (by unfold iEl; rw [(inv_tG h).2]; exact hbx)) zb158 _) (cwV 1 F.1.2.2.2.2 (mgV (mm_3 _ (List.mem_of_getElem? (i := 9) rfl)) (mm_3 _ (List.mem_of_getElem? (i := 10) rfl)) (mm_3 _ (List.mem_of_getElem? (i := 11) rfl)) (mm_0 _ (List.mem_of_getElem? (i := 35) rfl)) (mm_2 _ (List.mem_of_getElem? (i := 29) rfl))) rfl rfl rfl ⟨rfl, by decide, by decide, by decide +kernel⟩ ⟨Nat.le_of_ble_eq_true rfl, Nat.le_of_ble_eq_true rfl⟩) rfl rfl (by decide) rfl hl.1 rfl (Nat.le_of_ble_eq_true rfl) dX14_sounds_158 (by show _ ≤ 18; omega) (Nat.add_le_add_right (by omega) _) tG5 (fun H locs v σ158 N hBn hX158 hP => ?_)
                clear hB; have hB := hBn; clear hBn
                obtain ⟨rfl, hAd158⟩ := hP
                obtain ⟨hI158, ada158, adb158, adc158, add158, ade158, adf158, adg158, adh158⟩ := inv_ad hI155 tG5 za158 hAd158 (sg_eda F hB) (by unfold iEl; rw [(inv_tG h).2]; exact hbx) (by rw [(inv_tG h).2]; refine inv_cap ?_ (Or.inl rfl); rw [sG5]; omega) (Or.inl ⟨inv_nD hI155 (by rw [(inv_tG h).2]; decide), rfl⟩) (nr7 (inv_tG h).2 (by decide))
                have z158 : zR l1 σ σ158 := zR_tr hzr (zR_tr zr107 (zR_tr z5 (zR_l (l2 := kG K) add158 adf158 adg158 adh158 (tFr_T z5.1 tl107 (by decide)) nlG)))
                have l158 : sgSz σ158 le = sgSz σ107 le := ((adh158 le (tFr_T z5.1 tle107 (by decide)) (fun z => z.elim id nleG)).1).trans (lq5 le tle107 id).1
                have x158 : sgI σ158 xe 4 = sgI σ3 xe 4 := ((adf158 xe 4 (by rw [tFr_T z5.1 tx107 (by decide)]; decide) (by rw [tFr_T z5.1 tx107 (by decide)]; decide)).trans (((hqt.1 xe (by rw [tx107]; decide)).2.2 4).1)).trans (i107 4)
                refine lv_pop hx hb dX14_sounds_161 rfl ?_
                refine lv_goto (tgt := 185) hx hb dX14_sounds_162 (by decide) ?_
                refine lv_iinc (lv' := [(7, .int _), (8, .int _), (6, .ref _), (5, .ref _), (4, .int _), (3, .int _), (2, .ref _), (1, .int _), (0, .ref _)]) hx hb dX14_sounds_185 hl (k := 1) rfl rfl (by decide) rfl (fun ls hl => ?_)
                refine lv_goto (tgt := 89) hx hb dX14_sounds_188 (by decide) ?_
                have hi3 := i_nle c92
                have e9 : (k9 + Int32.ofInt 1).toInt = k9.toInt + 1 := m_add1 (by omega) (by omega)
                first
                  | exact ih89 _ (by subst hd89; rw [e9]; omega) _ _ _ _ _ _ _ _ hB (lv_sub hl [0, 2, 3, 4, 5, 6, 7, 8] rfl) hI158 ⟨by rw [e9]; omega, by rw [e9]; omega⟩ (by rw [e9, l158, rm2]; omega) (by rw [e9, ada158, sG5]; omega) ⟨by rw [e9]; show kc + 0 + 0 + 1 + 1 ≤ _; omega, by rw [e9]; omega⟩ (x158.trans hz4) z158 rfl
                  | exact ih89 _ (by subst hd89; rw [e9]; omega) _ _ _ _ _ _ _ _ hB (lv_sub hl [0, 2, 3, 4, 5, 6, 7, 8] rfl) hI107 ⟨by rw [e9]; omega, by rw [e9]; omega⟩ (by rw [e9, rm2]; omega) (by rw [e9, sG107]; omega) ⟨by rw [e9]; show kc + 0 + 0 ≤ _; omega, by rw [e9]; omega⟩ ((i107 4).trans hz4) (zR_tr hzr zr107) rfl
          · refine lv_iconst (v := 1) hx hb dX14_sounds_77 (by decide) ?_
            refine lv_goto (tgt := 82) hx hb dX14_sounds_78 (by decide) ?_
            refine lv_iadd hx hb dX14_sounds_82 ?_
            refine pf_X14_366 F hB dX14_sounds_83 (inv_A h) (fun H locs hBn => ?_)
            clear hB; have hB := hBn; clear hBn
            have hI83 := inv_PIc (t := 20) hB h (inv_A h) (by unfold iCn; omega)
            have z83 := zPIB (l1 := l1) (t := 20) hB (inv_A h) (by decide) tl
            have hb0 := i_nle c48
            rw [m_i0] at hb0
            obtain ⟨kc, hkc⟩ : ∃ kc : Nat, kc = 0 := ⟨_, rfl⟩
            refine W.widen (k := kc) (n := N) (by omega) (Nat.le_refl _) ?_
            refine lv_iconst (v := 0) hx hb dX14_sounds_86 (by decide) ?_
            refine lv_istore (lv' := [(7, .int _), (6, .ref _), (5, .ref _), (0, .ref _), (1, .int _), (2, .ref _), (3, .int _), (4, .int _)]) hx hb dX14_sounds_87 hl (by decide) rfl (fun ls hl => ?_)
            have key89 : ∃ (σ3 : SG) (k9 : Int32) (nc : Nat), sgB D cy s σ σ3 H locs N nc ∧ lv_has ls 9 [(7, .int k9), (6, .ref t0), (5, .ref pp), (4, .int f0), (3, .int b), (2, .ref xe), (1, .int x), (0, .ref (kA K))] ∧ Inv eda ia K g n S hw σ3 ∧ (0 ≤ k9.toInt ∧ k9.toInt ≤ b.toInt) ∧ sgSz σ3 le = sgSz σ le - k9.toInt.toNat ∧ sgSz σ3 (kG K) ≤ sgSz σ (kG K) + k9.toInt.toNat ∧ (kc ≤ 2 * k9.toInt.toNat ∧ nc ≤ 16 * k9.toInt.toNat) ∧ sgI σ3 xe 4 = sgI σ xe 4 ∧ zR l1 σ σ3 := ⟨_, _, _, hB, (lv_sub hl [0, 1, 2, 7, 6, 5, 4, 3] rfl), hI83, ⟨by decide, by rw [m_i0]; omega⟩, by rw [m_i0]; exact (sgSz_nk (by decide)).trans rfl, by rw [m_i0]; exact Nat.le_of_eq (sgSz_nk (by decide)), ⟨by omega, by omega⟩, sgI_nk (by decide), z83⟩
            clear hB hl hkc
            obtain ⟨σ3, k9, nc, hB, hl, hI3, hi, hzl, hzG, hkn, hz4, hzr⟩ := key89
            obtain ⟨d89, hd89⟩ : ∃ d : Nat, d = (b.toInt - k9.toInt).toNat := ⟨_, rfl⟩
            induction d89 using Nat.strongRecOn generalizing H locs ls N σ3 k9 nc kc
            rename_i d89 ih89
            have tx3 : sgT σ3 xe = 17 := tFr_T hzr.1 txe (by decide)
            have tp3 : sgT σ3 pp = 18 := tFr_T hzr.1 tp (by decide)
            have tle3 : sgT σ3 le = 5 := tFr_T hzr.1 tle (by decide)
            have hle3 : sgR σ3 xe 3 = some le := (hzr.2.2.2.2.1 xe 3 (by rw [txe]; decide)).trans hle
            have tl3 : sgT σ3 l1 = 5 := tFr_T hzr.1 tl (by decide)
            have tt3 : sgT σ3 t0 = 19 := tFr_T hzr.1 tt (by decide)
            have d3 : sgI σ3 t0 2 = sgI σ t0 2 := hzr.2.1 t0 2 tt
            have x03 : sgI σ3 xe 0 = sgI σ xe 0 := hzr.2.2.2.1 xe 0 txe (by decide)
            refine lv_iload hx hb dX14_sounds_89 (lv_at hl 0 rfl) ?_
            refine lv_iload_n hx hb dX14_sounds_91 rfl (lv_at hl 4 rfl) ?_
            refine lv_icmp_ge (tgt := 191) hx hb dX14_sounds_92 (by decide) (fun c92 => ?_) (fun c92 => ?_)
            · have hi4 := i_le c92
              refine W.widen (k := 16) (n := N) (show kc ≤ 16 from by omega) (Nat.le_refl _) ?_
              have hBn := sgB_up (n2 := 128) hB (show nc ≤ 128 from by omega)
              clear hB; have hB := hBn; clear hBn
              refine lv_aload hx hb dX14_sounds_191 (lv_at hl 1 rfl) ?_
              refine lv_dup hx hb dX14_sounds_193 rfl ?_
              refine gf_X14_284 F hB dX14_sounds_194 tt3 ?_
              refine lv_iload_n hx hb dX14_sounds_197 rfl (lv_at hl 4 rfl) ?_
              refine lv_iadd hx hb dX14_sounds_198 ?_
              refine pf_X14_284 F hB dX14_sounds_199 tt3 (fun H locs hBn => ?_)
              clear hB; have hB := hBn; clear hBn
              have hI199 := inv_dnB hB hI3 tt3
              have w3 := wPp_z h wc hzr
              have wB := wPp_hB hB (wPp_PI w3 (Or.inr ⟨fun z => absurd (tt3.symm.trans z) (by decide), fun z => absurd (tt3.symm.trans z) (by decide)⟩) tp3 tl3)
              have hB199 := hB
              have i3 := iW_tr hzr.1 (inv_T h) tt (hzr.2.1 t0 1 tt) (hzr.2.1 t0 2 tt) x03 (hzr.2.2.2.2.1 t0 0 (by rw [tt]; decide)) ⟨iw1, iw2, iw3, iw4⟩
              refine lv_aload hx hb dX14_sounds_202 (lv_at hl 1 rfl) ?_
              refine lv_aload hx hb dX14_sounds_204 (lv_at hl 1 rfl) ?_
              refine gf_X14_371 F hB dX14_sounds_206 (by exact tt3) ?_
              refine lv_if_ne (tgt := 219) hx hb dX14_sounds_209 (by decide) (fun c209 => ?_) (fun c209 => ?_)
              · refine lv_iconst (v := 1) hx hb dX14_sounds_219 (by decide) ?_
                refine lv_goto (tgt := 224) hx hb dX14_sounds_220 (by decide) ?_
                refine pf_X14_371 F hB dX14_sounds_224 (by exact tt3) ⟨by decide, by decide⟩ (fun H locs hBn => ?_)
                clear hB; have hB := hBn; clear hBn
                have hI224 := inv_PIc (t := 19) hB hI199 (by exact tt3) (by unfold iCn; omega)
                have wC := wPp_hB4 hB (wPp_PI wB (Or.inr ⟨fun z => absurd (tt3.symm.trans z) (by decide), fun z => absurd (tt3.symm.trans z) (by decide)⟩) (by exact tp3) (by exact tl3))
                have hBC := hB
                refine lv_aload hx hb dX14_sounds_227 (lv_at hl 1 rfl) ?_
                refine gf_X14_284 F hB dX14_sounds_229 (by exact tt3) ?_
                refine lv_aload hx hb dX14_sounds_232 (lv_at hl 1 rfl) ?_
                refine gf_X14_338 F hB dX14_sounds_234 (by exact tt3) ?_
                refine lv_icmp_lt (tgt := 263) hx hb dX14_sounds_237 (by decide) (fun c237 => ?_) (fun c237 => ?_)
                · refine lv_aload_n hx hb dX14_sounds_263 rfl (lv_at hl 5 rfl) ?_
                  refine gf_X14_300 F hB dX14_sounds_264 (by exact tx3) ?_
                  refine lv_if_eq (tgt := 285) hx hb dX14_sounds_267 (by decide) (fun c267 => ((hin ((((sgI_nk (by decide)).trans (sgI_nk (by decide))).trans x03).symm.trans c267)) : False).elim) (fun c267 => ?_)
                  refine lv_iload_n hx hb dX14_sounds_270 rfl (lv_at hl 4 rfl) ?_
                  refine lv_aload_n hx hb dX14_sounds_271 rfl (lv_at hl 5 rfl) ?_
                  refine gf_X14_238 F hB dX14_sounds_272 (by exact tx3) ?_
                  refine lv_icmp_ge (tgt := 285) hx hb dX14_sounds_275 (by decide) (fun c275 => ?_) (fun c275 => ?_)
                  · first
                      | have hfin := hI257b
                      | have hfin := hI282b
                      | have hfin := inv_dnw hI224 wC (iW_C hBC (iW_L hB199 i3 tt3 tx3 hbb.1 hbb.2 (m_ltC hBC i3 hbb.1 hbb.2 c237)))
                      | have hfin : Inv eda ia K g n S hw _ := hI224
                    refine lv_iconst (v := 1) hx hb dX14_sounds_285 (by decide) ?_
                    exact sg_iret F hB hrt dX14_sounds_286 (by omega) (by omega) (⟨⟨_, rfl, Or.inl rfl⟩, hfin⟩)
                  · obtain ⟨m1, hm1⟩ := m_evm hB (K := K)
                    refine lv_aload_n hx hb dX14_sounds_278 rfl (lv_at hl 7 rfl) ?_
                    refine lv_iload_n hx hb dX14_sounds_279 rfl (lv_at hl 6 rfl) ?_
                    refine lv_bipush (v := 104) hx hb dX14_sounds_280 (by decide) ?_
                    refine sg_callV (ci := 19) F hB (m_ends l D cy hI224 x 104 wC.1.1 wC.1.2 wC.2.1 wC.2.2.1 wC.2.2.2.1 hm1 _) (cwV 2 F.1.2.2.2.2 (mgV (mm_5 _ (List.mem_of_getElem? (i := 33) rfl)) (mm_5 _ (List.mem_of_getElem? (i := 34) rfl)) (mm_5 _ (List.mem_of_getElem? (i := 35) rfl)) (mm_3 _ (List.mem_of_getElem? (i := 23) rfl)) (mm_5 _ (List.mem_of_getElem? (i := 32) rfl))) rfl rfl rfl ⟨rfl, by decide, by decide, by decide +kernel⟩ ⟨Nat.le_of_ble_eq_true rfl, Nat.le_of_ble_eq_true rfl⟩) rfl rfl (by decide) rfl hl.1 rfl (Nat.le_of_ble_eq_true rfl) dX14_sounds_282 (Nat.le_trans (show _ ≤ 18 from by omega) (Nat.le_of_ble_eq_true rfl)) (Nat.add_le_add_right (Nat.le_trans (show _ ≤ 146 from by omega) (Nat.le_of_ble_eq_true rfl)) _) (inv_A hI224) (fun H locs v σ282 N hBn hX282 hP => ?_)
                    clear hB; have hB := hBn; clear hBn
                    refine W.widen (k := 18) (n := N) (show _ ≤ 18 from by omega) (Nat.le_refl _) ?_
                    have hBn := sgB_up (n2 := 146) hB (show _ ≤ 146 from by omega)
                    clear hB; have hB := hBn; clear hBn
                    obtain ⟨rfl, hI282, en1_282, en2_282, en3_282, en4_282⟩ := hP
                    have hI282b := inv_dne hI224 wC hI282 en1_282 en2_282 en4_282
                    first
                      | have hfin := hI257b
                      | have hfin := hI282b
                      | have hfin := inv_dnw hI282b wC (iW_C hBC (iW_L hB199 i3 tt3 tx3 hbb.1 hbb.2 (m_ltC hBC i3 hbb.1 hbb.2 c237)))
                      | have hfin : Inv eda ia K g n S hw _ := hI282b
                    refine lv_iconst (v := 1) hx hb dX14_sounds_285 (by decide) ?_
                    exact sg_iret F hB hrt dX14_sounds_286 (by omega) (by omega) (⟨⟨_, rfl, Or.inl rfl⟩, hfin⟩)
                · obtain ⟨m1, hm1⟩ := m_evm hB (K := K)
                  refine lv_aload_n hx hb dX14_sounds_240 rfl (lv_at hl 7 rfl) ?_
                  refine lv_iload_n hx hb dX14_sounds_241 rfl (lv_at hl 6 rfl) ?_
                  refine lv_aload hx hb dX14_sounds_242 (lv_at hl 1 rfl) ?_
                  refine gf_X14_371 F hB dX14_sounds_244 (by exact tt3) ?_
                  refine lv_if_eq (tgt := 255) hx hb dX14_sounds_247 (by decide) (fun c247 => ?_) (fun c247 => ?_)
                  · refine lv_bipush (v := 100) hx hb dX14_sounds_255 (by decide) ?_
                    refine sg_callV (ci := 19) F hB (m_ends l D cy hI224 x _ wC.1.1 wC.1.2 wC.2.1 wC.2.2.1 wC.2.2.2.1 hm1 _) (cwV 2 F.1.2.2.2.2 (mgV (mm_5 _ (List.mem_of_getElem? (i := 33) rfl)) (mm_5 _ (List.mem_of_getElem? (i := 34) rfl)) (mm_5 _ (List.mem_of_getElem? (i := 35) rfl)) (mm_3 _ (List.mem_of_getElem? (i := 23) rfl)) (mm_5 _ (List.mem_of_getElem? (i := 32) rfl))) rfl rfl rfl ⟨rfl, by decide, by decide, by decide +kernel⟩ ⟨Nat.le_of_ble_eq_true rfl, Nat.le_of_ble_eq_true rfl⟩) rfl rfl (by decide) rfl hl.1 rfl (Nat.le_of_ble_eq_true rfl) dX14_sounds_257 (Nat.le_trans (show _ ≤ 18 from by omega) (Nat.le_of_ble_eq_true rfl)) (Nat.add_le_add_right (Nat.le_trans (show _ ≤ 146 from by omega) (Nat.le_of_ble_eq_true rfl)) _) (inv_A hI224) (fun H locs v σ257 N hBn hX257 hP => ?_)
                    clear hB; have hB := hBn; clear hBn
                    refine W.widen (k := 18) (n := N) (show _ ≤ 18 from by omega) (Nat.le_refl _) ?_
                    have hBn := sgB_up (n2 := 146) hB (show _ ≤ 146 from by omega)
                    clear hB; have hB := hBn; clear hBn
                    obtain ⟨rfl, hI257, en1_257, en2_257, en3_257, en4_257⟩ := hP
                    have hI257b := inv_dne hI224 wC hI257 en1_257 en2_257 en4_257
                    refine lv_goto (tgt := 285) hx hb dX14_sounds_260 (by decide) ?_
                    first
                      | have hfin := hI257b
                      | have hfin := hI282b
                      | have hfin := inv_dnw hI257b wC (iW_C hBC (iW_L hB199 i3 tt3 tx3 hbb.1 hbb.2 (m_ltC hBC i3 hbb.1 hbb.2 c237)))
                      | have hfin : Inv eda ia K g n S hw _ := hI257b
                    refine lv_iconst (v := 1) hx hb dX14_sounds_285 (by decide) ?_
                    exact sg_iret F hB hrt dX14_sounds_286 (by omega) (by omega) (⟨⟨_, rfl, Or.inl rfl⟩, hfin⟩)
                  · refine lv_bipush (v := 108) hx hb dX14_sounds_250 (by decide) ?_
                    refine lv_goto (tgt := 257) hx hb dX14_sounds_252 (by decide) ?_
                    refine sg_callV (ci := 19) F hB (m_ends l D cy hI224 x _ wC.1.1 wC.1.2 wC.2.1 wC.2.2.1 wC.2.2.2.1 hm1 _) (cwV 2 F.1.2.2.2.2 (mgV (mm_5 _ (List.mem_of_getElem? (i := 33) rfl)) (mm_5 _ (List.mem_of_getElem? (i := 34) rfl)) (mm_5 _ (List.mem_of_getElem? (i := 35) rfl)) (mm_3 _ (List.mem_of_getElem? (i := 23) rfl)) (mm_5 _ (List.mem_of_getElem? (i := 32) rfl))) rfl rfl rfl ⟨rfl, by decide, by decide, by decide +kernel⟩ ⟨Nat.le_of_ble_eq_true rfl, Nat.le_of_ble_eq_true rfl⟩) rfl rfl (by decide) rfl hl.1 rfl (Nat.le_of_ble_eq_true rfl) dX14_sounds_257 (Nat.le_trans (show _ ≤ 18 from by omega) (Nat.le_of_ble_eq_true rfl)) (Nat.add_le_add_right (Nat.le_trans (show _ ≤ 146 from by omega) (Nat.le_of_ble_eq_true rfl)) _) (inv_A hI224) (fun H locs v σ257 N hBn hX257 hP => ?_)
                    clear hB; have hB := hBn; clear hBn
                    refine W.widen (k := 18) (n := N) (show _ ≤ 18 from by omega) (Nat.le_refl _) ?_
                    have hBn := sgB_up (n2 := 146) hB (show _ ≤ 146 from by omega)
                    clear hB; have hB := hBn; clear hBn
                    obtain ⟨rfl, hI257, en1_257, en2_257, en3_257, en4_257⟩ := hP
                    have hI257b := inv_dne hI224 wC hI257 en1_257 en2_257 en4_257
                    refine lv_goto (tgt := 285) hx hb dX14_sounds_260 (by decide) ?_
                    first
                      | have hfin := hI257b
                      | have hfin := hI282b
                      | have hfin := inv_dnw hI257b wC (iW_C hBC (iW_L hB199 i3 tt3 tx3 hbb.1 hbb.2 (m_ltC hBC i3 hbb.1 hbb.2 c237)))
                      | have hfin : Inv eda ia K g n S hw _ := hI257b
                    refine lv_iconst (v := 1) hx hb dX14_sounds_285 (by decide) ?_
                    exact sg_iret F hB hrt dX14_sounds_286 (by omega) (by omega) (⟨⟨_, rfl, Or.inl rfl⟩, hfin⟩)
              · refine lv_iload hx hb dX14_sounds_212 (lv_at hl 3 rfl) ?_
                refine lv_bipush (v := 32) hx hb dX14_sounds_214 (by decide) ?_
                refine lv_icmp_eq (tgt := 223) hx hb dX14_sounds_216 (by decide) (fun c216 => ?_) (fun c216 => ?_)
                · refine lv_iconst (v := 0) hx hb dX14_sounds_223 (by decide) ?_
                  refine pf_X14_371 F hB dX14_sounds_224 (by exact tt3) ⟨by decide, by decide⟩ (fun H locs hBn => ?_)
                  clear hB; have hB := hBn; clear hBn
                  have hI224 := inv_PIc (t := 19) hB hI199 (by exact tt3) (by unfold iCn; omega)
                  have wC := wPp_hB4 hB (wPp_PI wB (Or.inr ⟨fun z => absurd (tt3.symm.trans z) (by decide), fun z => absurd (tt3.symm.trans z) (by decide)⟩) (by exact tp3) (by exact tl3))
                  have hBC := hB
                  refine lv_aload hx hb dX14_sounds_227 (lv_at hl 1 rfl) ?_
                  refine gf_X14_284 F hB dX14_sounds_229 (by exact tt3) ?_
                  refine lv_aload hx hb dX14_sounds_232 (lv_at hl 1 rfl) ?_
                  refine gf_X14_338 F hB dX14_sounds_234 (by exact tt3) ?_
                  refine lv_icmp_lt (tgt := 263) hx hb dX14_sounds_237 (by decide) (fun c237 => ?_) (fun c237 => ?_)
                  · refine lv_aload_n hx hb dX14_sounds_263 rfl (lv_at hl 5 rfl) ?_
                    refine gf_X14_300 F hB dX14_sounds_264 (by exact tx3) ?_
                    refine lv_if_eq (tgt := 285) hx hb dX14_sounds_267 (by decide) (fun c267 => ((hin ((((sgI_nk (by decide)).trans (sgI_nk (by decide))).trans x03).symm.trans c267)) : False).elim) (fun c267 => ?_)
                    refine lv_iload_n hx hb dX14_sounds_270 rfl (lv_at hl 4 rfl) ?_
                    refine lv_aload_n hx hb dX14_sounds_271 rfl (lv_at hl 5 rfl) ?_
                    refine gf_X14_238 F hB dX14_sounds_272 (by exact tx3) ?_
                    refine lv_icmp_ge (tgt := 285) hx hb dX14_sounds_275 (by decide) (fun c275 => ?_) (fun c275 => ?_)
                    · first
                        | have hfin := hI257b
                        | have hfin := hI282b
                        | have hfin := inv_dnw hI224 wC (iW_C hBC (iW_L hB199 i3 tt3 tx3 hbb.1 hbb.2 (m_ltC hBC i3 hbb.1 hbb.2 c237)))
                        | have hfin : Inv eda ia K g n S hw _ := hI224
                      refine lv_iconst (v := 1) hx hb dX14_sounds_285 (by decide) ?_
                      exact sg_iret F hB hrt dX14_sounds_286 (by omega) (by omega) (⟨⟨_, rfl, Or.inl rfl⟩, hfin⟩)
                    · obtain ⟨m1, hm1⟩ := m_evm hB (K := K)
                      refine lv_aload_n hx hb dX14_sounds_278 rfl (lv_at hl 7 rfl) ?_
                      refine lv_iload_n hx hb dX14_sounds_279 rfl (lv_at hl 6 rfl) ?_
                      refine lv_bipush (v := 104) hx hb dX14_sounds_280 (by decide) ?_
                      refine sg_callV (ci := 19) F hB (m_ends l D cy hI224 x 104 wC.1.1 wC.1.2 wC.2.1 wC.2.2.1 wC.2.2.2.1 hm1 _) (cwV 2 F.1.2.2.2.2 (mgV (mm_5 _ (List.mem_of_getElem? (i := 33) rfl)) (mm_5 _ (List.mem_of_getElem? (i := 34) rfl)) (mm_5 _ (List.mem_of_getElem? (i := 35) rfl)) (mm_3 _ (List.mem_of_getElem? (i := 23) rfl)) (mm_5 _ (List.mem_of_getElem? (i := 32) rfl))) rfl rfl rfl ⟨rfl, by decide, by decide, by decide +kernel⟩ ⟨Nat.le_of_ble_eq_true rfl, Nat.le_of_ble_eq_true rfl⟩) rfl rfl (by decide) rfl hl.1 rfl (Nat.le_of_ble_eq_true rfl) dX14_sounds_282 (Nat.le_trans (show _ ≤ 18 from by omega) (Nat.le_of_ble_eq_true rfl)) (Nat.add_le_add_right (Nat.le_trans (show _ ≤ 146 from by omega) (Nat.le_of_ble_eq_true rfl)) _) (inv_A hI224) (fun H locs v σ282 N hBn hX282 hP => ?_)
                      clear hB; have hB := hBn; clear hBn
                      refine W.widen (k := 18) (n := N) (show _ ≤ 18 from by omega) (Nat.le_refl _) ?_
                      have hBn := sgB_up (n2 := 146) hB (show _ ≤ 146 from by omega)
                      clear hB; have hB := hBn; clear hBn
                      obtain ⟨rfl, hI282, en1_282, en2_282, en3_282, en4_282⟩ := hP
                      have hI282b := inv_dne hI224 wC hI282 en1_282 en2_282 en4_282
                      first
                        | have hfin := hI257b
                        | have hfin := hI282b
                        | have hfin := inv_dnw hI282b wC (iW_C hBC (iW_L hB199 i3 tt3 tx3 hbb.1 hbb.2 (m_ltC hBC i3 hbb.1 hbb.2 c237)))
                        | have hfin : Inv eda ia K g n S hw _ := hI282b
                      refine lv_iconst (v := 1) hx hb dX14_sounds_285 (by decide) ?_
                      exact sg_iret F hB hrt dX14_sounds_286 (by omega) (by omega) (⟨⟨_, rfl, Or.inl rfl⟩, hfin⟩)
                  · obtain ⟨m1, hm1⟩ := m_evm hB (K := K)
                    refine lv_aload_n hx hb dX14_sounds_240 rfl (lv_at hl 7 rfl) ?_
                    refine lv_iload_n hx hb dX14_sounds_241 rfl (lv_at hl 6 rfl) ?_
                    refine lv_aload hx hb dX14_sounds_242 (lv_at hl 1 rfl) ?_
                    refine gf_X14_371 F hB dX14_sounds_244 (by exact tt3) ?_
                    refine lv_if_eq (tgt := 255) hx hb dX14_sounds_247 (by decide) (fun c247 => ?_) (fun c247 => ?_)
                    · refine lv_bipush (v := 100) hx hb dX14_sounds_255 (by decide) ?_
                      refine sg_callV (ci := 19) F hB (m_ends l D cy hI224 x _ wC.1.1 wC.1.2 wC.2.1 wC.2.2.1 wC.2.2.2.1 hm1 _) (cwV 2 F.1.2.2.2.2 (mgV (mm_5 _ (List.mem_of_getElem? (i := 33) rfl)) (mm_5 _ (List.mem_of_getElem? (i := 34) rfl)) (mm_5 _ (List.mem_of_getElem? (i := 35) rfl)) (mm_3 _ (List.mem_of_getElem? (i := 23) rfl)) (mm_5 _ (List.mem_of_getElem? (i := 32) rfl))) rfl rfl rfl ⟨rfl, by decide, by decide, by decide +kernel⟩ ⟨Nat.le_of_ble_eq_true rfl, Nat.le_of_ble_eq_true rfl⟩) rfl rfl (by decide) rfl hl.1 rfl (Nat.le_of_ble_eq_true rfl) dX14_sounds_257 (Nat.le_trans (show _ ≤ 18 from by omega) (Nat.le_of_ble_eq_true rfl)) (Nat.add_le_add_right (Nat.le_trans (show _ ≤ 146 from by omega) (Nat.le_of_ble_eq_true rfl)) _) (inv_A hI224) (fun H locs v σ257 N hBn hX257 hP => ?_)
                      clear hB; have hB := hBn; clear hBn
                      refine W.widen (k := 18) (n := N) (show _ ≤ 18 from by omega) (Nat.le_refl _) ?_
                      have hBn := sgB_up (n2 := 146) hB (show _ ≤ 146 from by omega)
                      clear hB; have hB := hBn; clear hBn
                      obtain ⟨rfl, hI257, en1_257, en2_257, en3_257, en4_257⟩ := hP
                      have hI257b := inv_dne hI224 wC hI257 en1_257 en2_257 en4_257
                      refine lv_goto (tgt := 285) hx hb dX14_sounds_260 (by decide) ?_
                      first
                        | have hfin := hI257b
                        | have hfin := hI282b
                        | have hfin := inv_dnw hI257b wC (iW_C hBC (iW_L hB199 i3 tt3 tx3 hbb.1 hbb.2 (m_ltC hBC i3 hbb.1 hbb.2 c237)))
                        | have hfin : Inv eda ia K g n S hw _ := hI257b
                      refine lv_iconst (v := 1) hx hb dX14_sounds_285 (by decide) ?_
                      exact sg_iret F hB hrt dX14_sounds_286 (by omega) (by omega) (⟨⟨_, rfl, Or.inl rfl⟩, hfin⟩)
                    · refine lv_bipush (v := 108) hx hb dX14_sounds_250 (by decide) ?_
                      refine lv_goto (tgt := 257) hx hb dX14_sounds_252 (by decide) ?_
                      refine sg_callV (ci := 19) F hB (m_ends l D cy hI224 x _ wC.1.1 wC.1.2 wC.2.1 wC.2.2.1 wC.2.2.2.1 hm1 _) (cwV 2 F.1.2.2.2.2 (mgV (mm_5 _ (List.mem_of_getElem? (i := 33) rfl)) (mm_5 _ (List.mem_of_getElem? (i := 34) rfl)) (mm_5 _ (List.mem_of_getElem? (i := 35) rfl)) (mm_3 _ (List.mem_of_getElem? (i := 23) rfl)) (mm_5 _ (List.mem_of_getElem? (i := 32) rfl))) rfl rfl rfl ⟨rfl, by decide, by decide, by decide +kernel⟩ ⟨Nat.le_of_ble_eq_true rfl, Nat.le_of_ble_eq_true rfl⟩) rfl rfl (by decide) rfl hl.1 rfl (Nat.le_of_ble_eq_true rfl) dX14_sounds_257 (Nat.le_trans (show _ ≤ 18 from by omega) (Nat.le_of_ble_eq_true rfl)) (Nat.add_le_add_right (Nat.le_trans (show _ ≤ 146 from by omega) (Nat.le_of_ble_eq_true rfl)) _) (inv_A hI224) (fun H locs v σ257 N hBn hX257 hP => ?_)
                      clear hB; have hB := hBn; clear hBn
                      refine W.widen (k := 18) (n := N) (show _ ≤ 18 from by omega) (Nat.le_refl _) ?_
                      have hBn := sgB_up (n2 := 146) hB (show _ ≤ 146 from by omega)
                      clear hB; have hB := hBn; clear hBn
                      obtain ⟨rfl, hI257, en1_257, en2_257, en3_257, en4_257⟩ := hP
                      have hI257b := inv_dne hI224 wC hI257 en1_257 en2_257 en4_257
                      refine lv_goto (tgt := 285) hx hb dX14_sounds_260 (by decide) ?_
                      first
                        | have hfin := hI257b
                        | have hfin := hI282b
                        | have hfin := inv_dnw hI257b wC (iW_C hBC (iW_L hB199 i3 tt3 tx3 hbb.1 hbb.2 (m_ltC hBC i3 hbb.1 hbb.2 c237)))
                        | have hfin : Inv eda ia K g n S hw _ := hI257b
                      refine lv_iconst (v := 1) hx hb dX14_sounds_285 (by decide) ?_
                      exact sg_iret F hB hrt dX14_sounds_286 (by omega) (by omega) (⟨⟨_, rfl, Or.inl rfl⟩, hfin⟩)
                · refine lv_iconst (v := 1) hx hb dX14_sounds_219 (by decide) ?_
                  refine lv_goto (tgt := 224) hx hb dX14_sounds_220 (by decide) ?_
                  refine pf_X14_371 F hB dX14_sounds_224 (by exact tt3) ⟨by decide, by decide⟩ (fun H locs hBn => ?_)
                  clear hB; have hB := hBn; clear hBn
                  have hI224 := inv_PIc (t := 19) hB hI199 (by exact tt3) (by unfold iCn; omega)
                  have wC := wPp_hB4 hB (wPp_PI wB (Or.inr ⟨fun z => absurd (tt3.symm.trans z) (by decide), fun z => absurd (tt3.symm.trans z) (by decide)⟩) (by exact tp3) (by exact tl3))
                  have hBC := hB
                  refine lv_aload hx hb dX14_sounds_227 (lv_at hl 1 rfl) ?_
                  refine gf_X14_284 F hB dX14_sounds_229 (by exact tt3) ?_
                  refine lv_aload hx hb dX14_sounds_232 (lv_at hl 1 rfl) ?_
                  refine gf_X14_338 F hB dX14_sounds_234 (by exact tt3) ?_
                  refine lv_icmp_lt (tgt := 263) hx hb dX14_sounds_237 (by decide) (fun c237 => ?_) (fun c237 => ?_)
                  · refine lv_aload_n hx hb dX14_sounds_263 rfl (lv_at hl 5 rfl) ?_
                    refine gf_X14_300 F hB dX14_sounds_264 (by exact tx3) ?_
                    refine lv_if_eq (tgt := 285) hx hb dX14_sounds_267 (by decide) (fun c267 => ((hin ((((sgI_nk (by decide)).trans (sgI_nk (by decide))).trans x03).symm.trans c267)) : False).elim) (fun c267 => ?_)
                    refine lv_iload_n hx hb dX14_sounds_270 rfl (lv_at hl 4 rfl) ?_
                    refine lv_aload_n hx hb dX14_sounds_271 rfl (lv_at hl 5 rfl) ?_
                    refine gf_X14_238 F hB dX14_sounds_272 (by exact tx3) ?_
                    refine lv_icmp_ge (tgt := 285) hx hb dX14_sounds_275 (by decide) (fun c275 => ?_) (fun c275 => ?_)
                    · first
                        | have hfin := hI257b
                        | have hfin := hI282b
                        | have hfin := inv_dnw hI224 wC (iW_C hBC (iW_L hB199 i3 tt3 tx3 hbb.1 hbb.2 (m_ltC hBC i3 hbb.1 hbb.2 c237)))
                        | have hfin : Inv eda ia K g n S hw _ := hI224
                      refine lv_iconst (v := 1) hx hb dX14_sounds_285 (by decide) ?_
                      exact sg_iret F hB hrt dX14_sounds_286 (by omega) (by omega) (⟨⟨_, rfl, Or.inl rfl⟩, hfin⟩)
                    · obtain ⟨m1, hm1⟩ := m_evm hB (K := K)
                      refine lv_aload_n hx hb dX14_sounds_278 rfl (lv_at hl 7 rfl) ?_
                      refine lv_iload_n hx hb dX14_sounds_279 rfl (lv_at hl 6 rfl) ?_
                      refine lv_bipush (v := 104) hx hb dX14_sounds_280 (by decide) ?_
                      refine sg_callV (ci := 19) F hB (m_ends l D cy hI224 x 104 wC.1.1 wC.1.2 wC.2.1 wC.2.2.1 wC.2.2.2.1 hm1 _) (cwV 2 F.1.2.2.2.2 (mgV (mm_5 _ (List.mem_of_getElem? (i := 33) rfl)) (mm_5 _ (List.mem_of_getElem? (i := 34) rfl)) (mm_5 _ (List.mem_of_getElem? (i := 35) rfl)) (mm_3 _ (List.mem_of_getElem? (i := 23) rfl)) (mm_5 _ (List.mem_of_getElem? (i := 32) rfl))) rfl rfl rfl ⟨rfl, by decide, by decide, by decide +kernel⟩ ⟨Nat.le_of_ble_eq_true rfl, Nat.le_of_ble_eq_true rfl⟩) rfl rfl (by decide) rfl hl.1 rfl (Nat.le_of_ble_eq_true rfl) dX14_sounds_282 (Nat.le_trans (show _ ≤ 18 from by omega) (Nat.le_of_ble_eq_true rfl)) (Nat.add_le_add_right (Nat.le_trans (show _ ≤ 146 from by omega) (Nat.le_of_ble_eq_true rfl)) _) (inv_A hI224) (fun H locs v σ282 N hBn hX282 hP => ?_)
                      clear hB; have hB := hBn; clear hBn
                      refine W.widen (k := 18) (n := N) (show _ ≤ 18 from by omega) (Nat.le_refl _) ?_
                      have hBn := sgB_up (n2 := 146) hB (show _ ≤ 146 from by omega)
                      clear hB; have hB := hBn; clear hBn
                      obtain ⟨rfl, hI282, en1_282, en2_282, en3_282, en4_282⟩ := hP
                      have hI282b := inv_dne hI224 wC hI282 en1_282 en2_282 en4_282
                      first
                        | have hfin := hI257b
                        | have hfin := hI282b
                        | have hfin := inv_dnw hI282b wC (iW_C hBC (iW_L hB199 i3 tt3 tx3 hbb.1 hbb.2 (m_ltC hBC i3 hbb.1 hbb.2 c237)))
                        | have hfin : Inv eda ia K g n S hw _ := hI282b
                      refine lv_iconst (v := 1) hx hb dX14_sounds_285 (by decide) ?_
                      exact sg_iret F hB hrt dX14_sounds_286 (by omega) (by omega) (⟨⟨_, rfl, Or.inl rfl⟩, hfin⟩)
                  · obtain ⟨m1, hm1⟩ := m_evm hB (K := K)
                    refine lv_aload_n hx hb dX14_sounds_240 rfl (lv_at hl 7 rfl) ?_
                    refine lv_iload_n hx hb dX14_sounds_241 rfl (lv_at hl 6 rfl) ?_
                    refine lv_aload hx hb dX14_sounds_242 (lv_at hl 1 rfl) ?_
                    refine gf_X14_371 F hB dX14_sounds_244 (by exact tt3) ?_
                    refine lv_if_eq (tgt := 255) hx hb dX14_sounds_247 (by decide) (fun c247 => ?_) (fun c247 => ?_)
                    · refine lv_bipush (v := 100) hx hb dX14_sounds_255 (by decide) ?_
                      refine sg_callV (ci := 19) F hB (m_ends l D cy hI224 x _ wC.1.1 wC.1.2 wC.2.1 wC.2.2.1 wC.2.2.2.1 hm1 _) (cwV 2 F.1.2.2.2.2 (mgV (mm_5 _ (List.mem_of_getElem? (i := 33) rfl)) (mm_5 _ (List.mem_of_getElem? (i := 34) rfl)) (mm_5 _ (List.mem_of_getElem? (i := 35) rfl)) (mm_3 _ (List.mem_of_getElem? (i := 23) rfl)) (mm_5 _ (List.mem_of_getElem? (i := 32) rfl))) rfl rfl rfl ⟨rfl, by decide, by decide, by decide +kernel⟩ ⟨Nat.le_of_ble_eq_true rfl, Nat.le_of_ble_eq_true rfl⟩) rfl rfl (by decide) rfl hl.1 rfl (Nat.le_of_ble_eq_true rfl) dX14_sounds_257 (Nat.le_trans (show _ ≤ 18 from by omega) (Nat.le_of_ble_eq_true rfl)) (Nat.add_le_add_right (Nat.le_trans (show _ ≤ 146 from by omega) (Nat.le_of_ble_eq_true rfl)) _) (inv_A hI224) (fun H locs v σ257 N hBn hX257 hP => ?_)
                      clear hB; have hB := hBn; clear hBn
                      refine W.widen (k := 18) (n := N) (show _ ≤ 18 from by omega) (Nat.le_refl _) ?_
                      have hBn := sgB_up (n2 := 146) hB (show _ ≤ 146 from by omega)
                      clear hB; have hB := hBn; clear hBn
                      obtain ⟨rfl, hI257, en1_257, en2_257, en3_257, en4_257⟩ := hP
                      have hI257b := inv_dne hI224 wC hI257 en1_257 en2_257 en4_257
                      refine lv_goto (tgt := 285) hx hb dX14_sounds_260 (by decide) ?_
                      first
                        | have hfin := hI257b
                        | have hfin := hI282b
                        | have hfin := inv_dnw hI257b wC (iW_C hBC (iW_L hB199 i3 tt3 tx3 hbb.1 hbb.2 (m_ltC hBC i3 hbb.1 hbb.2 c237)))
                        | have hfin : Inv eda ia K g n S hw _ := hI257b
                      refine lv_iconst (v := 1) hx hb dX14_sounds_285 (by decide) ?_
                      exact sg_iret F hB hrt dX14_sounds_286 (by omega) (by omega) (⟨⟨_, rfl, Or.inl rfl⟩, hfin⟩)
                    · refine lv_bipush (v := 108) hx hb dX14_sounds_250 (by decide) ?_
                      refine lv_goto (tgt := 257) hx hb dX14_sounds_252 (by decide) ?_
                      refine sg_callV (ci := 19) F hB (m_ends l D cy hI224 x _ wC.1.1 wC.1.2 wC.2.1 wC.2.2.1 wC.2.2.2.1 hm1 _) (cwV 2 F.1.2.2.2.2 (mgV (mm_5 _ (List.mem_of_getElem? (i := 33) rfl)) (mm_5 _ (List.mem_of_getElem? (i := 34) rfl)) (mm_5 _ (List.mem_of_getElem? (i := 35) rfl)) (mm_3 _ (List.mem_of_getElem? (i := 23) rfl)) (mm_5 _ (List.mem_of_getElem? (i := 32) rfl))) rfl rfl rfl ⟨rfl, by decide, by decide, by decide +kernel⟩ ⟨Nat.le_of_ble_eq_true rfl, Nat.le_of_ble_eq_true rfl⟩) rfl rfl (by decide) rfl hl.1 rfl (Nat.le_of_ble_eq_true rfl) dX14_sounds_257 (Nat.le_trans (show _ ≤ 18 from by omega) (Nat.le_of_ble_eq_true rfl)) (Nat.add_le_add_right (Nat.le_trans (show _ ≤ 146 from by omega) (Nat.le_of_ble_eq_true rfl)) _) (inv_A hI224) (fun H locs v σ257 N hBn hX257 hP => ?_)
                      clear hB; have hB := hBn; clear hBn
                      refine W.widen (k := 18) (n := N) (show _ ≤ 18 from by omega) (Nat.le_refl _) ?_
                      have hBn := sgB_up (n2 := 146) hB (show _ ≤ 146 from by omega)
                      clear hB; have hB := hBn; clear hBn
                      obtain ⟨rfl, hI257, en1_257, en2_257, en3_257, en4_257⟩ := hP
                      have hI257b := inv_dne hI224 wC hI257 en1_257 en2_257 en4_257
                      refine lv_goto (tgt := 285) hx hb dX14_sounds_260 (by decide) ?_
                      first
                        | have hfin := hI257b
                        | have hfin := hI282b
                        | have hfin := inv_dnw hI257b wC (iW_C hBC (iW_L hB199 i3 tt3 tx3 hbb.1 hbb.2 (m_ltC hBC i3 hbb.1 hbb.2 c237)))
                        | have hfin : Inv eda ia K g n S hw _ := hI257b
                      refine lv_iconst (v := 1) hx hb dX14_sounds_285 (by decide) ?_
                      exact sg_iret F hB hrt dX14_sounds_286 (by omega) (by omega) (⟨⟨_, rfl, Or.inl rfl⟩, hfin⟩)
            · have hi4 := i_nle c92
              refine lv_aload_n hx hb dX14_sounds_95 rfl (lv_at hl 5 rfl) ?_
              refine gf_X14_300 F hB dX14_sounds_96 tx3 ?_
              refine lv_if_eq (tgt := 119) hx hb dX14_sounds_99 (by decide) (fun c99 => ((hin ((x03).symm.trans c99)) : False).elim) (fun c99 => ?_)
              have h03 : 0 < sgSz σ3 le := by omega
              obtain ⟨r1, za, zb⟩ := (inv_LS hI3).1 _ tle3 id
              have gs := sgLz_s za h03
              obtain ⟨t9, v1, v2⟩ := inv_L hI3 le tle3 0 h03
              refine lv_aload_n hx hb dX14_sounds_102 rfl (lv_at hl 5 rfl) ?_
              refine gr_X14_320 F hB dX14_sounds_103 tx3 hle3 ?_
              refine lv_iconst (v := 0) hx hb dX14_sounds_106 (by decide) ?_
              refine sg_callV (ci := 4) F hB (m_remove0 l D cy gs h03 (fun j y _ hy => (inv_LS hI3).2.2.1 r1 j y gs.2.2.1 hy) (by rw [← sgAt_of gs.2.1]; exact v1) _) (cwV 1 F.1.2.2.2.2 (mgV (mm_5 _ (List.mem_of_getElem? (i := 29) rfl)) (mm_5 _ (List.mem_of_getElem? (i := 30) rfl)) (mm_5 _ (List.mem_of_getElem? (i := 31) rfl)) (mm_0 _ (List.mem_of_getElem? (i := 35) rfl)) (mm_5 _ (List.mem_of_getElem? (i := 21) rfl))) rfl rfl rfl ⟨rfl, by decide, by decide, by decide +kernel⟩ ⟨Nat.le_of_ble_eq_true rfl, Nat.le_of_ble_eq_true rfl⟩) rfl rfl (by decide) rfl hl.1 rfl (Nat.le_of_ble_eq_true rfl) dX14_sounds_107 (by show _ ≤ 18; omega) (Nat.add_le_add_right (by omega) _) tle3 (fun H locs v σ107 N hBn hX107 hP => ?_)
              clear hB; have hB := hBn; clear hBn
              obtain ⟨rfl, ho, ho1, ho2, ho3, ho4⟩ := hP
              obtain ⟨hI107, rm1, rm2, rm3, rm4, rm5⟩ := inv_rm hI3 gs h03 ho ho1 ho3 ho2 ho4 (fun z => absurd (rle.symm.trans z) (by decide)) (fun _ _ => Or.inr (by rw [ole, hz4]; exact hkp))
              have hbx0 : sgBx ia σ107 t9 := sgBx_mono (fun a _ => ho.1 a) (by unfold iEl at v2; rw [rle] at v2; exact v2)
              have zr107 : zR l1 σ3 σ107 := zR_l (l2 := le) (fun a _ => ho.1 a) (fun a k _ h5 => ho.2.2.1 a k (fun z => h5 (by rw [z]; exact tle3))) rm5 rm4 tl3 nle
              have i107 : ∀ k, sgI σ107 xe k = sgI σ3 xe k := fun k => ho.2.2.1 xe k (fun z => by rw [z, tle3] at tx3; exact absurd tx3 (by decide))
              have tx107 := tFr_T zr107.1 tx3 (by decide)
              have tl107 := tFr_T zr107.1 tl3 (by decide)
              have tle107 : sgT σ107 le = 5 := (ho.1 le).1.trans tle3
              have sG107 : sgSz σ107 (kG K) = sgSz σ3 (kG K) := (rm4 _ (inv_tG hI3).1 (fun z => z.elim id (fun w => nleG w.symm))).1
              refine va_castY hx hb hown (F.1.2.2.2.2 _ (List.mem_cons_of_mem _ (mm_8 _ (List.mem_of_getElem? (i := 3) rfl)))) (F.2.2.1.2.2 ("java/lang/Integer", "java/lang/Integer") (by decide +kernel)) (sg_rbx F hB hbx0) dX14_sounds_110 ?_
              refine sg_callVr F hB (m_unbox l D cy hbx0 _) (cwV 0 F.1.2.2.2.2 (mgV (mm_8 _ (List.mem_of_getElem? (i := 5) rfl)) (mm_8 _ (List.mem_of_getElem? (i := 6) rfl)) (mm_8 _ (List.mem_of_getElem? (i := 7) rfl)) (mm_7 _ (List.mem_of_getElem? (i := 30) rfl)) (mm_8 _ (List.mem_of_getElem? (i := 1) rfl))) rfl rfl rfl ⟨rfl, by decide, by decide, by decide +kernel⟩ ⟨Nat.le_of_ble_eq_true rfl, Nat.le_of_ble_eq_true rfl⟩) rfl hl.1 rfl (Nat.le_of_ble_eq_true rfl) dX14_sounds_113 (by show _ ≤ 18; omega) (Nat.add_le_add_right (by omega) _) (sg_rbx F hB hbx0) (fun H locs v σ113 N hBn hX113 hP => ?_)
              clear hB; have hB := hBn; clear hBn
              obtain ⟨⟨w113, rfl⟩, rfl⟩ := hP
              refine lv_goto (tgt := 133) hx hb dX14_sounds_116 (by decide) ?_
              refine lv_istore (lv' := [(8, .int _), (7, .int _), (6, .ref _), (5, .ref _), (4, .int _), (3, .int _), (2, .ref _), (1, .int _), (0, .ref _)]) hx hb dX14_sounds_133 hl (by decide) rfl (fun ls hl => ?_)
              refine lv_iload hx hb dX14_sounds_135 (lv_at hl 4 rfl) ?_
              refine lv_bipush (v := 32) hx hb dX14_sounds_137 (by decide) ?_
              refine lv_icmp_ne (tgt := 165) hx hb dX14_sounds_139 (by decide) (fun c139 => ?_) (fun c139 => ?_)
              · refine lv_iload hx hb dX14_sounds_165 (lv_at hl 4 rfl) ?_
                refine lv_bipush (v := 32) hx hb dX14_sounds_167 (by decide) ?_
                refine lv_icmp_ne (tgt := 185) hx hb dX14_sounds_169 (by decide) (fun c169 => ?_) (fun c169 => ((c139 c169) : False).elim)
                refine lv_iinc (lv' := [(7, .int _), (8, .int _), (6, .ref _), (5, .ref _), (4, .int _), (3, .int _), (2, .ref _), (1, .int _), (0, .ref _)]) hx hb dX14_sounds_185 hl (k := 1) rfl rfl (by decide) rfl (fun ls hl => ?_)
                refine lv_goto (tgt := 89) hx hb dX14_sounds_188 (by decide) ?_
                have hi3 := i_nle c92
                have e9 : (k9 + Int32.ofInt 1).toInt = k9.toInt + 1 := m_add1 (by omega) (by omega)
                first
                  | exact ih89 _ (by subst hd89; rw [e9]; omega) _ _ _ _ _ _ _ _ hB (lv_sub hl [0, 2, 3, 4, 5, 6, 7, 8] rfl) hI158 ⟨by rw [e9]; omega, by rw [e9]; omega⟩ (by rw [e9, l158, rm2]; omega) (by rw [e9, ada158, sG5]; omega) ⟨by rw [e9]; show kc + 0 + 0 + 1 + 1 ≤ _; omega, by rw [e9]; omega⟩ (x158.trans hz4) z158 rfl
                  | exact ih89 _ (by subst hd89; rw [e9]; omega) _ _ _ _ _ _ _ _ hB (lv_sub hl [0, 2, 3, 4, 5, 6, 7, 8] rfl) hI107 ⟨by rw [e9]; omega, by rw [e9]; omega⟩ (by rw [e9, rm2]; omega) (by rw [e9, sG107]; omega) ⟨by rw [e9]; show kc + 0 + 0 ≤ _; omega, by rw [e9]; omega⟩ ((i107 4).trans hz4) (zR_tr hzr zr107) rfl
              · refine lv_aload_n hx hb dX14_sounds_142 rfl (lv_at hl 6 rfl) ?_
                refine gf_X14_300 F hB dX14_sounds_143 tx107 ?_
                refine lv_if_eq (tgt := 165) hx hb dX14_sounds_146 (by decide) (fun c146 => ((hin (((i107 0).trans x03).symm.trans c146)) : False).elim) (fun c146 => ?_)
                refine lv_aload_n hx hb dX14_sounds_149 rfl (lv_at hl 8 rfl) ?_
                refine gr_X14_35 F hB dX14_sounds_150 (inv_A hI107) (inv_r8 hI107) ?_
                refine lv_iload hx hb dX14_sounds_153 (lv_at hl 0 rfl) ?_
                refine sg_callS F hB (m_box l D cy _ _) (va_cwS 1 F.1.2.2.2.2 (mgS2 (mm_7 _ (List.mem_of_getElem? (i := 33) rfl)) (mm_7 _ (List.mem_of_getElem? (i := 34) rfl)) (mm_7 _ (List.mem_of_getElem? (i := 30) rfl)) (mm_7 _ (List.mem_of_getElem? (i := 25) rfl))) rfl rfl rfl ⟨by decide, by decide, by decide +kernel⟩ ⟨Nat.le_of_ble_eq_true rfl, Nat.le_of_ble_eq_true rfl⟩) rfl hl.1 rfl (Nat.le_of_ble_eq_true rfl) dX14_sounds_155 (by show _ ≤ 18; omega) (Nat.add_le_add_right (by omega) _)  (fun H locs v σ155 N hBn hX155 hP => ?_)
                clear hB; have hB := hBn; clear hBn
                obtain ⟨y155, rfl, hbx, hqt⟩ := hP
                have ed5 := sg_eda F hB
                have hI155 := inv_Qt hI107 hqt ed5
                have tG5 := (inv_tG hI155).1
                have sG5 : sgSz σ155 (kG K) = sgSz σ3 (kG K) := (sgSz_Qt hqt (inv_tG hI107).1).trans sG107
                have z5 := zR_Qt hI107 hqt ed5 tl107
                have lq5 := inv_LqQt hI107 hqt ed5
                obtain ⟨ra158, za158, zb158⟩ := (inv_LS hI155).1 _ tG5 id
                refine sg_callV (ci := 4) F hB (m_add l D cy za158 (fun j y h1 h2 => (inv_LS hI155).2.2.1 ra158 j y h1 h2) y155 (iEl_K (l0 := _) (g := g) (j := 0) (by unfold iEl; rw [(inv_tG h).2]; exact hbx)) zb158 _) (cwV 1 F.1.2.2.2.2 (mgV (mm_3 _ (List.mem_of_getElem? (i := 9) rfl)) (mm_3 _ (List.mem_of_getElem? (i := 10) rfl)) (mm_3 _ (List.mem_of_getElem? (i := 11) rfl)) (mm_0 _ (List.mem_of_getElem? (i := 35) rfl)) (mm_2 _ (List.mem_of_getElem? (i := 29) rfl))) rfl rfl rfl ⟨rfl, by decide, by decide, by decide +kernel⟩ ⟨Nat.le_of_ble_eq_true rfl, Nat.le_of_ble_eq_true rfl⟩) rfl rfl (by decide) rfl hl.1 rfl (Nat.le_of_ble_eq_true rfl) dX14_sounds_158 (by show _ ≤ 18; omega) (Nat.add_le_add_right (by omega) _) tG5 (fun H locs v σ158 N hBn hX158 hP => ?_)
                clear hB; have hB := hBn; clear hBn
                obtain ⟨rfl, hAd158⟩ := hP
                obtain ⟨hI158, ada158, adb158, adc158, add158, ade158, adf158, adg158, adh158⟩ := inv_ad hI155 tG5 za158 hAd158 (sg_eda F hB) (by unfold iEl; rw [(inv_tG h).2]; exact hbx) (by rw [(inv_tG h).2]; refine inv_cap ?_ (Or.inl rfl); rw [sG5]; omega) (Or.inl ⟨inv_nD hI155 (by rw [(inv_tG h).2]; decide), rfl⟩) (nr7 (inv_tG h).2 (by decide))
                have z158 : zR l1 σ σ158 := zR_tr hzr (zR_tr zr107 (zR_tr z5 (zR_l (l2 := kG K) add158 adf158 adg158 adh158 (tFr_T z5.1 tl107 (by decide)) nlG)))
                have l158 : sgSz σ158 le = sgSz σ107 le := ((adh158 le (tFr_T z5.1 tle107 (by decide)) (fun z => z.elim id nleG)).1).trans (lq5 le tle107 id).1
                have x158 : sgI σ158 xe 4 = sgI σ3 xe 4 := ((adf158 xe 4 (by rw [tFr_T z5.1 tx107 (by decide)]; decide) (by rw [tFr_T z5.1 tx107 (by decide)]; decide)).trans (((hqt.1 xe (by rw [tx107]; decide)).2.2 4).1)).trans (i107 4)
                refine lv_pop hx hb dX14_sounds_161 rfl ?_
                refine lv_goto (tgt := 185) hx hb dX14_sounds_162 (by decide) ?_
                refine lv_iinc (lv' := [(7, .int _), (8, .int _), (6, .ref _), (5, .ref _), (4, .int _), (3, .int _), (2, .ref _), (1, .int _), (0, .ref _)]) hx hb dX14_sounds_185 hl (k := 1) rfl rfl (by decide) rfl (fun ls hl => ?_)
                refine lv_goto (tgt := 89) hx hb dX14_sounds_188 (by decide) ?_
                have hi3 := i_nle c92
                have e9 : (k9 + Int32.ofInt 1).toInt = k9.toInt + 1 := m_add1 (by omega) (by omega)
                first
                  | exact ih89 _ (by subst hd89; rw [e9]; omega) _ _ _ _ _ _ _ _ hB (lv_sub hl [0, 2, 3, 4, 5, 6, 7, 8] rfl) hI158 ⟨by rw [e9]; omega, by rw [e9]; omega⟩ (by rw [e9, l158, rm2]; omega) (by rw [e9, ada158, sG5]; omega) ⟨by rw [e9]; show kc + 0 + 0 + 1 + 1 ≤ _; omega, by rw [e9]; omega⟩ (x158.trans hz4) z158 rfl
                  | exact ih89 _ (by subst hd89; rw [e9]; omega) _ _ _ _ _ _ _ _ hB (lv_sub hl [0, 2, 3, 4, 5, 6, 7, 8] rfl) hI107 ⟨by rw [e9]; omega, by rw [e9]; omega⟩ (by rw [e9, rm2]; omega) (by rw [e9, sG107]; omega) ⟨by rw [e9]; show kc + 0 + 0 ≤ _; omega, by rw [e9]; omega⟩ ((i107 4).trans hz4) (zR_tr hzr zr107) rfl
  · refine lv_aload_n hx hb dX14_sounds_29 rfl (lv_at hl 4 rfl) ?_
    refine gf_X14_300 F hB dX14_sounds_30 txe ?_
    refine lv_if_eq (tgt := 47) hx hb dX14_sounds_33 (by decide) (fun c33 => ?_) (fun c33 => ?_)
    · refine lv_iload_n hx hb dX14_sounds_47 rfl (lv_at hl 5 rfl) ?_
      refine lv_if_le (tgt := 285) hx hb dX14_sounds_48 (by decide) (fun c48 => ?_) (fun c48 => ?_)
      · first
          | have hfin := hI257b
          | have hfin := hI282b
          | have hfin := inv_dnw h wC (iW_C hBC (iW_L hB199 i3 tt3 tx3 hbb.1 hbb.2 (m_ltC hBC i3 hbb.1 hbb.2 c237)))
          | have hfin : Inv eda ia K g n S hw _ := h
        refine lv_iconst (v := 1) hx hb dX14_sounds_285 (by decide) ?_
        exact sg_iret F hB hrt dX14_sounds_286 (by omega) (by omega) (⟨⟨_, rfl, Or.inl rfl⟩, hfin⟩)
      · refine lv_aload_n hx hb dX14_sounds_51 rfl (lv_at hl 2 rfl) ?_
        refine lv_dup hx hb dX14_sounds_52 rfl ?_
        refine gf_X14_366 F hB dX14_sounds_53 (inv_A h) ?_
        refine lv_iload hx hb dX14_sounds_56 (lv_at hl 6 rfl) ?_
        refine lv_bipush (v := 32) hx hb dX14_sounds_58 (by decide) ?_
        refine lv_icmp_eq (tgt := 77) hx hb dX14_sounds_60 (by decide) (fun c60 => ?_) (fun c60 => ?_)
        · refine lv_iconst (v := 1) hx hb dX14_sounds_77 (by decide) ?_
          refine lv_goto (tgt := 82) hx hb dX14_sounds_78 (by decide) ?_
          refine lv_iadd hx hb dX14_sounds_82 ?_
          refine pf_X14_366 F hB dX14_sounds_83 (inv_A h) (fun H locs hBn => ?_)
          clear hB; have hB := hBn; clear hBn
          have hI83 := inv_PIc (t := 20) hB h (inv_A h) (by unfold iCn; omega)
          have z83 := zPIB (l1 := l1) (t := 20) hB (inv_A h) (by decide) tl
          have hb0 := i_nle c48
          rw [m_i0] at hb0
          obtain ⟨kc, hkc⟩ : ∃ kc : Nat, kc = 0 := ⟨_, rfl⟩
          refine W.widen (k := kc) (n := N) (by omega) (Nat.le_refl _) ?_
          refine lv_iconst (v := 0) hx hb dX14_sounds_86 (by decide) ?_
          refine lv_istore (lv' := [(7, .int _), (6, .ref _), (5, .ref _), (0, .ref _), (1, .int _), (2, .ref _), (3, .int _), (4, .int _)]) hx hb dX14_sounds_87 hl (by decide) rfl (fun ls hl => ?_)
          have key89 : ∃ (σ3 : SG) (k9 : Int32) (nc : Nat), sgB D cy s σ σ3 H locs N nc ∧ lv_has ls 9 [(7, .int k9), (6, .ref t0), (5, .ref pp), (4, .int f0), (3, .int b), (2, .ref xe), (1, .int x), (0, .ref (kA K))] ∧ Inv eda ia K g n S hw σ3 ∧ (0 ≤ k9.toInt ∧ k9.toInt ≤ b.toInt) ∧ sgSz σ3 le = sgSz σ le - k9.toInt.toNat ∧ sgSz σ3 (kG K) ≤ sgSz σ (kG K) + k9.toInt.toNat ∧ (kc ≤ 2 * k9.toInt.toNat ∧ nc ≤ 16 * k9.toInt.toNat) ∧ sgI σ3 xe 4 = sgI σ xe 4 ∧ zR l1 σ σ3 := ⟨_, _, _, hB, (lv_sub hl [0, 1, 2, 7, 6, 5, 4, 3] rfl), hI83, ⟨by decide, by rw [m_i0]; omega⟩, by rw [m_i0]; exact (sgSz_nk (by decide)).trans rfl, by rw [m_i0]; exact Nat.le_of_eq (sgSz_nk (by decide)), ⟨by omega, by omega⟩, sgI_nk (by decide), z83⟩
          clear hB hl hkc
          obtain ⟨σ3, k9, nc, hB, hl, hI3, hi, hzl, hzG, hkn, hz4, hzr⟩ := key89
          obtain ⟨d89, hd89⟩ : ∃ d : Nat, d = (b.toInt - k9.toInt).toNat := ⟨_, rfl⟩
          induction d89 using Nat.strongRecOn generalizing H locs ls N σ3 k9 nc kc
          rename_i d89 ih89
          have tx3 : sgT σ3 xe = 17 := tFr_T hzr.1 txe (by decide)
          have tp3 : sgT σ3 pp = 18 := tFr_T hzr.1 tp (by decide)
          have tle3 : sgT σ3 le = 5 := tFr_T hzr.1 tle (by decide)
          have hle3 : sgR σ3 xe 3 = some le := (hzr.2.2.2.2.1 xe 3 (by rw [txe]; decide)).trans hle
          have tl3 : sgT σ3 l1 = 5 := tFr_T hzr.1 tl (by decide)
          have tt3 : sgT σ3 t0 = 19 := tFr_T hzr.1 tt (by decide)
          have d3 : sgI σ3 t0 2 = sgI σ t0 2 := hzr.2.1 t0 2 tt
          have x03 : sgI σ3 xe 0 = sgI σ xe 0 := hzr.2.2.2.1 xe 0 txe (by decide)
          refine lv_iload hx hb dX14_sounds_89 (lv_at hl 0 rfl) ?_
          refine lv_iload_n hx hb dX14_sounds_91 rfl (lv_at hl 4 rfl) ?_
          refine lv_icmp_ge (tgt := 191) hx hb dX14_sounds_92 (by decide) (fun c92 => ?_) (fun c92 => ?_)
          · have hi4 := i_le c92
            refine W.widen (k := 16) (n := N) (show kc ≤ 16 from by omega) (Nat.le_refl _) ?_
            have hBn := sgB_up (n2 := 128) hB (show nc ≤ 128 from by omega)
            clear hB; have hB := hBn; clear hBn
            refine lv_aload hx hb dX14_sounds_191 (lv_at hl 1 rfl) ?_
            refine lv_dup hx hb dX14_sounds_193 rfl ?_
            refine gf_X14_284 F hB dX14_sounds_194 tt3 ?_
            refine lv_iload_n hx hb dX14_sounds_197 rfl (lv_at hl 4 rfl) ?_
            refine lv_iadd hx hb dX14_sounds_198 ?_
            refine pf_X14_284 F hB dX14_sounds_199 tt3 (fun H locs hBn => ?_)
            clear hB; have hB := hBn; clear hBn
            have hI199 := inv_dnB hB hI3 tt3
            have w3 := wPp_z h wc hzr
            have wB := wPp_hB hB (wPp_PI w3 (Or.inr ⟨fun z => absurd (tt3.symm.trans z) (by decide), fun z => absurd (tt3.symm.trans z) (by decide)⟩) tp3 tl3)
            have hB199 := hB
            have i3 := iW_tr hzr.1 (inv_T h) tt (hzr.2.1 t0 1 tt) (hzr.2.1 t0 2 tt) x03 (hzr.2.2.2.2.1 t0 0 (by rw [tt]; decide)) ⟨iw1, iw2, iw3, iw4⟩
            refine lv_aload hx hb dX14_sounds_202 (lv_at hl 1 rfl) ?_
            refine lv_aload hx hb dX14_sounds_204 (lv_at hl 1 rfl) ?_
            refine gf_X14_371 F hB dX14_sounds_206 (by exact tt3) ?_
            refine lv_if_ne (tgt := 219) hx hb dX14_sounds_209 (by decide) (fun c209 => ?_) (fun c209 => ?_)
            · refine lv_iconst (v := 1) hx hb dX14_sounds_219 (by decide) ?_
              refine lv_goto (tgt := 224) hx hb dX14_sounds_220 (by decide) ?_
              refine pf_X14_371 F hB dX14_sounds_224 (by exact tt3) ⟨by decide, by decide⟩ (fun H locs hBn => ?_)
              clear hB; have hB := hBn; clear hBn
              have hI224 := inv_PIc (t := 19) hB hI199 (by exact tt3) (by unfold iCn; omega)
              have wC := wPp_hB4 hB (wPp_PI wB (Or.inr ⟨fun z => absurd (tt3.symm.trans z) (by decide), fun z => absurd (tt3.symm.trans z) (by decide)⟩) (by exact tp3) (by exact tl3))
              have hBC := hB
              refine lv_aload hx hb dX14_sounds_227 (lv_at hl 1 rfl) ?_
              refine gf_X14_284 F hB dX14_sounds_229 (by exact tt3) ?_
              refine lv_aload hx hb dX14_sounds_232 (lv_at hl 1 rfl) ?_
              refine gf_X14_338 F hB dX14_sounds_234 (by exact tt3) ?_
              refine lv_icmp_lt (tgt := 263) hx hb dX14_sounds_237 (by decide) (fun c237 => ?_) (fun c237 => ?_)
              · refine lv_aload_n hx hb dX14_sounds_263 rfl (lv_at hl 5 rfl) ?_
                refine gf_X14_300 F hB dX14_sounds_264 (by exact tx3) ?_
                refine lv_if_eq (tgt := 285) hx hb dX14_sounds_267 (by decide) (fun c267 => ((hin ((((sgI_nk (by decide)).trans (sgI_nk (by decide))).trans x03).symm.trans c267)) : False).elim) (fun c267 => ?_)
                refine lv_iload_n hx hb dX14_sounds_270 rfl (lv_at hl 4 rfl) ?_
                refine lv_aload_n hx hb dX14_sounds_271 rfl (lv_at hl 5 rfl) ?_
                refine gf_X14_238 F hB dX14_sounds_272 (by exact tx3) ?_
                refine lv_icmp_ge (tgt := 285) hx hb dX14_sounds_275 (by decide) (fun c275 => ?_) (fun c275 => ?_)
                · first
                    | have hfin := hI257b
                    | have hfin := hI282b
                    | have hfin := inv_dnw hI224 wC (iW_C hBC (iW_L hB199 i3 tt3 tx3 hbb.1 hbb.2 (m_ltC hBC i3 hbb.1 hbb.2 c237)))
                    | have hfin : Inv eda ia K g n S hw _ := hI224
                  refine lv_iconst (v := 1) hx hb dX14_sounds_285 (by decide) ?_
                  exact sg_iret F hB hrt dX14_sounds_286 (by omega) (by omega) (⟨⟨_, rfl, Or.inl rfl⟩, hfin⟩)
                · obtain ⟨m1, hm1⟩ := m_evm hB (K := K)
                  refine lv_aload_n hx hb dX14_sounds_278 rfl (lv_at hl 7 rfl) ?_
                  refine lv_iload_n hx hb dX14_sounds_279 rfl (lv_at hl 6 rfl) ?_
                  refine lv_bipush (v := 104) hx hb dX14_sounds_280 (by decide) ?_
                  refine sg_callV (ci := 19) F hB (m_ends l D cy hI224 x 104 wC.1.1 wC.1.2 wC.2.1 wC.2.2.1 wC.2.2.2.1 hm1 _) (cwV 2 F.1.2.2.2.2 (mgV (mm_5 _ (List.mem_of_getElem? (i := 33) rfl)) (mm_5 _ (List.mem_of_getElem? (i := 34) rfl)) (mm_5 _ (List.mem_of_getElem? (i := 35) rfl)) (mm_3 _ (List.mem_of_getElem? (i := 23) rfl)) (mm_5 _ (List.mem_of_getElem? (i := 32) rfl))) rfl rfl rfl ⟨rfl, by decide, by decide, by decide +kernel⟩ ⟨Nat.le_of_ble_eq_true rfl, Nat.le_of_ble_eq_true rfl⟩) rfl rfl (by decide) rfl hl.1 rfl (Nat.le_of_ble_eq_true rfl) dX14_sounds_282 (Nat.le_trans (show _ ≤ 18 from by omega) (Nat.le_of_ble_eq_true rfl)) (Nat.add_le_add_right (Nat.le_trans (show _ ≤ 146 from by omega) (Nat.le_of_ble_eq_true rfl)) _) (inv_A hI224) (fun H locs v σ282 N hBn hX282 hP => ?_)
                  clear hB; have hB := hBn; clear hBn
                  refine W.widen (k := 18) (n := N) (show _ ≤ 18 from by omega) (Nat.le_refl _) ?_
                  have hBn := sgB_up (n2 := 146) hB (show _ ≤ 146 from by omega)
                  clear hB; have hB := hBn; clear hBn
                  obtain ⟨rfl, hI282, en1_282, en2_282, en3_282, en4_282⟩ := hP
                  have hI282b := inv_dne hI224 wC hI282 en1_282 en2_282 en4_282
                  first
                    | have hfin := hI257b
                    | have hfin := hI282b
                    | have hfin := inv_dnw hI282b wC (iW_C hBC (iW_L hB199 i3 tt3 tx3 hbb.1 hbb.2 (m_ltC hBC i3 hbb.1 hbb.2 c237)))
                    | have hfin : Inv eda ia K g n S hw _ := hI282b
                  refine lv_iconst (v := 1) hx hb dX14_sounds_285 (by decide) ?_
                  exact sg_iret F hB hrt dX14_sounds_286 (by omega) (by omega) (⟨⟨_, rfl, Or.inl rfl⟩, hfin⟩)
              · obtain ⟨m1, hm1⟩ := m_evm hB (K := K)
                refine lv_aload_n hx hb dX14_sounds_240 rfl (lv_at hl 7 rfl) ?_
                refine lv_iload_n hx hb dX14_sounds_241 rfl (lv_at hl 6 rfl) ?_
                refine lv_aload hx hb dX14_sounds_242 (lv_at hl 1 rfl) ?_
                refine gf_X14_371 F hB dX14_sounds_244 (by exact tt3) ?_
                refine lv_if_eq (tgt := 255) hx hb dX14_sounds_247 (by decide) (fun c247 => ?_) (fun c247 => ?_)
                · refine lv_bipush (v := 100) hx hb dX14_sounds_255 (by decide) ?_
                  refine sg_callV (ci := 19) F hB (m_ends l D cy hI224 x _ wC.1.1 wC.1.2 wC.2.1 wC.2.2.1 wC.2.2.2.1 hm1 _) (cwV 2 F.1.2.2.2.2 (mgV (mm_5 _ (List.mem_of_getElem? (i := 33) rfl)) (mm_5 _ (List.mem_of_getElem? (i := 34) rfl)) (mm_5 _ (List.mem_of_getElem? (i := 35) rfl)) (mm_3 _ (List.mem_of_getElem? (i := 23) rfl)) (mm_5 _ (List.mem_of_getElem? (i := 32) rfl))) rfl rfl rfl ⟨rfl, by decide, by decide, by decide +kernel⟩ ⟨Nat.le_of_ble_eq_true rfl, Nat.le_of_ble_eq_true rfl⟩) rfl rfl (by decide) rfl hl.1 rfl (Nat.le_of_ble_eq_true rfl) dX14_sounds_257 (Nat.le_trans (show _ ≤ 18 from by omega) (Nat.le_of_ble_eq_true rfl)) (Nat.add_le_add_right (Nat.le_trans (show _ ≤ 146 from by omega) (Nat.le_of_ble_eq_true rfl)) _) (inv_A hI224) (fun H locs v σ257 N hBn hX257 hP => ?_)
                  clear hB; have hB := hBn; clear hBn
                  refine W.widen (k := 18) (n := N) (show _ ≤ 18 from by omega) (Nat.le_refl _) ?_
                  have hBn := sgB_up (n2 := 146) hB (show _ ≤ 146 from by omega)
                  clear hB; have hB := hBn; clear hBn
                  obtain ⟨rfl, hI257, en1_257, en2_257, en3_257, en4_257⟩ := hP
                  have hI257b := inv_dne hI224 wC hI257 en1_257 en2_257 en4_257
                  refine lv_goto (tgt := 285) hx hb dX14_sounds_260 (by decide) ?_
                  first
                    | have hfin := hI257b
                    | have hfin := hI282b
                    | have hfin := inv_dnw hI257b wC (iW_C hBC (iW_L hB199 i3 tt3 tx3 hbb.1 hbb.2 (m_ltC hBC i3 hbb.1 hbb.2 c237)))
                    | have hfin : Inv eda ia K g n S hw _ := hI257b
                  refine lv_iconst (v := 1) hx hb dX14_sounds_285 (by decide) ?_
                  exact sg_iret F hB hrt dX14_sounds_286 (by omega) (by omega) (⟨⟨_, rfl, Or.inl rfl⟩, hfin⟩)
                · refine lv_bipush (v := 108) hx hb dX14_sounds_250 (by decide) ?_
                  refine lv_goto (tgt := 257) hx hb dX14_sounds_252 (by decide) ?_
                  refine sg_callV (ci := 19) F hB (m_ends l D cy hI224 x _ wC.1.1 wC.1.2 wC.2.1 wC.2.2.1 wC.2.2.2.1 hm1 _) (cwV 2 F.1.2.2.2.2 (mgV (mm_5 _ (List.mem_of_getElem? (i := 33) rfl)) (mm_5 _ (List.mem_of_getElem? (i := 34) rfl)) (mm_5 _ (List.mem_of_getElem? (i := 35) rfl)) (mm_3 _ (List.mem_of_getElem? (i := 23) rfl)) (mm_5 _ (List.mem_of_getElem? (i := 32) rfl))) rfl rfl rfl ⟨rfl, by decide, by decide, by decide +kernel⟩ ⟨Nat.le_of_ble_eq_true rfl, Nat.le_of_ble_eq_true rfl⟩) rfl rfl (by decide) rfl hl.1 rfl (Nat.le_of_ble_eq_true rfl) dX14_sounds_257 (Nat.le_trans (show _ ≤ 18 from by omega) (Nat.le_of_ble_eq_true rfl)) (Nat.add_le_add_right (Nat.le_trans (show _ ≤ 146 from by omega) (Nat.le_of_ble_eq_true rfl)) _) (inv_A hI224) (fun H locs v σ257 N hBn hX257 hP => ?_)
                  clear hB; have hB := hBn; clear hBn
                  refine W.widen (k := 18) (n := N) (show _ ≤ 18 from by omega) (Nat.le_refl _) ?_
                  have hBn := sgB_up (n2 := 146) hB (show _ ≤ 146 from by omega)
                  clear hB; have hB := hBn; clear hBn
                  obtain ⟨rfl, hI257, en1_257, en2_257, en3_257, en4_257⟩ := hP
                  have hI257b := inv_dne hI224 wC hI257 en1_257 en2_257 en4_257
                  refine lv_goto (tgt := 285) hx hb dX14_sounds_260 (by decide) ?_
                  first
                    | have hfin := hI257b
                    | have hfin := hI282b
                    | have hfin := inv_dnw hI257b wC (iW_C hBC (iW_L hB199 i3 tt3 tx3 hbb.1 hbb.2 (m_ltC hBC i3 hbb.1 hbb.2 c237)))
                    | have hfin : Inv eda ia K g n S hw _ := hI257b
                  refine lv_iconst (v := 1) hx hb dX14_sounds_285 (by decide) ?_
                  exact sg_iret F hB hrt dX14_sounds_286 (by omega) (by omega) (⟨⟨_, rfl, Or.inl rfl⟩, hfin⟩)
            · refine lv_iload hx hb dX14_sounds_212 (lv_at hl 3 rfl) ?_
              refine lv_bipush (v := 32) hx hb dX14_sounds_214 (by decide) ?_
              refine lv_icmp_eq (tgt := 223) hx hb dX14_sounds_216 (by decide) (fun c216 => ?_) (fun c216 => ?_)
              · refine lv_iconst (v := 0) hx hb dX14_sounds_223 (by decide) ?_
                refine pf_X14_371 F hB dX14_sounds_224 (by exact tt3) ⟨by decide, by decide⟩ (fun H locs hBn => ?_)
                clear hB; have hB := hBn; clear hBn
                have hI224 := inv_PIc (t := 19) hB hI199 (by exact tt3) (by unfold iCn; omega)
                have wC := wPp_hB4 hB (wPp_PI wB (Or.inr ⟨fun z => absurd (tt3.symm.trans z) (by decide), fun z => absurd (tt3.symm.trans z) (by decide)⟩) (by exact tp3) (by exact tl3))
                have hBC := hB
                refine lv_aload hx hb dX14_sounds_227 (lv_at hl 1 rfl) ?_
                refine gf_X14_284 F hB dX14_sounds_229 (by exact tt3) ?_
                refine lv_aload hx hb dX14_sounds_232 (lv_at hl 1 rfl) ?_
                refine gf_X14_338 F hB dX14_sounds_234 (by exact tt3) ?_
                refine lv_icmp_lt (tgt := 263) hx hb dX14_sounds_237 (by decide) (fun c237 => ?_) (fun c237 => ?_)
                · refine lv_aload_n hx hb dX14_sounds_263 rfl (lv_at hl 5 rfl) ?_
                  refine gf_X14_300 F hB dX14_sounds_264 (by exact tx3) ?_
                  refine lv_if_eq (tgt := 285) hx hb dX14_sounds_267 (by decide) (fun c267 => ((hin ((((sgI_nk (by decide)).trans (sgI_nk (by decide))).trans x03).symm.trans c267)) : False).elim) (fun c267 => ?_)
                  refine lv_iload_n hx hb dX14_sounds_270 rfl (lv_at hl 4 rfl) ?_
                  refine lv_aload_n hx hb dX14_sounds_271 rfl (lv_at hl 5 rfl) ?_
                  refine gf_X14_238 F hB dX14_sounds_272 (by exact tx3) ?_
                  refine lv_icmp_ge (tgt := 285) hx hb dX14_sounds_275 (by decide) (fun c275 => ?_) (fun c275 => ?_)
                  · first
                      | have hfin := hI257b
                      | have hfin := hI282b
                      | have hfin := inv_dnw hI224 wC (iW_C hBC (iW_L hB199 i3 tt3 tx3 hbb.1 hbb.2 (m_ltC hBC i3 hbb.1 hbb.2 c237)))
                      | have hfin : Inv eda ia K g n S hw _ := hI224
                    refine lv_iconst (v := 1) hx hb dX14_sounds_285 (by decide) ?_
                    exact sg_iret F hB hrt dX14_sounds_286 (by omega) (by omega) (⟨⟨_, rfl, Or.inl rfl⟩, hfin⟩)
                  · obtain ⟨m1, hm1⟩ := m_evm hB (K := K)
                    refine lv_aload_n hx hb dX14_sounds_278 rfl (lv_at hl 7 rfl) ?_
                    refine lv_iload_n hx hb dX14_sounds_279 rfl (lv_at hl 6 rfl) ?_
                    refine lv_bipush (v := 104) hx hb dX14_sounds_280 (by decide) ?_
                    refine sg_callV (ci := 19) F hB (m_ends l D cy hI224 x 104 wC.1.1 wC.1.2 wC.2.1 wC.2.2.1 wC.2.2.2.1 hm1 _) (cwV 2 F.1.2.2.2.2 (mgV (mm_5 _ (List.mem_of_getElem? (i := 33) rfl)) (mm_5 _ (List.mem_of_getElem? (i := 34) rfl)) (mm_5 _ (List.mem_of_getElem? (i := 35) rfl)) (mm_3 _ (List.mem_of_getElem? (i := 23) rfl)) (mm_5 _ (List.mem_of_getElem? (i := 32) rfl))) rfl rfl rfl ⟨rfl, by decide, by decide, by decide +kernel⟩ ⟨Nat.le_of_ble_eq_true rfl, Nat.le_of_ble_eq_true rfl⟩) rfl rfl (by decide) rfl hl.1 rfl (Nat.le_of_ble_eq_true rfl) dX14_sounds_282 (Nat.le_trans (show _ ≤ 18 from by omega) (Nat.le_of_ble_eq_true rfl)) (Nat.add_le_add_right (Nat.le_trans (show _ ≤ 146 from by omega) (Nat.le_of_ble_eq_true rfl)) _) (inv_A hI224) (fun H locs v σ282 N hBn hX282 hP => ?_)
                    clear hB; have hB := hBn; clear hBn
                    refine W.widen (k := 18) (n := N) (show _ ≤ 18 from by omega) (Nat.le_refl _) ?_
                    have hBn := sgB_up (n2 := 146) hB (show _ ≤ 146 from by omega)
                    clear hB; have hB := hBn; clear hBn
                    obtain ⟨rfl, hI282, en1_282, en2_282, en3_282, en4_282⟩ := hP
                    have hI282b := inv_dne hI224 wC hI282 en1_282 en2_282 en4_282
                    first
                      | have hfin := hI257b
                      | have hfin := hI282b
                      | have hfin := inv_dnw hI282b wC (iW_C hBC (iW_L hB199 i3 tt3 tx3 hbb.1 hbb.2 (m_ltC hBC i3 hbb.1 hbb.2 c237)))
                      | have hfin : Inv eda ia K g n S hw _ := hI282b
                    refine lv_iconst (v := 1) hx hb dX14_sounds_285 (by decide) ?_
                    exact sg_iret F hB hrt dX14_sounds_286 (by omega) (by omega) (⟨⟨_, rfl, Or.inl rfl⟩, hfin⟩)
                · obtain ⟨m1, hm1⟩ := m_evm hB (K := K)
                  refine lv_aload_n hx hb dX14_sounds_240 rfl (lv_at hl 7 rfl) ?_
                  refine lv_iload_n hx hb dX14_sounds_241 rfl (lv_at hl 6 rfl) ?_
                  refine lv_aload hx hb dX14_sounds_242 (lv_at hl 1 rfl) ?_
                  refine gf_X14_371 F hB dX14_sounds_244 (by exact tt3) ?_
                  refine lv_if_eq (tgt := 255) hx hb dX14_sounds_247 (by decide) (fun c247 => ?_) (fun c247 => ?_)
                  · refine lv_bipush (v := 100) hx hb dX14_sounds_255 (by decide) ?_
                    refine sg_callV (ci := 19) F hB (m_ends l D cy hI224 x _ wC.1.1 wC.1.2 wC.2.1 wC.2.2.1 wC.2.2.2.1 hm1 _) (cwV 2 F.1.2.2.2.2 (mgV (mm_5 _ (List.mem_of_getElem? (i := 33) rfl)) (mm_5 _ (List.mem_of_getElem? (i := 34) rfl)) (mm_5 _ (List.mem_of_getElem? (i := 35) rfl)) (mm_3 _ (List.mem_of_getElem? (i := 23) rfl)) (mm_5 _ (List.mem_of_getElem? (i := 32) rfl))) rfl rfl rfl ⟨rfl, by decide, by decide, by decide +kernel⟩ ⟨Nat.le_of_ble_eq_true rfl, Nat.le_of_ble_eq_true rfl⟩) rfl rfl (by decide) rfl hl.1 rfl (Nat.le_of_ble_eq_true rfl) dX14_sounds_257 (Nat.le_trans (show _ ≤ 18 from by omega) (Nat.le_of_ble_eq_true rfl)) (Nat.add_le_add_right (Nat.le_trans (show _ ≤ 146 from by omega) (Nat.le_of_ble_eq_true rfl)) _) (inv_A hI224) (fun H locs v σ257 N hBn hX257 hP => ?_)
                    clear hB; have hB := hBn; clear hBn
                    refine W.widen (k := 18) (n := N) (show _ ≤ 18 from by omega) (Nat.le_refl _) ?_
                    have hBn := sgB_up (n2 := 146) hB (show _ ≤ 146 from by omega)
                    clear hB; have hB := hBn; clear hBn
                    obtain ⟨rfl, hI257, en1_257, en2_257, en3_257, en4_257⟩ := hP
                    have hI257b := inv_dne hI224 wC hI257 en1_257 en2_257 en4_257
                    refine lv_goto (tgt := 285) hx hb dX14_sounds_260 (by decide) ?_
                    first
                      | have hfin := hI257b
                      | have hfin := hI282b
                      | have hfin := inv_dnw hI257b wC (iW_C hBC (iW_L hB199 i3 tt3 tx3 hbb.1 hbb.2 (m_ltC hBC i3 hbb.1 hbb.2 c237)))
                      | have hfin : Inv eda ia K g n S hw _ := hI257b
                    refine lv_iconst (v := 1) hx hb dX14_sounds_285 (by decide) ?_
                    exact sg_iret F hB hrt dX14_sounds_286 (by omega) (by omega) (⟨⟨_, rfl, Or.inl rfl⟩, hfin⟩)
                  · refine lv_bipush (v := 108) hx hb dX14_sounds_250 (by decide) ?_
                    refine lv_goto (tgt := 257) hx hb dX14_sounds_252 (by decide) ?_
                    refine sg_callV (ci := 19) F hB (m_ends l D cy hI224 x _ wC.1.1 wC.1.2 wC.2.1 wC.2.2.1 wC.2.2.2.1 hm1 _) (cwV 2 F.1.2.2.2.2 (mgV (mm_5 _ (List.mem_of_getElem? (i := 33) rfl)) (mm_5 _ (List.mem_of_getElem? (i := 34) rfl)) (mm_5 _ (List.mem_of_getElem? (i := 35) rfl)) (mm_3 _ (List.mem_of_getElem? (i := 23) rfl)) (mm_5 _ (List.mem_of_getElem? (i := 32) rfl))) rfl rfl rfl ⟨rfl, by decide, by decide, by decide +kernel⟩ ⟨Nat.le_of_ble_eq_true rfl, Nat.le_of_ble_eq_true rfl⟩) rfl rfl (by decide) rfl hl.1 rfl (Nat.le_of_ble_eq_true rfl) dX14_sounds_257 (Nat.le_trans (show _ ≤ 18 from by omega) (Nat.le_of_ble_eq_true rfl)) (Nat.add_le_add_right (Nat.le_trans (show _ ≤ 146 from by omega) (Nat.le_of_ble_eq_true rfl)) _) (inv_A hI224) (fun H locs v σ257 N hBn hX257 hP => ?_)
                    clear hB; have hB := hBn; clear hBn
                    refine W.widen (k := 18) (n := N) (show _ ≤ 18 from by omega) (Nat.le_refl _) ?_
                    have hBn := sgB_up (n2 := 146) hB (show _ ≤ 146 from by omega)
                    clear hB; have hB := hBn; clear hBn
                    obtain ⟨rfl, hI257, en1_257, en2_257, en3_257, en4_257⟩ := hP
                    have hI257b := inv_dne hI224 wC hI257 en1_257 en2_257 en4_257
                    refine lv_goto (tgt := 285) hx hb dX14_sounds_260 (by decide) ?_
                    first
                      | have hfin := hI257b
                      | have hfin := hI282b
                      | have hfin := inv_dnw hI257b wC (iW_C hBC (iW_L hB199 i3 tt3 tx3 hbb.1 hbb.2 (m_ltC hBC i3 hbb.1 hbb.2 c237)))
                      | have hfin : Inv eda ia K g n S hw _ := hI257b
                    refine lv_iconst (v := 1) hx hb dX14_sounds_285 (by decide) ?_
                    exact sg_iret F hB hrt dX14_sounds_286 (by omega) (by omega) (⟨⟨_, rfl, Or.inl rfl⟩, hfin⟩)
              · refine lv_iconst (v := 1) hx hb dX14_sounds_219 (by decide) ?_
                refine lv_goto (tgt := 224) hx hb dX14_sounds_220 (by decide) ?_
                refine pf_X14_371 F hB dX14_sounds_224 (by exact tt3) ⟨by decide, by decide⟩ (fun H locs hBn => ?_)
                clear hB; have hB := hBn; clear hBn
                have hI224 := inv_PIc (t := 19) hB hI199 (by exact tt3) (by unfold iCn; omega)
                have wC := wPp_hB4 hB (wPp_PI wB (Or.inr ⟨fun z => absurd (tt3.symm.trans z) (by decide), fun z => absurd (tt3.symm.trans z) (by decide)⟩) (by exact tp3) (by exact tl3))
                have hBC := hB
                refine lv_aload hx hb dX14_sounds_227 (lv_at hl 1 rfl) ?_
                refine gf_X14_284 F hB dX14_sounds_229 (by exact tt3) ?_
                refine lv_aload hx hb dX14_sounds_232 (lv_at hl 1 rfl) ?_
                refine gf_X14_338 F hB dX14_sounds_234 (by exact tt3) ?_
                refine lv_icmp_lt (tgt := 263) hx hb dX14_sounds_237 (by decide) (fun c237 => ?_) (fun c237 => ?_)
                · refine lv_aload_n hx hb dX14_sounds_263 rfl (lv_at hl 5 rfl) ?_
                  refine gf_X14_300 F hB dX14_sounds_264 (by exact tx3) ?_
                  refine lv_if_eq (tgt := 285) hx hb dX14_sounds_267 (by decide) (fun c267 => ((hin ((((sgI_nk (by decide)).trans (sgI_nk (by decide))).trans x03).symm.trans c267)) : False).elim) (fun c267 => ?_)
                  refine lv_iload_n hx hb dX14_sounds_270 rfl (lv_at hl 4 rfl) ?_
                  refine lv_aload_n hx hb dX14_sounds_271 rfl (lv_at hl 5 rfl) ?_
                  refine gf_X14_238 F hB dX14_sounds_272 (by exact tx3) ?_
                  refine lv_icmp_ge (tgt := 285) hx hb dX14_sounds_275 (by decide) (fun c275 => ?_) (fun c275 => ?_)
                  · first
                      | have hfin := hI257b
                      | have hfin := hI282b
                      | have hfin := inv_dnw hI224 wC (iW_C hBC (iW_L hB199 i3 tt3 tx3 hbb.1 hbb.2 (m_ltC hBC i3 hbb.1 hbb.2 c237)))
                      | have hfin : Inv eda ia K g n S hw _ := hI224
                    refine lv_iconst (v := 1) hx hb dX14_sounds_285 (by decide) ?_
                    exact sg_iret F hB hrt dX14_sounds_286 (by omega) (by omega) (⟨⟨_, rfl, Or.inl rfl⟩, hfin⟩)
                  · obtain ⟨m1, hm1⟩ := m_evm hB (K := K)
                    refine lv_aload_n hx hb dX14_sounds_278 rfl (lv_at hl 7 rfl) ?_
                    refine lv_iload_n hx hb dX14_sounds_279 rfl (lv_at hl 6 rfl) ?_
                    refine lv_bipush (v := 104) hx hb dX14_sounds_280 (by decide) ?_
                    refine sg_callV (ci := 19) F hB (m_ends l D cy hI224 x 104 wC.1.1 wC.1.2 wC.2.1 wC.2.2.1 wC.2.2.2.1 hm1 _) (cwV 2 F.1.2.2.2.2 (mgV (mm_5 _ (List.mem_of_getElem? (i := 33) rfl)) (mm_5 _ (List.mem_of_getElem? (i := 34) rfl)) (mm_5 _ (List.mem_of_getElem? (i := 35) rfl)) (mm_3 _ (List.mem_of_getElem? (i := 23) rfl)) (mm_5 _ (List.mem_of_getElem? (i := 32) rfl))) rfl rfl rfl ⟨rfl, by decide, by decide, by decide +kernel⟩ ⟨Nat.le_of_ble_eq_true rfl, Nat.le_of_ble_eq_true rfl⟩) rfl rfl (by decide) rfl hl.1 rfl (Nat.le_of_ble_eq_true rfl) dX14_sounds_282 (Nat.le_trans (show _ ≤ 18 from by omega) (Nat.le_of_ble_eq_true rfl)) (Nat.add_le_add_right (Nat.le_trans (show _ ≤ 146 from by omega) (Nat.le_of_ble_eq_true rfl)) _) (inv_A hI224) (fun H locs v σ282 N hBn hX282 hP => ?_)
                    clear hB; have hB := hBn; clear hBn
                    refine W.widen (k := 18) (n := N) (show _ ≤ 18 from by omega) (Nat.le_refl _) ?_
                    have hBn := sgB_up (n2 := 146) hB (show _ ≤ 146 from by omega)
                    clear hB; have hB := hBn; clear hBn
                    obtain ⟨rfl, hI282, en1_282, en2_282, en3_282, en4_282⟩ := hP
                    have hI282b := inv_dne hI224 wC hI282 en1_282 en2_282 en4_282
                    first
                      | have hfin := hI257b
                      | have hfin := hI282b
                      | have hfin := inv_dnw hI282b wC (iW_C hBC (iW_L hB199 i3 tt3 tx3 hbb.1 hbb.2 (m_ltC hBC i3 hbb.1 hbb.2 c237)))
                      | have hfin : Inv eda ia K g n S hw _ := hI282b
                    refine lv_iconst (v := 1) hx hb dX14_sounds_285 (by decide) ?_
                    exact sg_iret F hB hrt dX14_sounds_286 (by omega) (by omega) (⟨⟨_, rfl, Or.inl rfl⟩, hfin⟩)
                · obtain ⟨m1, hm1⟩ := m_evm hB (K := K)
                  refine lv_aload_n hx hb dX14_sounds_240 rfl (lv_at hl 7 rfl) ?_
                  refine lv_iload_n hx hb dX14_sounds_241 rfl (lv_at hl 6 rfl) ?_
                  refine lv_aload hx hb dX14_sounds_242 (lv_at hl 1 rfl) ?_
                  refine gf_X14_371 F hB dX14_sounds_244 (by exact tt3) ?_
                  refine lv_if_eq (tgt := 255) hx hb dX14_sounds_247 (by decide) (fun c247 => ?_) (fun c247 => ?_)
                  · refine lv_bipush (v := 100) hx hb dX14_sounds_255 (by decide) ?_
                    refine sg_callV (ci := 19) F hB (m_ends l D cy hI224 x _ wC.1.1 wC.1.2 wC.2.1 wC.2.2.1 wC.2.2.2.1 hm1 _) (cwV 2 F.1.2.2.2.2 (mgV (mm_5 _ (List.mem_of_getElem? (i := 33) rfl)) (mm_5 _ (List.mem_of_getElem? (i := 34) rfl)) (mm_5 _ (List.mem_of_getElem? (i := 35) rfl)) (mm_3 _ (List.mem_of_getElem? (i := 23) rfl)) (mm_5 _ (List.mem_of_getElem? (i := 32) rfl))) rfl rfl rfl ⟨rfl, by decide, by decide, by decide +kernel⟩ ⟨Nat.le_of_ble_eq_true rfl, Nat.le_of_ble_eq_true rfl⟩) rfl rfl (by decide) rfl hl.1 rfl (Nat.le_of_ble_eq_true rfl) dX14_sounds_257 (Nat.le_trans (show _ ≤ 18 from by omega) (Nat.le_of_ble_eq_true rfl)) (Nat.add_le_add_right (Nat.le_trans (show _ ≤ 146 from by omega) (Nat.le_of_ble_eq_true rfl)) _) (inv_A hI224) (fun H locs v σ257 N hBn hX257 hP => ?_)
                    clear hB; have hB := hBn; clear hBn
                    refine W.widen (k := 18) (n := N) (show _ ≤ 18 from by omega) (Nat.le_refl _) ?_
                    have hBn := sgB_up (n2 := 146) hB (show _ ≤ 146 from by omega)
                    clear hB; have hB := hBn; clear hBn
                    obtain ⟨rfl, hI257, en1_257, en2_257, en3_257, en4_257⟩ := hP
                    have hI257b := inv_dne hI224 wC hI257 en1_257 en2_257 en4_257
                    refine lv_goto (tgt := 285) hx hb dX14_sounds_260 (by decide) ?_
                    first
                      | have hfin := hI257b
                      | have hfin := hI282b
                      | have hfin := inv_dnw hI257b wC (iW_C hBC (iW_L hB199 i3 tt3 tx3 hbb.1 hbb.2 (m_ltC hBC i3 hbb.1 hbb.2 c237)))
                      | have hfin : Inv eda ia K g n S hw _ := hI257b
                    refine lv_iconst (v := 1) hx hb dX14_sounds_285 (by decide) ?_
                    exact sg_iret F hB hrt dX14_sounds_286 (by omega) (by omega) (⟨⟨_, rfl, Or.inl rfl⟩, hfin⟩)
                  · refine lv_bipush (v := 108) hx hb dX14_sounds_250 (by decide) ?_
                    refine lv_goto (tgt := 257) hx hb dX14_sounds_252 (by decide) ?_
                    refine sg_callV (ci := 19) F hB (m_ends l D cy hI224 x _ wC.1.1 wC.1.2 wC.2.1 wC.2.2.1 wC.2.2.2.1 hm1 _) (cwV 2 F.1.2.2.2.2 (mgV (mm_5 _ (List.mem_of_getElem? (i := 33) rfl)) (mm_5 _ (List.mem_of_getElem? (i := 34) rfl)) (mm_5 _ (List.mem_of_getElem? (i := 35) rfl)) (mm_3 _ (List.mem_of_getElem? (i := 23) rfl)) (mm_5 _ (List.mem_of_getElem? (i := 32) rfl))) rfl rfl rfl ⟨rfl, by decide, by decide, by decide +kernel⟩ ⟨Nat.le_of_ble_eq_true rfl, Nat.le_of_ble_eq_true rfl⟩) rfl rfl (by decide) rfl hl.1 rfl (Nat.le_of_ble_eq_true rfl) dX14_sounds_257 (Nat.le_trans (show _ ≤ 18 from by omega) (Nat.le_of_ble_eq_true rfl)) (Nat.add_le_add_right (Nat.le_trans (show _ ≤ 146 from by omega) (Nat.le_of_ble_eq_true rfl)) _) (inv_A hI224) (fun H locs v σ257 N hBn hX257 hP => ?_)
                    clear hB; have hB := hBn; clear hBn
                    refine W.widen (k := 18) (n := N) (show _ ≤ 18 from by omega) (Nat.le_refl _) ?_
                    have hBn := sgB_up (n2 := 146) hB (show _ ≤ 146 from by omega)
                    clear hB; have hB := hBn; clear hBn
                    obtain ⟨rfl, hI257, en1_257, en2_257, en3_257, en4_257⟩ := hP
                    have hI257b := inv_dne hI224 wC hI257 en1_257 en2_257 en4_257
                    refine lv_goto (tgt := 285) hx hb dX14_sounds_260 (by decide) ?_
                    first
                      | have hfin := hI257b
                      | have hfin := hI282b
                      | have hfin := inv_dnw hI257b wC (iW_C hBC (iW_L hB199 i3 tt3 tx3 hbb.1 hbb.2 (m_ltC hBC i3 hbb.1 hbb.2 c237)))
                      | have hfin : Inv eda ia K g n S hw _ := hI257b
                    refine lv_iconst (v := 1) hx hb dX14_sounds_285 (by decide) ?_
                    exact sg_iret F hB hrt dX14_sounds_286 (by omega) (by omega) (⟨⟨_, rfl, Or.inl rfl⟩, hfin⟩)
          · have hi4 := i_nle c92
            refine lv_aload_n hx hb dX14_sounds_95 rfl (lv_at hl 5 rfl) ?_
            refine gf_X14_300 F hB dX14_sounds_96 tx3 ?_
            refine lv_if_eq (tgt := 119) hx hb dX14_sounds_99 (by decide) (fun c99 => ((hin ((x03).symm.trans c99)) : False).elim) (fun c99 => ?_)
            have h03 : 0 < sgSz σ3 le := by omega
            obtain ⟨r1, za, zb⟩ := (inv_LS hI3).1 _ tle3 id
            have gs := sgLz_s za h03
            obtain ⟨t9, v1, v2⟩ := inv_L hI3 le tle3 0 h03
            refine lv_aload_n hx hb dX14_sounds_102 rfl (lv_at hl 5 rfl) ?_
            refine gr_X14_320 F hB dX14_sounds_103 tx3 hle3 ?_
            refine lv_iconst (v := 0) hx hb dX14_sounds_106 (by decide) ?_
            refine sg_callV (ci := 4) F hB (m_remove0 l D cy gs h03 (fun j y _ hy => (inv_LS hI3).2.2.1 r1 j y gs.2.2.1 hy) (by rw [← sgAt_of gs.2.1]; exact v1) _) (cwV 1 F.1.2.2.2.2 (mgV (mm_5 _ (List.mem_of_getElem? (i := 29) rfl)) (mm_5 _ (List.mem_of_getElem? (i := 30) rfl)) (mm_5 _ (List.mem_of_getElem? (i := 31) rfl)) (mm_0 _ (List.mem_of_getElem? (i := 35) rfl)) (mm_5 _ (List.mem_of_getElem? (i := 21) rfl))) rfl rfl rfl ⟨rfl, by decide, by decide, by decide +kernel⟩ ⟨Nat.le_of_ble_eq_true rfl, Nat.le_of_ble_eq_true rfl⟩) rfl rfl (by decide) rfl hl.1 rfl (Nat.le_of_ble_eq_true rfl) dX14_sounds_107 (by show _ ≤ 18; omega) (Nat.add_le_add_right (by omega) _) tle3 (fun H locs v σ107 N hBn hX107 hP => ?_)
            clear hB; have hB := hBn; clear hBn
            obtain ⟨rfl, ho, ho1, ho2, ho3, ho4⟩ := hP
            obtain ⟨hI107, rm1, rm2, rm3, rm4, rm5⟩ := inv_rm hI3 gs h03 ho ho1 ho3 ho2 ho4 (fun z => absurd (rle.symm.trans z) (by decide)) (fun _ _ => Or.inr (by rw [ole, hz4]; exact hkp))
            have hbx0 : sgBx ia σ107 t9 := sgBx_mono (fun a _ => ho.1 a) (by unfold iEl at v2; rw [rle] at v2; exact v2)
            have zr107 : zR l1 σ3 σ107 := zR_l (l2 := le) (fun a _ => ho.1 a) (fun a k _ h5 => ho.2.2.1 a k (fun z => h5 (by rw [z]; exact tle3))) rm5 rm4 tl3 nle
            have i107 : ∀ k, sgI σ107 xe k = sgI σ3 xe k := fun k => ho.2.2.1 xe k (fun z => by rw [z, tle3] at tx3; exact absurd tx3 (by decide))
            have tx107 := tFr_T zr107.1 tx3 (by decide)
            have tl107 := tFr_T zr107.1 tl3 (by decide)
            have tle107 : sgT σ107 le = 5 := (ho.1 le).1.trans tle3
            have sG107 : sgSz σ107 (kG K) = sgSz σ3 (kG K) := (rm4 _ (inv_tG hI3).1 (fun z => z.elim id (fun w => nleG w.symm))).1
            refine va_castY hx hb hown (F.1.2.2.2.2 _ (List.mem_cons_of_mem _ (mm_8 _ (List.mem_of_getElem? (i := 3) rfl)))) (F.2.2.1.2.2 ("java/lang/Integer", "java/lang/Integer") (by decide +kernel)) (sg_rbx F hB hbx0) dX14_sounds_110 ?_
            refine sg_callVr F hB (m_unbox l D cy hbx0 _) (cwV 0 F.1.2.2.2.2 (mgV (mm_8 _ (List.mem_of_getElem? (i := 5) rfl)) (mm_8 _ (List.mem_of_getElem? (i := 6) rfl)) (mm_8 _ (List.mem_of_getElem? (i := 7) rfl)) (mm_7 _ (List.mem_of_getElem? (i := 30) rfl)) (mm_8 _ (List.mem_of_getElem? (i := 1) rfl))) rfl rfl rfl ⟨rfl, by decide, by decide, by decide +kernel⟩ ⟨Nat.le_of_ble_eq_true rfl, Nat.le_of_ble_eq_true rfl⟩) rfl hl.1 rfl (Nat.le_of_ble_eq_true rfl) dX14_sounds_113 (by show _ ≤ 18; omega) (Nat.add_le_add_right (by omega) _) (sg_rbx F hB hbx0) (fun H locs v σ113 N hBn hX113 hP => ?_)
            clear hB; have hB := hBn; clear hBn
            obtain ⟨⟨w113, rfl⟩, rfl⟩ := hP
            refine lv_goto (tgt := 133) hx hb dX14_sounds_116 (by decide) ?_
            refine lv_istore (lv' := [(8, .int _), (7, .int _), (6, .ref _), (5, .ref _), (4, .int _), (3, .int _), (2, .ref _), (1, .int _), (0, .ref _)]) hx hb dX14_sounds_133 hl (by decide) rfl (fun ls hl => ?_)
            refine lv_iload hx hb dX14_sounds_135 (lv_at hl 4 rfl) ?_
            refine lv_bipush (v := 32) hx hb dX14_sounds_137 (by decide) ?_
            refine lv_icmp_ne (tgt := 165) hx hb dX14_sounds_139 (by decide) (fun c139 => ?_) (fun c139 => ?_)
            · refine lv_iload hx hb dX14_sounds_165 (lv_at hl 4 rfl) ?_
              refine lv_bipush (v := 32) hx hb dX14_sounds_167 (by decide) ?_
              refine lv_icmp_ne (tgt := 185) hx hb dX14_sounds_169 (by decide) (fun c169 => ?_) (fun c169 => ((c139 c169) : False).elim)
              refine lv_iinc (lv' := [(7, .int _), (8, .int _), (6, .ref _), (5, .ref _), (4, .int _), (3, .int _), (2, .ref _), (1, .int _), (0, .ref _)]) hx hb dX14_sounds_185 hl (k := 1) rfl rfl (by decide) rfl (fun ls hl => ?_)
              refine lv_goto (tgt := 89) hx hb dX14_sounds_188 (by decide) ?_
              have hi3 := i_nle c92
              have e9 : (k9 + Int32.ofInt 1).toInt = k9.toInt + 1 := m_add1 (by omega) (by omega)
              first
                | exact ih89 _ (by subst hd89; rw [e9]; omega) _ _ _ _ _ _ _ _ hB (lv_sub hl [0, 2, 3, 4, 5, 6, 7, 8] rfl) hI158 ⟨by rw [e9]; omega, by rw [e9]; omega⟩ (by rw [e9, l158, rm2]; omega) (by rw [e9, ada158, sG5]; omega) ⟨by rw [e9]; show kc + 0 + 0 + 1 + 1 ≤ _; omega, by rw [e9]; omega⟩ (x158.trans hz4) z158 rfl
                | exact ih89 _ (by subst hd89; rw [e9]; omega) _ _ _ _ _ _ _ _ hB (lv_sub hl [0, 2, 3, 4, 5, 6, 7, 8] rfl) hI107 ⟨by rw [e9]; omega, by rw [e9]; omega⟩ (by rw [e9, rm2]; omega) (by rw [e9, sG107]; omega) ⟨by rw [e9]; show kc + 0 + 0 ≤ _; omega, by rw [e9]; omega⟩ ((i107 4).trans hz4) (zR_tr hzr zr107) rfl
            · refine lv_aload_n hx hb dX14_sounds_142 rfl (lv_at hl 6 rfl) ?_
              refine gf_X14_300 F hB dX14_sounds_143 tx107 ?_
              refine lv_if_eq (tgt := 165) hx hb dX14_sounds_146 (by decide) (fun c146 => ((hin (((i107 0).trans x03).symm.trans c146)) : False).elim) (fun c146 => ?_)
              refine lv_aload_n hx hb dX14_sounds_149 rfl (lv_at hl 8 rfl) ?_
              refine gr_X14_35 F hB dX14_sounds_150 (inv_A hI107) (inv_r8 hI107) ?_
              refine lv_iload hx hb dX14_sounds_153 (lv_at hl 0 rfl) ?_
              refine sg_callS F hB (m_box l D cy _ _) (va_cwS 1 F.1.2.2.2.2 (mgS2 (mm_7 _ (List.mem_of_getElem? (i := 33) rfl)) (mm_7 _ (List.mem_of_getElem? (i := 34) rfl)) (mm_7 _ (List.mem_of_getElem? (i := 30) rfl)) (mm_7 _ (List.mem_of_getElem? (i := 25) rfl))) rfl rfl rfl ⟨by decide, by decide, by decide +kernel⟩ ⟨Nat.le_of_ble_eq_true rfl, Nat.le_of_ble_eq_true rfl⟩) rfl hl.1 rfl (Nat.le_of_ble_eq_true rfl) dX14_sounds_155 (by show _ ≤ 18; omega) (Nat.add_le_add_right (by omega) _)  (fun H locs v σ155 N hBn hX155 hP => ?_)
              clear hB; have hB := hBn; clear hBn
              obtain ⟨y155, rfl, hbx, hqt⟩ := hP
              have ed5 := sg_eda F hB
              have hI155 := inv_Qt hI107 hqt ed5
              have tG5 := (inv_tG hI155).1
              have sG5 : sgSz σ155 (kG K) = sgSz σ3 (kG K) := (sgSz_Qt hqt (inv_tG hI107).1).trans sG107
              have z5 := zR_Qt hI107 hqt ed5 tl107
              have lq5 := inv_LqQt hI107 hqt ed5
              obtain ⟨ra158, za158, zb158⟩ := (inv_LS hI155).1 _ tG5 id
              refine sg_callV (ci := 4) F hB (m_add l D cy za158 (fun j y h1 h2 => (inv_LS hI155).2.2.1 ra158 j y h1 h2) y155 (iEl_K (l0 := _) (g := g) (j := 0) (by unfold iEl; rw [(inv_tG h).2]; exact hbx)) zb158 _) (cwV 1 F.1.2.2.2.2 (mgV (mm_3 _ (List.mem_of_getElem? (i := 9) rfl)) (mm_3 _ (List.mem_of_getElem? (i := 10) rfl)) (mm_3 _ (List.mem_of_getElem? (i := 11) rfl)) (mm_0 _ (List.mem_of_getElem? (i := 35) rfl)) (mm_2 _ (List.mem_of_getElem? (i := 29) rfl))) rfl rfl rfl ⟨rfl, by decide, by decide, by decide +kernel⟩ ⟨Nat.le_of_ble_eq_true rfl, Nat.le_of_ble_eq_true rfl⟩) rfl rfl (by decide) rfl hl.1 rfl (Nat.le_of_ble_eq_true rfl) dX14_sounds_158 (by show _ ≤ 18; omega) (Nat.add_le_add_right (by omega) _) tG5 (fun H locs v σ158 N hBn hX158 hP => ?_)
              clear hB; have hB := hBn; clear hBn
              obtain ⟨rfl, hAd158⟩ := hP
              obtain ⟨hI158, ada158, adb158, adc158, add158, ade158, adf158, adg158, adh158⟩ := inv_ad hI155 tG5 za158 hAd158 (sg_eda F hB) (by unfold iEl; rw [(inv_tG h).2]; exact hbx) (by rw [(inv_tG h).2]; refine inv_cap ?_ (Or.inl rfl); rw [sG5]; omega) (Or.inl ⟨inv_nD hI155 (by rw [(inv_tG h).2]; decide), rfl⟩) (nr7 (inv_tG h).2 (by decide))
              have z158 : zR l1 σ σ158 := zR_tr hzr (zR_tr zr107 (zR_tr z5 (zR_l (l2 := kG K) add158 adf158 adg158 adh158 (tFr_T z5.1 tl107 (by decide)) nlG)))
              have l158 : sgSz σ158 le = sgSz σ107 le := ((adh158 le (tFr_T z5.1 tle107 (by decide)) (fun z => z.elim id nleG)).1).trans (lq5 le tle107 id).1
              have x158 : sgI σ158 xe 4 = sgI σ3 xe 4 := ((adf158 xe 4 (by rw [tFr_T z5.1 tx107 (by decide)]; decide) (by rw [tFr_T z5.1 tx107 (by decide)]; decide)).trans (((hqt.1 xe (by rw [tx107]; decide)).2.2 4).1)).trans (i107 4)
              refine lv_pop hx hb dX14_sounds_161 rfl ?_
              refine lv_goto (tgt := 185) hx hb dX14_sounds_162 (by decide) ?_
              refine lv_iinc (lv' := [(7, .int _), (8, .int _), (6, .ref _), (5, .ref _), (4, .int _), (3, .int _), (2, .ref _), (1, .int _), (0, .ref _)]) hx hb dX14_sounds_185 hl (k := 1) rfl rfl (by decide) rfl (fun ls hl => ?_)
              refine lv_goto (tgt := 89) hx hb dX14_sounds_188 (by decide) ?_
              have hi3 := i_nle c92
              have e9 : (k9 + Int32.ofInt 1).toInt = k9.toInt + 1 := m_add1 (by omega) (by omega)
              first
                | exact ih89 _ (by subst hd89; rw [e9]; omega) _ _ _ _ _ _ _ _ hB (lv_sub hl [0, 2, 3, 4, 5, 6, 7, 8] rfl) hI158 ⟨by rw [e9]; omega, by rw [e9]; omega⟩ (by rw [e9, l158, rm2]; omega) (by rw [e9, ada158, sG5]; omega) ⟨by rw [e9]; show kc + 0 + 0 + 1 + 1 ≤ _; omega, by rw [e9]; omega⟩ (x158.trans hz4) z158 rfl
                | exact ih89 _ (by subst hd89; rw [e9]; omega) _ _ _ _ _ _ _ _ hB (lv_sub hl [0, 2, 3, 4, 5, 6, 7, 8] rfl) hI107 ⟨by rw [e9]; omega, by rw [e9]; omega⟩ (by rw [e9, rm2]; omega) (by rw [e9, sG107]; omega) ⟨by rw [e9]; show kc + 0 + 0 ≤ _; omega, by rw [e9]; omega⟩ ((i107 4).trans hz4) (zR_tr hzr zr107) rfl
        · refine lv_iload hx hb dX14_sounds_63 (lv_at hl 6 rfl) ?_
          refine lv_bipush (v := 100) hx hb dX14_sounds_65 (by decide) ?_
          refine lv_icmp_eq (tgt := 77) hx hb dX14_sounds_67 (by decide) (fun c67 => ?_) (fun c67 => ?_)
          · refine lv_iconst (v := 1) hx hb dX14_sounds_77 (by decide) ?_
            refine lv_goto (tgt := 82) hx hb dX14_sounds_78 (by decide) ?_
            refine lv_iadd hx hb dX14_sounds_82 ?_
            refine pf_X14_366 F hB dX14_sounds_83 (inv_A h) (fun H locs hBn => ?_)
            clear hB; have hB := hBn; clear hBn
            have hI83 := inv_PIc (t := 20) hB h (inv_A h) (by unfold iCn; omega)
            have z83 := zPIB (l1 := l1) (t := 20) hB (inv_A h) (by decide) tl
            have hb0 := i_nle c48
            rw [m_i0] at hb0
            obtain ⟨kc, hkc⟩ : ∃ kc : Nat, kc = 0 := ⟨_, rfl⟩
            refine W.widen (k := kc) (n := N) (by omega) (Nat.le_refl _) ?_
            refine lv_iconst (v := 0) hx hb dX14_sounds_86 (by decide) ?_
            refine lv_istore (lv' := [(7, .int _), (6, .ref _), (5, .ref _), (0, .ref _), (1, .int _), (2, .ref _), (3, .int _), (4, .int _)]) hx hb dX14_sounds_87 hl (by decide) rfl (fun ls hl => ?_)
            have key89 : ∃ (σ3 : SG) (k9 : Int32) (nc : Nat), sgB D cy s σ σ3 H locs N nc ∧ lv_has ls 9 [(7, .int k9), (6, .ref t0), (5, .ref pp), (4, .int f0), (3, .int b), (2, .ref xe), (1, .int x), (0, .ref (kA K))] ∧ Inv eda ia K g n S hw σ3 ∧ (0 ≤ k9.toInt ∧ k9.toInt ≤ b.toInt) ∧ sgSz σ3 le = sgSz σ le - k9.toInt.toNat ∧ sgSz σ3 (kG K) ≤ sgSz σ (kG K) + k9.toInt.toNat ∧ (kc ≤ 2 * k9.toInt.toNat ∧ nc ≤ 16 * k9.toInt.toNat) ∧ sgI σ3 xe 4 = sgI σ xe 4 ∧ zR l1 σ σ3 := ⟨_, _, _, hB, (lv_sub hl [0, 1, 2, 7, 6, 5, 4, 3] rfl), hI83, ⟨by decide, by rw [m_i0]; omega⟩, by rw [m_i0]; exact (sgSz_nk (by decide)).trans rfl, by rw [m_i0]; exact Nat.le_of_eq (sgSz_nk (by decide)), ⟨by omega, by omega⟩, sgI_nk (by decide), z83⟩
            clear hB hl hkc
            obtain ⟨σ3, k9, nc, hB, hl, hI3, hi, hzl, hzG, hkn, hz4, hzr⟩ := key89
            obtain ⟨d89, hd89⟩ : ∃ d : Nat, d = (b.toInt - k9.toInt).toNat := ⟨_, rfl⟩
            induction d89 using Nat.strongRecOn generalizing H locs ls N σ3 k9 nc kc
            rename_i d89 ih89
            have tx3 : sgT σ3 xe = 17 := tFr_T hzr.1 txe (by decide)
            have tp3 : sgT σ3 pp = 18 := tFr_T hzr.1 tp (by decide)
            have tle3 : sgT σ3 le = 5 := tFr_T hzr.1 tle (by decide)
            have hle3 : sgR σ3 xe 3 = some le := (hzr.2.2.2.2.1 xe 3 (by rw [txe]; decide)).trans hle
            have tl3 : sgT σ3 l1 = 5 := tFr_T hzr.1 tl (by decide)
            have tt3 : sgT σ3 t0 = 19 := tFr_T hzr.1 tt (by decide)
            have d3 : sgI σ3 t0 2 = sgI σ t0 2 := hzr.2.1 t0 2 tt
            have x03 : sgI σ3 xe 0 = sgI σ xe 0 := hzr.2.2.2.1 xe 0 txe (by decide)
            refine lv_iload hx hb dX14_sounds_89 (lv_at hl 0 rfl) ?_
            refine lv_iload_n hx hb dX14_sounds_91 rfl (lv_at hl 4 rfl) ?_
            refine lv_icmp_ge (tgt := 191) hx hb dX14_sounds_92 (by decide) (fun c92 => ?_) (fun c92 => ?_)
            · have hi4 := i_le c92
              refine W.widen (k := 16) (n := N) (show kc ≤ 16 from by omega) (Nat.le_refl _) ?_
              have hBn := sgB_up (n2 := 128) hB (show nc ≤ 128 from by omega)
              clear hB; have hB := hBn; clear hBn
              refine lv_aload hx hb dX14_sounds_191 (lv_at hl 1 rfl) ?_
              refine lv_dup hx hb dX14_sounds_193 rfl ?_
              refine gf_X14_284 F hB dX14_sounds_194 tt3 ?_
              refine lv_iload_n hx hb dX14_sounds_197 rfl (lv_at hl 4 rfl) ?_
              refine lv_iadd hx hb dX14_sounds_198 ?_
              refine pf_X14_284 F hB dX14_sounds_199 tt3 (fun H locs hBn => ?_)
              clear hB; have hB := hBn; clear hBn
              have hI199 := inv_dnB hB hI3 tt3
              have w3 := wPp_z h wc hzr
              have wB := wPp_hB hB (wPp_PI w3 (Or.inr ⟨fun z => absurd (tt3.symm.trans z) (by decide), fun z => absurd (tt3.symm.trans z) (by decide)⟩) tp3 tl3)
              have hB199 := hB
              have i3 := iW_tr hzr.1 (inv_T h) tt (hzr.2.1 t0 1 tt) (hzr.2.1 t0 2 tt) x03 (hzr.2.2.2.2.1 t0 0 (by rw [tt]; decide)) ⟨iw1, iw2, iw3, iw4⟩
              refine lv_aload hx hb dX14_sounds_202 (lv_at hl 1 rfl) ?_
              refine lv_aload hx hb dX14_sounds_204 (lv_at hl 1 rfl) ?_
              refine gf_X14_371 F hB dX14_sounds_206 (by exact tt3) ?_
              refine lv_if_ne (tgt := 219) hx hb dX14_sounds_209 (by decide) (fun c209 => ?_) (fun c209 => ?_)
              · refine lv_iconst (v := 1) hx hb dX14_sounds_219 (by decide) ?_
                refine lv_goto (tgt := 224) hx hb dX14_sounds_220 (by decide) ?_
                refine pf_X14_371 F hB dX14_sounds_224 (by exact tt3) ⟨by decide, by decide⟩ (fun H locs hBn => ?_)
                clear hB; have hB := hBn; clear hBn
                have hI224 := inv_PIc (t := 19) hB hI199 (by exact tt3) (by unfold iCn; omega)
                have wC := wPp_hB4 hB (wPp_PI wB (Or.inr ⟨fun z => absurd (tt3.symm.trans z) (by decide), fun z => absurd (tt3.symm.trans z) (by decide)⟩) (by exact tp3) (by exact tl3))
                have hBC := hB
                refine lv_aload hx hb dX14_sounds_227 (lv_at hl 1 rfl) ?_
                refine gf_X14_284 F hB dX14_sounds_229 (by exact tt3) ?_
                refine lv_aload hx hb dX14_sounds_232 (lv_at hl 1 rfl) ?_
                refine gf_X14_338 F hB dX14_sounds_234 (by exact tt3) ?_
                refine lv_icmp_lt (tgt := 263) hx hb dX14_sounds_237 (by decide) (fun c237 => ?_) (fun c237 => ?_)
                · refine lv_aload_n hx hb dX14_sounds_263 rfl (lv_at hl 5 rfl) ?_
                  refine gf_X14_300 F hB dX14_sounds_264 (by exact tx3) ?_
                  refine lv_if_eq (tgt := 285) hx hb dX14_sounds_267 (by decide) (fun c267 => ((hin ((((sgI_nk (by decide)).trans (sgI_nk (by decide))).trans x03).symm.trans c267)) : False).elim) (fun c267 => ?_)
                  refine lv_iload_n hx hb dX14_sounds_270 rfl (lv_at hl 4 rfl) ?_
                  refine lv_aload_n hx hb dX14_sounds_271 rfl (lv_at hl 5 rfl) ?_
                  refine gf_X14_238 F hB dX14_sounds_272 (by exact tx3) ?_
                  refine lv_icmp_ge (tgt := 285) hx hb dX14_sounds_275 (by decide) (fun c275 => ?_) (fun c275 => ?_)
                  · first
                      | have hfin := hI257b
                      | have hfin := hI282b
                      | have hfin := inv_dnw hI224 wC (iW_C hBC (iW_L hB199 i3 tt3 tx3 hbb.1 hbb.2 (m_ltC hBC i3 hbb.1 hbb.2 c237)))
                      | have hfin : Inv eda ia K g n S hw _ := hI224
                    refine lv_iconst (v := 1) hx hb dX14_sounds_285 (by decide) ?_
                    exact sg_iret F hB hrt dX14_sounds_286 (by omega) (by omega) (⟨⟨_, rfl, Or.inl rfl⟩, hfin⟩)
                  · obtain ⟨m1, hm1⟩ := m_evm hB (K := K)
                    refine lv_aload_n hx hb dX14_sounds_278 rfl (lv_at hl 7 rfl) ?_
                    refine lv_iload_n hx hb dX14_sounds_279 rfl (lv_at hl 6 rfl) ?_
                    refine lv_bipush (v := 104) hx hb dX14_sounds_280 (by decide) ?_
                    refine sg_callV (ci := 19) F hB (m_ends l D cy hI224 x 104 wC.1.1 wC.1.2 wC.2.1 wC.2.2.1 wC.2.2.2.1 hm1 _) (cwV 2 F.1.2.2.2.2 (mgV (mm_5 _ (List.mem_of_getElem? (i := 33) rfl)) (mm_5 _ (List.mem_of_getElem? (i := 34) rfl)) (mm_5 _ (List.mem_of_getElem? (i := 35) rfl)) (mm_3 _ (List.mem_of_getElem? (i := 23) rfl)) (mm_5 _ (List.mem_of_getElem? (i := 32) rfl))) rfl rfl rfl ⟨rfl, by decide, by decide, by decide +kernel⟩ ⟨Nat.le_of_ble_eq_true rfl, Nat.le_of_ble_eq_true rfl⟩) rfl rfl (by decide) rfl hl.1 rfl (Nat.le_of_ble_eq_true rfl) dX14_sounds_282 (Nat.le_trans (show _ ≤ 18 from by omega) (Nat.le_of_ble_eq_true rfl)) (Nat.add_le_add_right (Nat.le_trans (show _ ≤ 146 from by omega) (Nat.le_of_ble_eq_true rfl)) _) (inv_A hI224) (fun H locs v σ282 N hBn hX282 hP => ?_)
                    clear hB; have hB := hBn; clear hBn
                    refine W.widen (k := 18) (n := N) (show _ ≤ 18 from by omega) (Nat.le_refl _) ?_
                    have hBn := sgB_up (n2 := 146) hB (show _ ≤ 146 from by omega)
                    clear hB; have hB := hBn; clear hBn
                    obtain ⟨rfl, hI282, en1_282, en2_282, en3_282, en4_282⟩ := hP
                    have hI282b := inv_dne hI224 wC hI282 en1_282 en2_282 en4_282
                    first
                      | have hfin := hI257b
                      | have hfin := hI282b
                      | have hfin := inv_dnw hI282b wC (iW_C hBC (iW_L hB199 i3 tt3 tx3 hbb.1 hbb.2 (m_ltC hBC i3 hbb.1 hbb.2 c237)))
                      | have hfin : Inv eda ia K g n S hw _ := hI282b
                    refine lv_iconst (v := 1) hx hb dX14_sounds_285 (by decide) ?_
                    exact sg_iret F hB hrt dX14_sounds_286 (by omega) (by omega) (⟨⟨_, rfl, Or.inl rfl⟩, hfin⟩)
                · obtain ⟨m1, hm1⟩ := m_evm hB (K := K)
                  refine lv_aload_n hx hb dX14_sounds_240 rfl (lv_at hl 7 rfl) ?_
                  refine lv_iload_n hx hb dX14_sounds_241 rfl (lv_at hl 6 rfl) ?_
                  refine lv_aload hx hb dX14_sounds_242 (lv_at hl 1 rfl) ?_
                  refine gf_X14_371 F hB dX14_sounds_244 (by exact tt3) ?_
                  refine lv_if_eq (tgt := 255) hx hb dX14_sounds_247 (by decide) (fun c247 => ?_) (fun c247 => ?_)
                  · refine lv_bipush (v := 100) hx hb dX14_sounds_255 (by decide) ?_
                    refine sg_callV (ci := 19) F hB (m_ends l D cy hI224 x _ wC.1.1 wC.1.2 wC.2.1 wC.2.2.1 wC.2.2.2.1 hm1 _) (cwV 2 F.1.2.2.2.2 (mgV (mm_5 _ (List.mem_of_getElem? (i := 33) rfl)) (mm_5 _ (List.mem_of_getElem? (i := 34) rfl)) (mm_5 _ (List.mem_of_getElem? (i := 35) rfl)) (mm_3 _ (List.mem_of_getElem? (i := 23) rfl)) (mm_5 _ (List.mem_of_getElem? (i := 32) rfl))) rfl rfl rfl ⟨rfl, by decide, by decide, by decide +kernel⟩ ⟨Nat.le_of_ble_eq_true rfl, Nat.le_of_ble_eq_true rfl⟩) rfl rfl (by decide) rfl hl.1 rfl (Nat.le_of_ble_eq_true rfl) dX14_sounds_257 (Nat.le_trans (show _ ≤ 18 from by omega) (Nat.le_of_ble_eq_true rfl)) (Nat.add_le_add_right (Nat.le_trans (show _ ≤ 146 from by omega) (Nat.le_of_ble_eq_true rfl)) _) (inv_A hI224) (fun H locs v σ257 N hBn hX257 hP => ?_)
                    clear hB; have hB := hBn; clear hBn
                    refine W.widen (k := 18) (n := N) (show _ ≤ 18 from by omega) (Nat.le_refl _) ?_
                    have hBn := sgB_up (n2 := 146) hB (show _ ≤ 146 from by omega)
                    clear hB; have hB := hBn; clear hBn
                    obtain ⟨rfl, hI257, en1_257, en2_257, en3_257, en4_257⟩ := hP
                    have hI257b := inv_dne hI224 wC hI257 en1_257 en2_257 en4_257
                    refine lv_goto (tgt := 285) hx hb dX14_sounds_260 (by decide) ?_
                    first
                      | have hfin := hI257b
                      | have hfin := hI282b
                      | have hfin := inv_dnw hI257b wC (iW_C hBC (iW_L hB199 i3 tt3 tx3 hbb.1 hbb.2 (m_ltC hBC i3 hbb.1 hbb.2 c237)))
                      | have hfin : Inv eda ia K g n S hw _ := hI257b
                    refine lv_iconst (v := 1) hx hb dX14_sounds_285 (by decide) ?_
                    exact sg_iret F hB hrt dX14_sounds_286 (by omega) (by omega) (⟨⟨_, rfl, Or.inl rfl⟩, hfin⟩)
                  · refine lv_bipush (v := 108) hx hb dX14_sounds_250 (by decide) ?_
                    refine lv_goto (tgt := 257) hx hb dX14_sounds_252 (by decide) ?_
                    refine sg_callV (ci := 19) F hB (m_ends l D cy hI224 x _ wC.1.1 wC.1.2 wC.2.1 wC.2.2.1 wC.2.2.2.1 hm1 _) (cwV 2 F.1.2.2.2.2 (mgV (mm_5 _ (List.mem_of_getElem? (i := 33) rfl)) (mm_5 _ (List.mem_of_getElem? (i := 34) rfl)) (mm_5 _ (List.mem_of_getElem? (i := 35) rfl)) (mm_3 _ (List.mem_of_getElem? (i := 23) rfl)) (mm_5 _ (List.mem_of_getElem? (i := 32) rfl))) rfl rfl rfl ⟨rfl, by decide, by decide, by decide +kernel⟩ ⟨Nat.le_of_ble_eq_true rfl, Nat.le_of_ble_eq_true rfl⟩) rfl rfl (by decide) rfl hl.1 rfl (Nat.le_of_ble_eq_true rfl) dX14_sounds_257 (Nat.le_trans (show _ ≤ 18 from by omega) (Nat.le_of_ble_eq_true rfl)) (Nat.add_le_add_right (Nat.le_trans (show _ ≤ 146 from by omega) (Nat.le_of_ble_eq_true rfl)) _) (inv_A hI224) (fun H locs v σ257 N hBn hX257 hP => ?_)
                    clear hB; have hB := hBn; clear hBn
                    refine W.widen (k := 18) (n := N) (show _ ≤ 18 from by omega) (Nat.le_refl _) ?_
                    have hBn := sgB_up (n2 := 146) hB (show _ ≤ 146 from by omega)
                    clear hB; have hB := hBn; clear hBn
                    obtain ⟨rfl, hI257, en1_257, en2_257, en3_257, en4_257⟩ := hP
                    have hI257b := inv_dne hI224 wC hI257 en1_257 en2_257 en4_257
                    refine lv_goto (tgt := 285) hx hb dX14_sounds_260 (by decide) ?_
                    first
                      | have hfin := hI257b
                      | have hfin := hI282b
                      | have hfin := inv_dnw hI257b wC (iW_C hBC (iW_L hB199 i3 tt3 tx3 hbb.1 hbb.2 (m_ltC hBC i3 hbb.1 hbb.2 c237)))
                      | have hfin : Inv eda ia K g n S hw _ := hI257b
                    refine lv_iconst (v := 1) hx hb dX14_sounds_285 (by decide) ?_
                    exact sg_iret F hB hrt dX14_sounds_286 (by omega) (by omega) (⟨⟨_, rfl, Or.inl rfl⟩, hfin⟩)
              · refine lv_iload hx hb dX14_sounds_212 (lv_at hl 3 rfl) ?_
                refine lv_bipush (v := 32) hx hb dX14_sounds_214 (by decide) ?_
                refine lv_icmp_eq (tgt := 223) hx hb dX14_sounds_216 (by decide) (fun c216 => ?_) (fun c216 => ?_)
                · refine lv_iconst (v := 0) hx hb dX14_sounds_223 (by decide) ?_
                  refine pf_X14_371 F hB dX14_sounds_224 (by exact tt3) ⟨by decide, by decide⟩ (fun H locs hBn => ?_)
                  clear hB; have hB := hBn; clear hBn
                  have hI224 := inv_PIc (t := 19) hB hI199 (by exact tt3) (by unfold iCn; omega)
                  have wC := wPp_hB4 hB (wPp_PI wB (Or.inr ⟨fun z => absurd (tt3.symm.trans z) (by decide), fun z => absurd (tt3.symm.trans z) (by decide)⟩) (by exact tp3) (by exact tl3))
                  have hBC := hB
                  refine lv_aload hx hb dX14_sounds_227 (lv_at hl 1 rfl) ?_
                  refine gf_X14_284 F hB dX14_sounds_229 (by exact tt3) ?_
                  refine lv_aload hx hb dX14_sounds_232 (lv_at hl 1 rfl) ?_
                  refine gf_X14_338 F hB dX14_sounds_234 (by exact tt3) ?_
                  refine lv_icmp_lt (tgt := 263) hx hb dX14_sounds_237 (by decide) (fun c237 => ?_) (fun c237 => ?_)
                  · refine lv_aload_n hx hb dX14_sounds_263 rfl (lv_at hl 5 rfl) ?_
                    refine gf_X14_300 F hB dX14_sounds_264 (by exact tx3) ?_
                    refine lv_if_eq (tgt := 285) hx hb dX14_sounds_267 (by decide) (fun c267 => ((hin ((((sgI_nk (by decide)).trans (sgI_nk (by decide))).trans x03).symm.trans c267)) : False).elim) (fun c267 => ?_)
                    refine lv_iload_n hx hb dX14_sounds_270 rfl (lv_at hl 4 rfl) ?_
                    refine lv_aload_n hx hb dX14_sounds_271 rfl (lv_at hl 5 rfl) ?_
                    refine gf_X14_238 F hB dX14_sounds_272 (by exact tx3) ?_
                    refine lv_icmp_ge (tgt := 285) hx hb dX14_sounds_275 (by decide) (fun c275 => ?_) (fun c275 => ?_)
                    · first
                        | have hfin := hI257b
                        | have hfin := hI282b
                        | have hfin := inv_dnw hI224 wC (iW_C hBC (iW_L hB199 i3 tt3 tx3 hbb.1 hbb.2 (m_ltC hBC i3 hbb.1 hbb.2 c237)))
                        | have hfin : Inv eda ia K g n S hw _ := hI224
                      refine lv_iconst (v := 1) hx hb dX14_sounds_285 (by decide) ?_
                      exact sg_iret F hB hrt dX14_sounds_286 (by omega) (by omega) (⟨⟨_, rfl, Or.inl rfl⟩, hfin⟩)
                    · obtain ⟨m1, hm1⟩ := m_evm hB (K := K)
                      refine lv_aload_n hx hb dX14_sounds_278 rfl (lv_at hl 7 rfl) ?_
                      refine lv_iload_n hx hb dX14_sounds_279 rfl (lv_at hl 6 rfl) ?_
                      refine lv_bipush (v := 104) hx hb dX14_sounds_280 (by decide) ?_
                      refine sg_callV (ci := 19) F hB (m_ends l D cy hI224 x 104 wC.1.1 wC.1.2 wC.2.1 wC.2.2.1 wC.2.2.2.1 hm1 _) (cwV 2 F.1.2.2.2.2 (mgV (mm_5 _ (List.mem_of_getElem? (i := 33) rfl)) (mm_5 _ (List.mem_of_getElem? (i := 34) rfl)) (mm_5 _ (List.mem_of_getElem? (i := 35) rfl)) (mm_3 _ (List.mem_of_getElem? (i := 23) rfl)) (mm_5 _ (List.mem_of_getElem? (i := 32) rfl))) rfl rfl rfl ⟨rfl, by decide, by decide, by decide +kernel⟩ ⟨Nat.le_of_ble_eq_true rfl, Nat.le_of_ble_eq_true rfl⟩) rfl rfl (by decide) rfl hl.1 rfl (Nat.le_of_ble_eq_true rfl) dX14_sounds_282 (Nat.le_trans (show _ ≤ 18 from by omega) (Nat.le_of_ble_eq_true rfl)) (Nat.add_le_add_right (Nat.le_trans (show _ ≤ 146 from by omega) (Nat.le_of_ble_eq_true rfl)) _) (inv_A hI224) (fun H locs v σ282 N hBn hX282 hP => ?_)
                      clear hB; have hB := hBn; clear hBn
                      refine W.widen (k := 18) (n := N) (show _ ≤ 18 from by omega) (Nat.le_refl _) ?_
                      have hBn := sgB_up (n2 := 146) hB (show _ ≤ 146 from by omega)
                      clear hB; have hB := hBn; clear hBn
                      obtain ⟨rfl, hI282, en1_282, en2_282, en3_282, en4_282⟩ := hP
                      have hI282b := inv_dne hI224 wC hI282 en1_282 en2_282 en4_282
                      first
                        | have hfin := hI257b
                        | have hfin := hI282b
                        | have hfin := inv_dnw hI282b wC (iW_C hBC (iW_L hB199 i3 tt3 tx3 hbb.1 hbb.2 (m_ltC hBC i3 hbb.1 hbb.2 c237)))
                        | have hfin : Inv eda ia K g n S hw _ := hI282b
                      refine lv_iconst (v := 1) hx hb dX14_sounds_285 (by decide) ?_
                      exact sg_iret F hB hrt dX14_sounds_286 (by omega) (by omega) (⟨⟨_, rfl, Or.inl rfl⟩, hfin⟩)
                  · obtain ⟨m1, hm1⟩ := m_evm hB (K := K)
                    refine lv_aload_n hx hb dX14_sounds_240 rfl (lv_at hl 7 rfl) ?_
                    refine lv_iload_n hx hb dX14_sounds_241 rfl (lv_at hl 6 rfl) ?_
                    refine lv_aload hx hb dX14_sounds_242 (lv_at hl 1 rfl) ?_
                    refine gf_X14_371 F hB dX14_sounds_244 (by exact tt3) ?_
                    refine lv_if_eq (tgt := 255) hx hb dX14_sounds_247 (by decide) (fun c247 => ?_) (fun c247 => ?_)
                    · refine lv_bipush (v := 100) hx hb dX14_sounds_255 (by decide) ?_
                      refine sg_callV (ci := 19) F hB (m_ends l D cy hI224 x _ wC.1.1 wC.1.2 wC.2.1 wC.2.2.1 wC.2.2.2.1 hm1 _) (cwV 2 F.1.2.2.2.2 (mgV (mm_5 _ (List.mem_of_getElem? (i := 33) rfl)) (mm_5 _ (List.mem_of_getElem? (i := 34) rfl)) (mm_5 _ (List.mem_of_getElem? (i := 35) rfl)) (mm_3 _ (List.mem_of_getElem? (i := 23) rfl)) (mm_5 _ (List.mem_of_getElem? (i := 32) rfl))) rfl rfl rfl ⟨rfl, by decide, by decide, by decide +kernel⟩ ⟨Nat.le_of_ble_eq_true rfl, Nat.le_of_ble_eq_true rfl⟩) rfl rfl (by decide) rfl hl.1 rfl (Nat.le_of_ble_eq_true rfl) dX14_sounds_257 (Nat.le_trans (show _ ≤ 18 from by omega) (Nat.le_of_ble_eq_true rfl)) (Nat.add_le_add_right (Nat.le_trans (show _ ≤ 146 from by omega) (Nat.le_of_ble_eq_true rfl)) _) (inv_A hI224) (fun H locs v σ257 N hBn hX257 hP => ?_)
                      clear hB; have hB := hBn; clear hBn
                      refine W.widen (k := 18) (n := N) (show _ ≤ 18 from by omega) (Nat.le_refl _) ?_
                      have hBn := sgB_up (n2 := 146) hB (show _ ≤ 146 from by omega)
                      clear hB; have hB := hBn; clear hBn
                      obtain ⟨rfl, hI257, en1_257, en2_257, en3_257, en4_257⟩ := hP
                      have hI257b := inv_dne hI224 wC hI257 en1_257 en2_257 en4_257
                      refine lv_goto (tgt := 285) hx hb dX14_sounds_260 (by decide) ?_
                      first
                        | have hfin := hI257b
                        | have hfin := hI282b
                        | have hfin := inv_dnw hI257b wC (iW_C hBC (iW_L hB199 i3 tt3 tx3 hbb.1 hbb.2 (m_ltC hBC i3 hbb.1 hbb.2 c237)))
                        | have hfin : Inv eda ia K g n S hw _ := hI257b
                      refine lv_iconst (v := 1) hx hb dX14_sounds_285 (by decide) ?_
                      exact sg_iret F hB hrt dX14_sounds_286 (by omega) (by omega) (⟨⟨_, rfl, Or.inl rfl⟩, hfin⟩)
                    · refine lv_bipush (v := 108) hx hb dX14_sounds_250 (by decide) ?_
                      refine lv_goto (tgt := 257) hx hb dX14_sounds_252 (by decide) ?_
                      refine sg_callV (ci := 19) F hB (m_ends l D cy hI224 x _ wC.1.1 wC.1.2 wC.2.1 wC.2.2.1 wC.2.2.2.1 hm1 _) (cwV 2 F.1.2.2.2.2 (mgV (mm_5 _ (List.mem_of_getElem? (i := 33) rfl)) (mm_5 _ (List.mem_of_getElem? (i := 34) rfl)) (mm_5 _ (List.mem_of_getElem? (i := 35) rfl)) (mm_3 _ (List.mem_of_getElem? (i := 23) rfl)) (mm_5 _ (List.mem_of_getElem? (i := 32) rfl))) rfl rfl rfl ⟨rfl, by decide, by decide, by decide +kernel⟩ ⟨Nat.le_of_ble_eq_true rfl, Nat.le_of_ble_eq_true rfl⟩) rfl rfl (by decide) rfl hl.1 rfl (Nat.le_of_ble_eq_true rfl) dX14_sounds_257 (Nat.le_trans (show _ ≤ 18 from by omega) (Nat.le_of_ble_eq_true rfl)) (Nat.add_le_add_right (Nat.le_trans (show _ ≤ 146 from by omega) (Nat.le_of_ble_eq_true rfl)) _) (inv_A hI224) (fun H locs v σ257 N hBn hX257 hP => ?_)
                      clear hB; have hB := hBn; clear hBn
                      refine W.widen (k := 18) (n := N) (show _ ≤ 18 from by omega) (Nat.le_refl _) ?_
                      have hBn := sgB_up (n2 := 146) hB (show _ ≤ 146 from by omega)
                      clear hB; have hB := hBn; clear hBn
                      obtain ⟨rfl, hI257, en1_257, en2_257, en3_257, en4_257⟩ := hP
                      have hI257b := inv_dne hI224 wC hI257 en1_257 en2_257 en4_257
                      refine lv_goto (tgt := 285) hx hb dX14_sounds_260 (by decide) ?_
                      first
                        | have hfin := hI257b
                        | have hfin := hI282b
                        | have hfin := inv_dnw hI257b wC (iW_C hBC (iW_L hB199 i3 tt3 tx3 hbb.1 hbb.2 (m_ltC hBC i3 hbb.1 hbb.2 c237)))
                        | have hfin : Inv eda ia K g n S hw _ := hI257b
                      refine lv_iconst (v := 1) hx hb dX14_sounds_285 (by decide) ?_
                      exact sg_iret F hB hrt dX14_sounds_286 (by omega) (by omega) (⟨⟨_, rfl, Or.inl rfl⟩, hfin⟩)
                · refine lv_iconst (v := 1) hx hb dX14_sounds_219 (by decide) ?_
                  refine lv_goto (tgt := 224) hx hb dX14_sounds_220 (by decide) ?_
                  refine pf_X14_371 F hB dX14_sounds_224 (by exact tt3) ⟨by decide, by decide⟩ (fun H locs hBn => ?_)
                  clear hB; have hB := hBn; clear hBn
                  have hI224 := inv_PIc (t := 19) hB hI199 (by exact tt3) (by unfold iCn; omega)
                  have wC := wPp_hB4 hB (wPp_PI wB (Or.inr ⟨fun z => absurd (tt3.symm.trans z) (by decide), fun z => absurd (tt3.symm.trans z) (by decide)⟩) (by exact tp3) (by exact tl3))
                  have hBC := hB
                  refine lv_aload hx hb dX14_sounds_227 (lv_at hl 1 rfl) ?_
                  refine gf_X14_284 F hB dX14_sounds_229 (by exact tt3) ?_
                  refine lv_aload hx hb dX14_sounds_232 (lv_at hl 1 rfl) ?_
                  refine gf_X14_338 F hB dX14_sounds_234 (by exact tt3) ?_
                  refine lv_icmp_lt (tgt := 263) hx hb dX14_sounds_237 (by decide) (fun c237 => ?_) (fun c237 => ?_)
                  · refine lv_aload_n hx hb dX14_sounds_263 rfl (lv_at hl 5 rfl) ?_
                    refine gf_X14_300 F hB dX14_sounds_264 (by exact tx3) ?_
                    refine lv_if_eq (tgt := 285) hx hb dX14_sounds_267 (by decide) (fun c267 => ((hin ((((sgI_nk (by decide)).trans (sgI_nk (by decide))).trans x03).symm.trans c267)) : False).elim) (fun c267 => ?_)
                    refine lv_iload_n hx hb dX14_sounds_270 rfl (lv_at hl 4 rfl) ?_
                    refine lv_aload_n hx hb dX14_sounds_271 rfl (lv_at hl 5 rfl) ?_
                    refine gf_X14_238 F hB dX14_sounds_272 (by exact tx3) ?_
                    refine lv_icmp_ge (tgt := 285) hx hb dX14_sounds_275 (by decide) (fun c275 => ?_) (fun c275 => ?_)
                    · first
                        | have hfin := hI257b
                        | have hfin := hI282b
                        | have hfin := inv_dnw hI224 wC (iW_C hBC (iW_L hB199 i3 tt3 tx3 hbb.1 hbb.2 (m_ltC hBC i3 hbb.1 hbb.2 c237)))
                        | have hfin : Inv eda ia K g n S hw _ := hI224
                      refine lv_iconst (v := 1) hx hb dX14_sounds_285 (by decide) ?_
                      exact sg_iret F hB hrt dX14_sounds_286 (by omega) (by omega) (⟨⟨_, rfl, Or.inl rfl⟩, hfin⟩)
                    · obtain ⟨m1, hm1⟩ := m_evm hB (K := K)
                      refine lv_aload_n hx hb dX14_sounds_278 rfl (lv_at hl 7 rfl) ?_
                      refine lv_iload_n hx hb dX14_sounds_279 rfl (lv_at hl 6 rfl) ?_
                      refine lv_bipush (v := 104) hx hb dX14_sounds_280 (by decide) ?_
                      refine sg_callV (ci := 19) F hB (m_ends l D cy hI224 x 104 wC.1.1 wC.1.2 wC.2.1 wC.2.2.1 wC.2.2.2.1 hm1 _) (cwV 2 F.1.2.2.2.2 (mgV (mm_5 _ (List.mem_of_getElem? (i := 33) rfl)) (mm_5 _ (List.mem_of_getElem? (i := 34) rfl)) (mm_5 _ (List.mem_of_getElem? (i := 35) rfl)) (mm_3 _ (List.mem_of_getElem? (i := 23) rfl)) (mm_5 _ (List.mem_of_getElem? (i := 32) rfl))) rfl rfl rfl ⟨rfl, by decide, by decide, by decide +kernel⟩ ⟨Nat.le_of_ble_eq_true rfl, Nat.le_of_ble_eq_true rfl⟩) rfl rfl (by decide) rfl hl.1 rfl (Nat.le_of_ble_eq_true rfl) dX14_sounds_282 (Nat.le_trans (show _ ≤ 18 from by omega) (Nat.le_of_ble_eq_true rfl)) (Nat.add_le_add_right (Nat.le_trans (show _ ≤ 146 from by omega) (Nat.le_of_ble_eq_true rfl)) _) (inv_A hI224) (fun H locs v σ282 N hBn hX282 hP => ?_)
                      clear hB; have hB := hBn; clear hBn
                      refine W.widen (k := 18) (n := N) (show _ ≤ 18 from by omega) (Nat.le_refl _) ?_
                      have hBn := sgB_up (n2 := 146) hB (show _ ≤ 146 from by omega)
                      clear hB; have hB := hBn; clear hBn
                      obtain ⟨rfl, hI282, en1_282, en2_282, en3_282, en4_282⟩ := hP
                      have hI282b := inv_dne hI224 wC hI282 en1_282 en2_282 en4_282
                      first
                        | have hfin := hI257b
                        | have hfin := hI282b
                        | have hfin := inv_dnw hI282b wC (iW_C hBC (iW_L hB199 i3 tt3 tx3 hbb.1 hbb.2 (m_ltC hBC i3 hbb.1 hbb.2 c237)))
                        | have hfin : Inv eda ia K g n S hw _ := hI282b
                      refine lv_iconst (v := 1) hx hb dX14_sounds_285 (by decide) ?_
                      exact sg_iret F hB hrt dX14_sounds_286 (by omega) (by omega) (⟨⟨_, rfl, Or.inl rfl⟩, hfin⟩)
                  · obtain ⟨m1, hm1⟩ := m_evm hB (K := K)
                    refine lv_aload_n hx hb dX14_sounds_240 rfl (lv_at hl 7 rfl) ?_
                    refine lv_iload_n hx hb dX14_sounds_241 rfl (lv_at hl 6 rfl) ?_
                    refine lv_aload hx hb dX14_sounds_242 (lv_at hl 1 rfl) ?_
                    refine gf_X14_371 F hB dX14_sounds_244 (by exact tt3) ?_
                    refine lv_if_eq (tgt := 255) hx hb dX14_sounds_247 (by decide) (fun c247 => ?_) (fun c247 => ?_)
                    · refine lv_bipush (v := 100) hx hb dX14_sounds_255 (by decide) ?_
                      refine sg_callV (ci := 19) F hB (m_ends l D cy hI224 x _ wC.1.1 wC.1.2 wC.2.1 wC.2.2.1 wC.2.2.2.1 hm1 _) (cwV 2 F.1.2.2.2.2 (mgV (mm_5 _ (List.mem_of_getElem? (i := 33) rfl)) (mm_5 _ (List.mem_of_getElem? (i := 34) rfl)) (mm_5 _ (List.mem_of_getElem? (i := 35) rfl)) (mm_3 _ (List.mem_of_getElem? (i := 23) rfl)) (mm_5 _ (List.mem_of_getElem? (i := 32) rfl))) rfl rfl rfl ⟨rfl, by decide, by decide, by decide +kernel⟩ ⟨Nat.le_of_ble_eq_true rfl, Nat.le_of_ble_eq_true rfl⟩) rfl rfl (by decide) rfl hl.1 rfl (Nat.le_of_ble_eq_true rfl) dX14_sounds_257 (Nat.le_trans (show _ ≤ 18 from by omega) (Nat.le_of_ble_eq_true rfl)) (Nat.add_le_add_right (Nat.le_trans (show _ ≤ 146 from by omega) (Nat.le_of_ble_eq_true rfl)) _) (inv_A hI224) (fun H locs v σ257 N hBn hX257 hP => ?_)
                      clear hB; have hB := hBn; clear hBn
                      refine W.widen (k := 18) (n := N) (show _ ≤ 18 from by omega) (Nat.le_refl _) ?_
                      have hBn := sgB_up (n2 := 146) hB (show _ ≤ 146 from by omega)
                      clear hB; have hB := hBn; clear hBn
                      obtain ⟨rfl, hI257, en1_257, en2_257, en3_257, en4_257⟩ := hP
                      have hI257b := inv_dne hI224 wC hI257 en1_257 en2_257 en4_257
                      refine lv_goto (tgt := 285) hx hb dX14_sounds_260 (by decide) ?_
                      first
                        | have hfin := hI257b
                        | have hfin := hI282b
                        | have hfin := inv_dnw hI257b wC (iW_C hBC (iW_L hB199 i3 tt3 tx3 hbb.1 hbb.2 (m_ltC hBC i3 hbb.1 hbb.2 c237)))
                        | have hfin : Inv eda ia K g n S hw _ := hI257b
                      refine lv_iconst (v := 1) hx hb dX14_sounds_285 (by decide) ?_
                      exact sg_iret F hB hrt dX14_sounds_286 (by omega) (by omega) (⟨⟨_, rfl, Or.inl rfl⟩, hfin⟩)
                    · refine lv_bipush (v := 108) hx hb dX14_sounds_250 (by decide) ?_
                      refine lv_goto (tgt := 257) hx hb dX14_sounds_252 (by decide) ?_
                      refine sg_callV (ci := 19) F hB (m_ends l D cy hI224 x _ wC.1.1 wC.1.2 wC.2.1 wC.2.2.1 wC.2.2.2.1 hm1 _) (cwV 2 F.1.2.2.2.2 (mgV (mm_5 _ (List.mem_of_getElem? (i := 33) rfl)) (mm_5 _ (List.mem_of_getElem? (i := 34) rfl)) (mm_5 _ (List.mem_of_getElem? (i := 35) rfl)) (mm_3 _ (List.mem_of_getElem? (i := 23) rfl)) (mm_5 _ (List.mem_of_getElem? (i := 32) rfl))) rfl rfl rfl ⟨rfl, by decide, by decide, by decide +kernel⟩ ⟨Nat.le_of_ble_eq_true rfl, Nat.le_of_ble_eq_true rfl⟩) rfl rfl (by decide) rfl hl.1 rfl (Nat.le_of_ble_eq_true rfl) dX14_sounds_257 (Nat.le_trans (show _ ≤ 18 from by omega) (Nat.le_of_ble_eq_true rfl)) (Nat.add_le_add_right (Nat.le_trans (show _ ≤ 146 from by omega) (Nat.le_of_ble_eq_true rfl)) _) (inv_A hI224) (fun H locs v σ257 N hBn hX257 hP => ?_)
                      clear hB; have hB := hBn; clear hBn
                      refine W.widen (k := 18) (n := N) (show _ ≤ 18 from by omega) (Nat.le_refl _) ?_
                      have hBn := sgB_up (n2 := 146) hB (show _ ≤ 146 from by omega)
                      clear hB; have hB := hBn; clear hBn
                      obtain ⟨rfl, hI257, en1_257, en2_257, en3_257, en4_257⟩ := hP
                      have hI257b := inv_dne hI224 wC hI257 en1_257 en2_257 en4_257
                      refine lv_goto (tgt := 285) hx hb dX14_sounds_260 (by decide) ?_
                      first
                        | have hfin := hI257b
                        | have hfin := hI282b
                        | have hfin := inv_dnw hI257b wC (iW_C hBC (iW_L hB199 i3 tt3 tx3 hbb.1 hbb.2 (m_ltC hBC i3 hbb.1 hbb.2 c237)))
                        | have hfin : Inv eda ia K g n S hw _ := hI257b
                      refine lv_iconst (v := 1) hx hb dX14_sounds_285 (by decide) ?_
                      exact sg_iret F hB hrt dX14_sounds_286 (by omega) (by omega) (⟨⟨_, rfl, Or.inl rfl⟩, hfin⟩)
            · have hi4 := i_nle c92
              refine lv_aload_n hx hb dX14_sounds_95 rfl (lv_at hl 5 rfl) ?_
              refine gf_X14_300 F hB dX14_sounds_96 tx3 ?_
              refine lv_if_eq (tgt := 119) hx hb dX14_sounds_99 (by decide) (fun c99 => ((hin ((x03).symm.trans c99)) : False).elim) (fun c99 => ?_)
              have h03 : 0 < sgSz σ3 le := by omega
              obtain ⟨r1, za, zb⟩ := (inv_LS hI3).1 _ tle3 id
              have gs := sgLz_s za h03
              obtain ⟨t9, v1, v2⟩ := inv_L hI3 le tle3 0 h03
              refine lv_aload_n hx hb dX14_sounds_102 rfl (lv_at hl 5 rfl) ?_
              refine gr_X14_320 F hB dX14_sounds_103 tx3 hle3 ?_
              refine lv_iconst (v := 0) hx hb dX14_sounds_106 (by decide) ?_
              refine sg_callV (ci := 4) F hB (m_remove0 l D cy gs h03 (fun j y _ hy => (inv_LS hI3).2.2.1 r1 j y gs.2.2.1 hy) (by rw [← sgAt_of gs.2.1]; exact v1) _) (cwV 1 F.1.2.2.2.2 (mgV (mm_5 _ (List.mem_of_getElem? (i := 29) rfl)) (mm_5 _ (List.mem_of_getElem? (i := 30) rfl)) (mm_5 _ (List.mem_of_getElem? (i := 31) rfl)) (mm_0 _ (List.mem_of_getElem? (i := 35) rfl)) (mm_5 _ (List.mem_of_getElem? (i := 21) rfl))) rfl rfl rfl ⟨rfl, by decide, by decide, by decide +kernel⟩ ⟨Nat.le_of_ble_eq_true rfl, Nat.le_of_ble_eq_true rfl⟩) rfl rfl (by decide) rfl hl.1 rfl (Nat.le_of_ble_eq_true rfl) dX14_sounds_107 (by show _ ≤ 18; omega) (Nat.add_le_add_right (by omega) _) tle3 (fun H locs v σ107 N hBn hX107 hP => ?_)
              clear hB; have hB := hBn; clear hBn
              obtain ⟨rfl, ho, ho1, ho2, ho3, ho4⟩ := hP
              obtain ⟨hI107, rm1, rm2, rm3, rm4, rm5⟩ := inv_rm hI3 gs h03 ho ho1 ho3 ho2 ho4 (fun z => absurd (rle.symm.trans z) (by decide)) (fun _ _ => Or.inr (by rw [ole, hz4]; exact hkp))
              have hbx0 : sgBx ia σ107 t9 := sgBx_mono (fun a _ => ho.1 a) (by unfold iEl at v2; rw [rle] at v2; exact v2)
              have zr107 : zR l1 σ3 σ107 := zR_l (l2 := le) (fun a _ => ho.1 a) (fun a k _ h5 => ho.2.2.1 a k (fun z => h5 (by rw [z]; exact tle3))) rm5 rm4 tl3 nle
              have i107 : ∀ k, sgI σ107 xe k = sgI σ3 xe k := fun k => ho.2.2.1 xe k (fun z => by rw [z, tle3] at tx3; exact absurd tx3 (by decide))
              have tx107 := tFr_T zr107.1 tx3 (by decide)
              have tl107 := tFr_T zr107.1 tl3 (by decide)
              have tle107 : sgT σ107 le = 5 := (ho.1 le).1.trans tle3
              have sG107 : sgSz σ107 (kG K) = sgSz σ3 (kG K) := (rm4 _ (inv_tG hI3).1 (fun z => z.elim id (fun w => nleG w.symm))).1
              refine va_castY hx hb hown (F.1.2.2.2.2 _ (List.mem_cons_of_mem _ (mm_8 _ (List.mem_of_getElem? (i := 3) rfl)))) (F.2.2.1.2.2 ("java/lang/Integer", "java/lang/Integer") (by decide +kernel)) (sg_rbx F hB hbx0) dX14_sounds_110 ?_
              refine sg_callVr F hB (m_unbox l D cy hbx0 _) (cwV 0 F.1.2.2.2.2 (mgV (mm_8 _ (List.mem_of_getElem? (i := 5) rfl)) (mm_8 _ (List.mem_of_getElem? (i := 6) rfl)) (mm_8 _ (List.mem_of_getElem? (i := 7) rfl)) (mm_7 _ (List.mem_of_getElem? (i := 30) rfl)) (mm_8 _ (List.mem_of_getElem? (i := 1) rfl))) rfl rfl rfl ⟨rfl, by decide, by decide, by decide +kernel⟩ ⟨Nat.le_of_ble_eq_true rfl, Nat.le_of_ble_eq_true rfl⟩) rfl hl.1 rfl (Nat.le_of_ble_eq_true rfl) dX14_sounds_113 (by show _ ≤ 18; omega) (Nat.add_le_add_right (by omega) _) (sg_rbx F hB hbx0) (fun H locs v σ113 N hBn hX113 hP => ?_)
              clear hB; have hB := hBn; clear hBn
              obtain ⟨⟨w113, rfl⟩, rfl⟩ := hP
              refine lv_goto (tgt := 133) hx hb dX14_sounds_116 (by decide) ?_
              refine lv_istore (lv' := [(8, .int _), (7, .int _), (6, .ref _), (5, .ref _), (4, .int _), (3, .int _), (2, .ref _), (1, .int _), (0, .ref _)]) hx hb dX14_sounds_133 hl (by decide) rfl (fun ls hl => ?_)
              refine lv_iload hx hb dX14_sounds_135 (lv_at hl 4 rfl) ?_
              refine lv_bipush (v := 32) hx hb dX14_sounds_137 (by decide) ?_
              refine lv_icmp_ne (tgt := 165) hx hb dX14_sounds_139 (by decide) (fun c139 => ?_) (fun c139 => ?_)
              · refine lv_iload hx hb dX14_sounds_165 (lv_at hl 4 rfl) ?_
                refine lv_bipush (v := 32) hx hb dX14_sounds_167 (by decide) ?_
                refine lv_icmp_ne (tgt := 185) hx hb dX14_sounds_169 (by decide) (fun c169 => ?_) (fun c169 => ((c139 c169) : False).elim)
                refine lv_iinc (lv' := [(7, .int _), (8, .int _), (6, .ref _), (5, .ref _), (4, .int _), (3, .int _), (2, .ref _), (1, .int _), (0, .ref _)]) hx hb dX14_sounds_185 hl (k := 1) rfl rfl (by decide) rfl (fun ls hl => ?_)
                refine lv_goto (tgt := 89) hx hb dX14_sounds_188 (by decide) ?_
                have hi3 := i_nle c92
                have e9 : (k9 + Int32.ofInt 1).toInt = k9.toInt + 1 := m_add1 (by omega) (by omega)
                first
                  | exact ih89 _ (by subst hd89; rw [e9]; omega) _ _ _ _ _ _ _ _ hB (lv_sub hl [0, 2, 3, 4, 5, 6, 7, 8] rfl) hI158 ⟨by rw [e9]; omega, by rw [e9]; omega⟩ (by rw [e9, l158, rm2]; omega) (by rw [e9, ada158, sG5]; omega) ⟨by rw [e9]; show kc + 0 + 0 + 1 + 1 ≤ _; omega, by rw [e9]; omega⟩ (x158.trans hz4) z158 rfl
                  | exact ih89 _ (by subst hd89; rw [e9]; omega) _ _ _ _ _ _ _ _ hB (lv_sub hl [0, 2, 3, 4, 5, 6, 7, 8] rfl) hI107 ⟨by rw [e9]; omega, by rw [e9]; omega⟩ (by rw [e9, rm2]; omega) (by rw [e9, sG107]; omega) ⟨by rw [e9]; show kc + 0 + 0 ≤ _; omega, by rw [e9]; omega⟩ ((i107 4).trans hz4) (zR_tr hzr zr107) rfl
              · refine lv_aload_n hx hb dX14_sounds_142 rfl (lv_at hl 6 rfl) ?_
                refine gf_X14_300 F hB dX14_sounds_143 tx107 ?_
                refine lv_if_eq (tgt := 165) hx hb dX14_sounds_146 (by decide) (fun c146 => ((hin (((i107 0).trans x03).symm.trans c146)) : False).elim) (fun c146 => ?_)
                refine lv_aload_n hx hb dX14_sounds_149 rfl (lv_at hl 8 rfl) ?_
                refine gr_X14_35 F hB dX14_sounds_150 (inv_A hI107) (inv_r8 hI107) ?_
                refine lv_iload hx hb dX14_sounds_153 (lv_at hl 0 rfl) ?_
                refine sg_callS F hB (m_box l D cy _ _) (va_cwS 1 F.1.2.2.2.2 (mgS2 (mm_7 _ (List.mem_of_getElem? (i := 33) rfl)) (mm_7 _ (List.mem_of_getElem? (i := 34) rfl)) (mm_7 _ (List.mem_of_getElem? (i := 30) rfl)) (mm_7 _ (List.mem_of_getElem? (i := 25) rfl))) rfl rfl rfl ⟨by decide, by decide, by decide +kernel⟩ ⟨Nat.le_of_ble_eq_true rfl, Nat.le_of_ble_eq_true rfl⟩) rfl hl.1 rfl (Nat.le_of_ble_eq_true rfl) dX14_sounds_155 (by show _ ≤ 18; omega) (Nat.add_le_add_right (by omega) _)  (fun H locs v σ155 N hBn hX155 hP => ?_)
                clear hB; have hB := hBn; clear hBn
                obtain ⟨y155, rfl, hbx, hqt⟩ := hP
                have ed5 := sg_eda F hB
                have hI155 := inv_Qt hI107 hqt ed5
                have tG5 := (inv_tG hI155).1
                have sG5 : sgSz σ155 (kG K) = sgSz σ3 (kG K) := (sgSz_Qt hqt (inv_tG hI107).1).trans sG107
                have z5 := zR_Qt hI107 hqt ed5 tl107
                have lq5 := inv_LqQt hI107 hqt ed5
                obtain ⟨ra158, za158, zb158⟩ := (inv_LS hI155).1 _ tG5 id
                refine sg_callV (ci := 4) F hB (m_add l D cy za158 (fun j y h1 h2 => (inv_LS hI155).2.2.1 ra158 j y h1 h2) y155 (iEl_K (l0 := _) (g := g) (j := 0) (by unfold iEl; rw [(inv_tG h).2]; exact hbx)) zb158 _) (cwV 1 F.1.2.2.2.2 (mgV (mm_3 _ (List.mem_of_getElem? (i := 9) rfl)) (mm_3 _ (List.mem_of_getElem? (i := 10) rfl)) (mm_3 _ (List.mem_of_getElem? (i := 11) rfl)) (mm_0 _ (List.mem_of_getElem? (i := 35) rfl)) (mm_2 _ (List.mem_of_getElem? (i := 29) rfl))) rfl rfl rfl ⟨rfl, by decide, by decide, by decide +kernel⟩ ⟨Nat.le_of_ble_eq_true rfl, Nat.le_of_ble_eq_true rfl⟩) rfl rfl (by decide) rfl hl.1 rfl (Nat.le_of_ble_eq_true rfl) dX14_sounds_158 (by show _ ≤ 18; omega) (Nat.add_le_add_right (by omega) _) tG5 (fun H locs v σ158 N hBn hX158 hP => ?_)
                clear hB; have hB := hBn; clear hBn
                obtain ⟨rfl, hAd158⟩ := hP
                obtain ⟨hI158, ada158, adb158, adc158, add158, ade158, adf158, adg158, adh158⟩ := inv_ad hI155 tG5 za158 hAd158 (sg_eda F hB) (by unfold iEl; rw [(inv_tG h).2]; exact hbx) (by rw [(inv_tG h).2]; refine inv_cap ?_ (Or.inl rfl); rw [sG5]; omega) (Or.inl ⟨inv_nD hI155 (by rw [(inv_tG h).2]; decide), rfl⟩) (nr7 (inv_tG h).2 (by decide))
                have z158 : zR l1 σ σ158 := zR_tr hzr (zR_tr zr107 (zR_tr z5 (zR_l (l2 := kG K) add158 adf158 adg158 adh158 (tFr_T z5.1 tl107 (by decide)) nlG)))
                have l158 : sgSz σ158 le = sgSz σ107 le := ((adh158 le (tFr_T z5.1 tle107 (by decide)) (fun z => z.elim id nleG)).1).trans (lq5 le tle107 id).1
                have x158 : sgI σ158 xe 4 = sgI σ3 xe 4 := ((adf158 xe 4 (by rw [tFr_T z5.1 tx107 (by decide)]; decide) (by rw [tFr_T z5.1 tx107 (by decide)]; decide)).trans (((hqt.1 xe (by rw [tx107]; decide)).2.2 4).1)).trans (i107 4)
                refine lv_pop hx hb dX14_sounds_161 rfl ?_
                refine lv_goto (tgt := 185) hx hb dX14_sounds_162 (by decide) ?_
                refine lv_iinc (lv' := [(7, .int _), (8, .int _), (6, .ref _), (5, .ref _), (4, .int _), (3, .int _), (2, .ref _), (1, .int _), (0, .ref _)]) hx hb dX14_sounds_185 hl (k := 1) rfl rfl (by decide) rfl (fun ls hl => ?_)
                refine lv_goto (tgt := 89) hx hb dX14_sounds_188 (by decide) ?_
                have hi3 := i_nle c92
                have e9 : (k9 + Int32.ofInt 1).toInt = k9.toInt + 1 := m_add1 (by omega) (by omega)
                first
                  | exact ih89 _ (by subst hd89; rw [e9]; omega) _ _ _ _ _ _ _ _ hB (lv_sub hl [0, 2, 3, 4, 5, 6, 7, 8] rfl) hI158 ⟨by rw [e9]; omega, by rw [e9]; omega⟩ (by rw [e9, l158, rm2]; omega) (by rw [e9, ada158, sG5]; omega) ⟨by rw [e9]; show kc + 0 + 0 + 1 + 1 ≤ _; omega, by rw [e9]; omega⟩ (x158.trans hz4) z158 rfl
                  | exact ih89 _ (by subst hd89; rw [e9]; omega) _ _ _ _ _ _ _ _ hB (lv_sub hl [0, 2, 3, 4, 5, 6, 7, 8] rfl) hI107 ⟨by rw [e9]; omega, by rw [e9]; omega⟩ (by rw [e9, rm2]; omega) (by rw [e9, sG107]; omega) ⟨by rw [e9]; show kc + 0 + 0 ≤ _; omega, by rw [e9]; omega⟩ ((i107 4).trans hz4) (zR_tr hzr zr107) rfl
          · refine lv_iload hx hb dX14_sounds_70 (lv_at hl 6 rfl) ?_
            refine lv_bipush (v := 97) hx hb dX14_sounds_72 (by decide) ?_
            refine lv_icmp_ne (tgt := 81) hx hb dX14_sounds_74 (by decide) (fun c74 => ?_) (fun c74 => ?_)
            · refine lv_iconst (v := 0) hx hb dX14_sounds_81 (by decide) ?_
              refine lv_iadd hx hb dX14_sounds_82 ?_
              refine pf_X14_366 F hB dX14_sounds_83 (inv_A h) (fun H locs hBn => ?_)
              clear hB; have hB := hBn; clear hBn
              have hI83 := inv_PIc (t := 20) hB h (inv_A h) (by unfold iCn; omega)
              have z83 := zPIB (l1 := l1) (t := 20) hB (inv_A h) (by decide) tl
              have hb0 := i_nle c48
              rw [m_i0] at hb0
              obtain ⟨kc, hkc⟩ : ∃ kc : Nat, kc = 0 := ⟨_, rfl⟩
              refine W.widen (k := kc) (n := N) (by omega) (Nat.le_refl _) ?_
              refine lv_iconst (v := 0) hx hb dX14_sounds_86 (by decide) ?_
              refine lv_istore (lv' := [(7, .int _), (6, .ref _), (5, .ref _), (0, .ref _), (1, .int _), (2, .ref _), (3, .int _), (4, .int _)]) hx hb dX14_sounds_87 hl (by decide) rfl (fun ls hl => ?_)
              have key89 : ∃ (σ3 : SG) (k9 : Int32) (nc : Nat), sgB D cy s σ σ3 H locs N nc ∧ lv_has ls 9 [(7, .int k9), (6, .ref t0), (5, .ref pp), (4, .int f0), (3, .int b), (2, .ref xe), (1, .int x), (0, .ref (kA K))] ∧ Inv eda ia K g n S hw σ3 ∧ (0 ≤ k9.toInt ∧ k9.toInt ≤ b.toInt) ∧ sgSz σ3 le = sgSz σ le - k9.toInt.toNat ∧ sgSz σ3 (kG K) ≤ sgSz σ (kG K) + k9.toInt.toNat ∧ (kc ≤ 2 * k9.toInt.toNat ∧ nc ≤ 16 * k9.toInt.toNat) ∧ sgI σ3 xe 4 = sgI σ xe 4 ∧ zR l1 σ σ3 := ⟨_, _, _, hB, (lv_sub hl [0, 1, 2, 7, 6, 5, 4, 3] rfl), hI83, ⟨by decide, by rw [m_i0]; omega⟩, by rw [m_i0]; exact (sgSz_nk (by decide)).trans rfl, by rw [m_i0]; exact Nat.le_of_eq (sgSz_nk (by decide)), ⟨by omega, by omega⟩, sgI_nk (by decide), z83⟩
              clear hB hl hkc
              obtain ⟨σ3, k9, nc, hB, hl, hI3, hi, hzl, hzG, hkn, hz4, hzr⟩ := key89
              obtain ⟨d89, hd89⟩ : ∃ d : Nat, d = (b.toInt - k9.toInt).toNat := ⟨_, rfl⟩
              induction d89 using Nat.strongRecOn generalizing H locs ls N σ3 k9 nc kc
              rename_i d89 ih89
              have tx3 : sgT σ3 xe = 17 := tFr_T hzr.1 txe (by decide)
              have tp3 : sgT σ3 pp = 18 := tFr_T hzr.1 tp (by decide)
              have tle3 : sgT σ3 le = 5 := tFr_T hzr.1 tle (by decide)
              have hle3 : sgR σ3 xe 3 = some le := (hzr.2.2.2.2.1 xe 3 (by rw [txe]; decide)).trans hle
              have tl3 : sgT σ3 l1 = 5 := tFr_T hzr.1 tl (by decide)
              have tt3 : sgT σ3 t0 = 19 := tFr_T hzr.1 tt (by decide)
              have d3 : sgI σ3 t0 2 = sgI σ t0 2 := hzr.2.1 t0 2 tt
              have x03 : sgI σ3 xe 0 = sgI σ xe 0 := hzr.2.2.2.1 xe 0 txe (by decide)
              refine lv_iload hx hb dX14_sounds_89 (lv_at hl 0 rfl) ?_
              refine lv_iload_n hx hb dX14_sounds_91 rfl (lv_at hl 4 rfl) ?_
              refine lv_icmp_ge (tgt := 191) hx hb dX14_sounds_92 (by decide) (fun c92 => ?_) (fun c92 => ?_)
              · have hi4 := i_le c92
                refine W.widen (k := 16) (n := N) (show kc ≤ 16 from by omega) (Nat.le_refl _) ?_
                have hBn := sgB_up (n2 := 128) hB (show nc ≤ 128 from by omega)
                clear hB; have hB := hBn; clear hBn
                refine lv_aload hx hb dX14_sounds_191 (lv_at hl 1 rfl) ?_
                refine lv_dup hx hb dX14_sounds_193 rfl ?_
                refine gf_X14_284 F hB dX14_sounds_194 tt3 ?_
                refine lv_iload_n hx hb dX14_sounds_197 rfl (lv_at hl 4 rfl) ?_
                refine lv_iadd hx hb dX14_sounds_198 ?_
                refine pf_X14_284 F hB dX14_sounds_199 tt3 (fun H locs hBn => ?_)
                clear hB; have hB := hBn; clear hBn
                have hI199 := inv_dnB hB hI3 tt3
                have w3 := wPp_z h wc hzr
                have wB := wPp_hB hB (wPp_PI w3 (Or.inr ⟨fun z => absurd (tt3.symm.trans z) (by decide), fun z => absurd (tt3.symm.trans z) (by decide)⟩) tp3 tl3)
                have hB199 := hB
                have i3 := iW_tr hzr.1 (inv_T h) tt (hzr.2.1 t0 1 tt) (hzr.2.1 t0 2 tt) x03 (hzr.2.2.2.2.1 t0 0 (by rw [tt]; decide)) ⟨iw1, iw2, iw3, iw4⟩
                refine lv_aload hx hb dX14_sounds_202 (lv_at hl 1 rfl) ?_
                refine lv_aload hx hb dX14_sounds_204 (lv_at hl 1 rfl) ?_
                refine gf_X14_371 F hB dX14_sounds_206 (by exact tt3) ?_
                refine lv_if_ne (tgt := 219) hx hb dX14_sounds_209 (by decide) (fun c209 => ?_) (fun c209 => ?_)
                · refine lv_iconst (v := 1) hx hb dX14_sounds_219 (by decide) ?_
                  refine lv_goto (tgt := 224) hx hb dX14_sounds_220 (by decide) ?_
                  refine pf_X14_371 F hB dX14_sounds_224 (by exact tt3) ⟨by decide, by decide⟩ (fun H locs hBn => ?_)
                  clear hB; have hB := hBn; clear hBn
                  have hI224 := inv_PIc (t := 19) hB hI199 (by exact tt3) (by unfold iCn; omega)
                  have wC := wPp_hB4 hB (wPp_PI wB (Or.inr ⟨fun z => absurd (tt3.symm.trans z) (by decide), fun z => absurd (tt3.symm.trans z) (by decide)⟩) (by exact tp3) (by exact tl3))
                  have hBC := hB
                  refine lv_aload hx hb dX14_sounds_227 (lv_at hl 1 rfl) ?_
                  refine gf_X14_284 F hB dX14_sounds_229 (by exact tt3) ?_
                  refine lv_aload hx hb dX14_sounds_232 (lv_at hl 1 rfl) ?_
                  refine gf_X14_338 F hB dX14_sounds_234 (by exact tt3) ?_
                  refine lv_icmp_lt (tgt := 263) hx hb dX14_sounds_237 (by decide) (fun c237 => ?_) (fun c237 => ?_)
                  · refine lv_aload_n hx hb dX14_sounds_263 rfl (lv_at hl 5 rfl) ?_
                    refine gf_X14_300 F hB dX14_sounds_264 (by exact tx3) ?_
                    refine lv_if_eq (tgt := 285) hx hb dX14_sounds_267 (by decide) (fun c267 => ((hin ((((sgI_nk (by decide)).trans (sgI_nk (by decide))).trans x03).symm.trans c267)) : False).elim) (fun c267 => ?_)
                    refine lv_iload_n hx hb dX14_sounds_270 rfl (lv_at hl 4 rfl) ?_
                    refine lv_aload_n hx hb dX14_sounds_271 rfl (lv_at hl 5 rfl) ?_
                    refine gf_X14_238 F hB dX14_sounds_272 (by exact tx3) ?_
                    refine lv_icmp_ge (tgt := 285) hx hb dX14_sounds_275 (by decide) (fun c275 => ?_) (fun c275 => ?_)
                    · first
                        | have hfin := hI257b
                        | have hfin := hI282b
                        | have hfin := inv_dnw hI224 wC (iW_C hBC (iW_L hB199 i3 tt3 tx3 hbb.1 hbb.2 (m_ltC hBC i3 hbb.1 hbb.2 c237)))
                        | have hfin : Inv eda ia K g n S hw _ := hI224
                      refine lv_iconst (v := 1) hx hb dX14_sounds_285 (by decide) ?_
                      exact sg_iret F hB hrt dX14_sounds_286 (by omega) (by omega) (⟨⟨_, rfl, Or.inl rfl⟩, hfin⟩)
                    · obtain ⟨m1, hm1⟩ := m_evm hB (K := K)
                      refine lv_aload_n hx hb dX14_sounds_278 rfl (lv_at hl 7 rfl) ?_
                      refine lv_iload_n hx hb dX14_sounds_279 rfl (lv_at hl 6 rfl) ?_
                      refine lv_bipush (v := 104) hx hb dX14_sounds_280 (by decide) ?_
                      refine sg_callV (ci := 19) F hB (m_ends l D cy hI224 x 104 wC.1.1 wC.1.2 wC.2.1 wC.2.2.1 wC.2.2.2.1 hm1 _) (cwV 2 F.1.2.2.2.2 (mgV (mm_5 _ (List.mem_of_getElem? (i := 33) rfl)) (mm_5 _ (List.mem_of_getElem? (i := 34) rfl)) (mm_5 _ (List.mem_of_getElem? (i := 35) rfl)) (mm_3 _ (List.mem_of_getElem? (i := 23) rfl)) (mm_5 _ (List.mem_of_getElem? (i := 32) rfl))) rfl rfl rfl ⟨rfl, by decide, by decide, by decide +kernel⟩ ⟨Nat.le_of_ble_eq_true rfl, Nat.le_of_ble_eq_true rfl⟩) rfl rfl (by decide) rfl hl.1 rfl (Nat.le_of_ble_eq_true rfl) dX14_sounds_282 (Nat.le_trans (show _ ≤ 18 from by omega) (Nat.le_of_ble_eq_true rfl)) (Nat.add_le_add_right (Nat.le_trans (show _ ≤ 146 from by omega) (Nat.le_of_ble_eq_true rfl)) _) (inv_A hI224) (fun H locs v σ282 N hBn hX282 hP => ?_)
                      clear hB; have hB := hBn; clear hBn
                      refine W.widen (k := 18) (n := N) (show _ ≤ 18 from by omega) (Nat.le_refl _) ?_
                      have hBn := sgB_up (n2 := 146) hB (show _ ≤ 146 from by omega)
                      clear hB; have hB := hBn; clear hBn
                      obtain ⟨rfl, hI282, en1_282, en2_282, en3_282, en4_282⟩ := hP
                      have hI282b := inv_dne hI224 wC hI282 en1_282 en2_282 en4_282
                      first
                        | have hfin := hI257b
                        | have hfin := hI282b
                        | have hfin := inv_dnw hI282b wC (iW_C hBC (iW_L hB199 i3 tt3 tx3 hbb.1 hbb.2 (m_ltC hBC i3 hbb.1 hbb.2 c237)))
                        | have hfin : Inv eda ia K g n S hw _ := hI282b
                      refine lv_iconst (v := 1) hx hb dX14_sounds_285 (by decide) ?_
                      exact sg_iret F hB hrt dX14_sounds_286 (by omega) (by omega) (⟨⟨_, rfl, Or.inl rfl⟩, hfin⟩)
                  · obtain ⟨m1, hm1⟩ := m_evm hB (K := K)
                    refine lv_aload_n hx hb dX14_sounds_240 rfl (lv_at hl 7 rfl) ?_
                    refine lv_iload_n hx hb dX14_sounds_241 rfl (lv_at hl 6 rfl) ?_
                    refine lv_aload hx hb dX14_sounds_242 (lv_at hl 1 rfl) ?_
                    refine gf_X14_371 F hB dX14_sounds_244 (by exact tt3) ?_
                    refine lv_if_eq (tgt := 255) hx hb dX14_sounds_247 (by decide) (fun c247 => ?_) (fun c247 => ?_)
                    · refine lv_bipush (v := 100) hx hb dX14_sounds_255 (by decide) ?_
                      refine sg_callV (ci := 19) F hB (m_ends l D cy hI224 x _ wC.1.1 wC.1.2 wC.2.1 wC.2.2.1 wC.2.2.2.1 hm1 _) (cwV 2 F.1.2.2.2.2 (mgV (mm_5 _ (List.mem_of_getElem? (i := 33) rfl)) (mm_5 _ (List.mem_of_getElem? (i := 34) rfl)) (mm_5 _ (List.mem_of_getElem? (i := 35) rfl)) (mm_3 _ (List.mem_of_getElem? (i := 23) rfl)) (mm_5 _ (List.mem_of_getElem? (i := 32) rfl))) rfl rfl rfl ⟨rfl, by decide, by decide, by decide +kernel⟩ ⟨Nat.le_of_ble_eq_true rfl, Nat.le_of_ble_eq_true rfl⟩) rfl rfl (by decide) rfl hl.1 rfl (Nat.le_of_ble_eq_true rfl) dX14_sounds_257 (Nat.le_trans (show _ ≤ 18 from by omega) (Nat.le_of_ble_eq_true rfl)) (Nat.add_le_add_right (Nat.le_trans (show _ ≤ 146 from by omega) (Nat.le_of_ble_eq_true rfl)) _) (inv_A hI224) (fun H locs v σ257 N hBn hX257 hP => ?_)
                      clear hB; have hB := hBn; clear hBn
                      refine W.widen (k := 18) (n := N) (show _ ≤ 18 from by omega) (Nat.le_refl _) ?_
                      have hBn := sgB_up (n2 := 146) hB (show _ ≤ 146 from by omega)
                      clear hB; have hB := hBn; clear hBn
                      obtain ⟨rfl, hI257, en1_257, en2_257, en3_257, en4_257⟩ := hP
                      have hI257b := inv_dne hI224 wC hI257 en1_257 en2_257 en4_257
                      refine lv_goto (tgt := 285) hx hb dX14_sounds_260 (by decide) ?_
                      first
                        | have hfin := hI257b
                        | have hfin := hI282b
                        | have hfin := inv_dnw hI257b wC (iW_C hBC (iW_L hB199 i3 tt3 tx3 hbb.1 hbb.2 (m_ltC hBC i3 hbb.1 hbb.2 c237)))
                        | have hfin : Inv eda ia K g n S hw _ := hI257b
                      refine lv_iconst (v := 1) hx hb dX14_sounds_285 (by decide) ?_
                      exact sg_iret F hB hrt dX14_sounds_286 (by omega) (by omega) (⟨⟨_, rfl, Or.inl rfl⟩, hfin⟩)
                    · refine lv_bipush (v := 108) hx hb dX14_sounds_250 (by decide) ?_
                      refine lv_goto (tgt := 257) hx hb dX14_sounds_252 (by decide) ?_
                      refine sg_callV (ci := 19) F hB (m_ends l D cy hI224 x _ wC.1.1 wC.1.2 wC.2.1 wC.2.2.1 wC.2.2.2.1 hm1 _) (cwV 2 F.1.2.2.2.2 (mgV (mm_5 _ (List.mem_of_getElem? (i := 33) rfl)) (mm_5 _ (List.mem_of_getElem? (i := 34) rfl)) (mm_5 _ (List.mem_of_getElem? (i := 35) rfl)) (mm_3 _ (List.mem_of_getElem? (i := 23) rfl)) (mm_5 _ (List.mem_of_getElem? (i := 32) rfl))) rfl rfl rfl ⟨rfl, by decide, by decide, by decide +kernel⟩ ⟨Nat.le_of_ble_eq_true rfl, Nat.le_of_ble_eq_true rfl⟩) rfl rfl (by decide) rfl hl.1 rfl (Nat.le_of_ble_eq_true rfl) dX14_sounds_257 (Nat.le_trans (show _ ≤ 18 from by omega) (Nat.le_of_ble_eq_true rfl)) (Nat.add_le_add_right (Nat.le_trans (show _ ≤ 146 from by omega) (Nat.le_of_ble_eq_true rfl)) _) (inv_A hI224) (fun H locs v σ257 N hBn hX257 hP => ?_)
                      clear hB; have hB := hBn; clear hBn
                      refine W.widen (k := 18) (n := N) (show _ ≤ 18 from by omega) (Nat.le_refl _) ?_
                      have hBn := sgB_up (n2 := 146) hB (show _ ≤ 146 from by omega)
                      clear hB; have hB := hBn; clear hBn
                      obtain ⟨rfl, hI257, en1_257, en2_257, en3_257, en4_257⟩ := hP
                      have hI257b := inv_dne hI224 wC hI257 en1_257 en2_257 en4_257
                      refine lv_goto (tgt := 285) hx hb dX14_sounds_260 (by decide) ?_
                      first
                        | have hfin := hI257b
                        | have hfin := hI282b
                        | have hfin := inv_dnw hI257b wC (iW_C hBC (iW_L hB199 i3 tt3 tx3 hbb.1 hbb.2 (m_ltC hBC i3 hbb.1 hbb.2 c237)))
                        | have hfin : Inv eda ia K g n S hw _ := hI257b
                      refine lv_iconst (v := 1) hx hb dX14_sounds_285 (by decide) ?_
                      exact sg_iret F hB hrt dX14_sounds_286 (by omega) (by omega) (⟨⟨_, rfl, Or.inl rfl⟩, hfin⟩)
                · refine lv_iload hx hb dX14_sounds_212 (lv_at hl 3 rfl) ?_
                  refine lv_bipush (v := 32) hx hb dX14_sounds_214 (by decide) ?_
                  refine lv_icmp_eq (tgt := 223) hx hb dX14_sounds_216 (by decide) (fun c216 => ?_) (fun c216 => ?_)
                  · refine lv_iconst (v := 0) hx hb dX14_sounds_223 (by decide) ?_
                    refine pf_X14_371 F hB dX14_sounds_224 (by exact tt3) ⟨by decide, by decide⟩ (fun H locs hBn => ?_)
                    clear hB; have hB := hBn; clear hBn
                    have hI224 := inv_PIc (t := 19) hB hI199 (by exact tt3) (by unfold iCn; omega)
                    have wC := wPp_hB4 hB (wPp_PI wB (Or.inr ⟨fun z => absurd (tt3.symm.trans z) (by decide), fun z => absurd (tt3.symm.trans z) (by decide)⟩) (by exact tp3) (by exact tl3))
                    have hBC := hB
                    refine lv_aload hx hb dX14_sounds_227 (lv_at hl 1 rfl) ?_
                    refine gf_X14_284 F hB dX14_sounds_229 (by exact tt3) ?_
                    refine lv_aload hx hb dX14_sounds_232 (lv_at hl 1 rfl) ?_
                    refine gf_X14_338 F hB dX14_sounds_234 (by exact tt3) ?_
                    refine lv_icmp_lt (tgt := 263) hx hb dX14_sounds_237 (by decide) (fun c237 => ?_) (fun c237 => ?_)
                    · refine lv_aload_n hx hb dX14_sounds_263 rfl (lv_at hl 5 rfl) ?_
                      refine gf_X14_300 F hB dX14_sounds_264 (by exact tx3) ?_
                      refine lv_if_eq (tgt := 285) hx hb dX14_sounds_267 (by decide) (fun c267 => ((hin ((((sgI_nk (by decide)).trans (sgI_nk (by decide))).trans x03).symm.trans c267)) : False).elim) (fun c267 => ?_)
                      refine lv_iload_n hx hb dX14_sounds_270 rfl (lv_at hl 4 rfl) ?_
                      refine lv_aload_n hx hb dX14_sounds_271 rfl (lv_at hl 5 rfl) ?_
                      refine gf_X14_238 F hB dX14_sounds_272 (by exact tx3) ?_
                      refine lv_icmp_ge (tgt := 285) hx hb dX14_sounds_275 (by decide) (fun c275 => ?_) (fun c275 => ?_)
                      · first
                          | have hfin := hI257b
                          | have hfin := hI282b
                          | have hfin := inv_dnw hI224 wC (iW_C hBC (iW_L hB199 i3 tt3 tx3 hbb.1 hbb.2 (m_ltC hBC i3 hbb.1 hbb.2 c237)))
                          | have hfin : Inv eda ia K g n S hw _ := hI224
                        refine lv_iconst (v := 1) hx hb dX14_sounds_285 (by decide) ?_
                        exact sg_iret F hB hrt dX14_sounds_286 (by omega) (by omega) (⟨⟨_, rfl, Or.inl rfl⟩, hfin⟩)
                      · obtain ⟨m1, hm1⟩ := m_evm hB (K := K)
                        refine lv_aload_n hx hb dX14_sounds_278 rfl (lv_at hl 7 rfl) ?_
                        refine lv_iload_n hx hb dX14_sounds_279 rfl (lv_at hl 6 rfl) ?_
                        refine lv_bipush (v := 104) hx hb dX14_sounds_280 (by decide) ?_
                        refine sg_callV (ci := 19) F hB (m_ends l D cy hI224 x 104 wC.1.1 wC.1.2 wC.2.1 wC.2.2.1 wC.2.2.2.1 hm1 _) (cwV 2 F.1.2.2.2.2 (mgV (mm_5 _ (List.mem_of_getElem? (i := 33) rfl)) (mm_5 _ (List.mem_of_getElem? (i := 34) rfl)) (mm_5 _ (List.mem_of_getElem? (i := 35) rfl)) (mm_3 _ (List.mem_of_getElem? (i := 23) rfl)) (mm_5 _ (List.mem_of_getElem? (i := 32) rfl))) rfl rfl rfl ⟨rfl, by decide, by decide, by decide +kernel⟩ ⟨Nat.le_of_ble_eq_true rfl, Nat.le_of_ble_eq_true rfl⟩) rfl rfl (by decide) rfl hl.1 rfl (Nat.le_of_ble_eq_true rfl) dX14_sounds_282 (Nat.le_trans (show _ ≤ 18 from by omega) (Nat.le_of_ble_eq_true rfl)) (Nat.add_le_add_right (Nat.le_trans (show _ ≤ 146 from by omega) (Nat.le_of_ble_eq_true rfl)) _) (inv_A hI224) (fun H locs v σ282 N hBn hX282 hP => ?_)
                        clear hB; have hB := hBn; clear hBn
                        refine W.widen (k := 18) (n := N) (show _ ≤ 18 from by omega) (Nat.le_refl _) ?_
                        have hBn := sgB_up (n2 := 146) hB (show _ ≤ 146 from by omega)
                        clear hB; have hB := hBn; clear hBn
                        obtain ⟨rfl, hI282, en1_282, en2_282, en3_282, en4_282⟩ := hP
                        have hI282b := inv_dne hI224 wC hI282 en1_282 en2_282 en4_282
                        first
                          | have hfin := hI257b
                          | have hfin := hI282b
                          | have hfin := inv_dnw hI282b wC (iW_C hBC (iW_L hB199 i3 tt3 tx3 hbb.1 hbb.2 (m_ltC hBC i3 hbb.1 hbb.2 c237)))
                          | have hfin : Inv eda ia K g n S hw _ := hI282b
                        refine lv_iconst (v := 1) hx hb dX14_sounds_285 (by decide) ?_
                        exact sg_iret F hB hrt dX14_sounds_286 (by omega) (by omega) (⟨⟨_, rfl, Or.inl rfl⟩, hfin⟩)
                    · obtain ⟨m1, hm1⟩ := m_evm hB (K := K)
                      refine lv_aload_n hx hb dX14_sounds_240 rfl (lv_at hl 7 rfl) ?_
                      refine lv_iload_n hx hb dX14_sounds_241 rfl (lv_at hl 6 rfl) ?_
                      refine lv_aload hx hb dX14_sounds_242 (lv_at hl 1 rfl) ?_
                      refine gf_X14_371 F hB dX14_sounds_244 (by exact tt3) ?_
                      refine lv_if_eq (tgt := 255) hx hb dX14_sounds_247 (by decide) (fun c247 => ?_) (fun c247 => ?_)
                      · refine lv_bipush (v := 100) hx hb dX14_sounds_255 (by decide) ?_
                        refine sg_callV (ci := 19) F hB (m_ends l D cy hI224 x _ wC.1.1 wC.1.2 wC.2.1 wC.2.2.1 wC.2.2.2.1 hm1 _) (cwV 2 F.1.2.2.2.2 (mgV (mm_5 _ (List.mem_of_getElem? (i := 33) rfl)) (mm_5 _ (List.mem_of_getElem? (i := 34) rfl)) (mm_5 _ (List.mem_of_getElem? (i := 35) rfl)) (mm_3 _ (List.mem_of_getElem? (i := 23) rfl)) (mm_5 _ (List.mem_of_getElem? (i := 32) rfl))) rfl rfl rfl ⟨rfl, by decide, by decide, by decide +kernel⟩ ⟨Nat.le_of_ble_eq_true rfl, Nat.le_of_ble_eq_true rfl⟩) rfl rfl (by decide) rfl hl.1 rfl (Nat.le_of_ble_eq_true rfl) dX14_sounds_257 (Nat.le_trans (show _ ≤ 18 from by omega) (Nat.le_of_ble_eq_true rfl)) (Nat.add_le_add_right (Nat.le_trans (show _ ≤ 146 from by omega) (Nat.le_of_ble_eq_true rfl)) _) (inv_A hI224) (fun H locs v σ257 N hBn hX257 hP => ?_)
                        clear hB; have hB := hBn; clear hBn
                        refine W.widen (k := 18) (n := N) (show _ ≤ 18 from by omega) (Nat.le_refl _) ?_
                        have hBn := sgB_up (n2 := 146) hB (show _ ≤ 146 from by omega)
                        clear hB; have hB := hBn; clear hBn
                        obtain ⟨rfl, hI257, en1_257, en2_257, en3_257, en4_257⟩ := hP
                        have hI257b := inv_dne hI224 wC hI257 en1_257 en2_257 en4_257
                        refine lv_goto (tgt := 285) hx hb dX14_sounds_260 (by decide) ?_
                        first
                          | have hfin := hI257b
                          | have hfin := hI282b
                          | have hfin := inv_dnw hI257b wC (iW_C hBC (iW_L hB199 i3 tt3 tx3 hbb.1 hbb.2 (m_ltC hBC i3 hbb.1 hbb.2 c237)))
                          | have hfin : Inv eda ia K g n S hw _ := hI257b
                        refine lv_iconst (v := 1) hx hb dX14_sounds_285 (by decide) ?_
                        exact sg_iret F hB hrt dX14_sounds_286 (by omega) (by omega) (⟨⟨_, rfl, Or.inl rfl⟩, hfin⟩)
                      · refine lv_bipush (v := 108) hx hb dX14_sounds_250 (by decide) ?_
                        refine lv_goto (tgt := 257) hx hb dX14_sounds_252 (by decide) ?_
                        refine sg_callV (ci := 19) F hB (m_ends l D cy hI224 x _ wC.1.1 wC.1.2 wC.2.1 wC.2.2.1 wC.2.2.2.1 hm1 _) (cwV 2 F.1.2.2.2.2 (mgV (mm_5 _ (List.mem_of_getElem? (i := 33) rfl)) (mm_5 _ (List.mem_of_getElem? (i := 34) rfl)) (mm_5 _ (List.mem_of_getElem? (i := 35) rfl)) (mm_3 _ (List.mem_of_getElem? (i := 23) rfl)) (mm_5 _ (List.mem_of_getElem? (i := 32) rfl))) rfl rfl rfl ⟨rfl, by decide, by decide, by decide +kernel⟩ ⟨Nat.le_of_ble_eq_true rfl, Nat.le_of_ble_eq_true rfl⟩) rfl rfl (by decide) rfl hl.1 rfl (Nat.le_of_ble_eq_true rfl) dX14_sounds_257 (Nat.le_trans (show _ ≤ 18 from by omega) (Nat.le_of_ble_eq_true rfl)) (Nat.add_le_add_right (Nat.le_trans (show _ ≤ 146 from by omega) (Nat.le_of_ble_eq_true rfl)) _) (inv_A hI224) (fun H locs v σ257 N hBn hX257 hP => ?_)
                        clear hB; have hB := hBn; clear hBn
                        refine W.widen (k := 18) (n := N) (show _ ≤ 18 from by omega) (Nat.le_refl _) ?_
                        have hBn := sgB_up (n2 := 146) hB (show _ ≤ 146 from by omega)
                        clear hB; have hB := hBn; clear hBn
                        obtain ⟨rfl, hI257, en1_257, en2_257, en3_257, en4_257⟩ := hP
                        have hI257b := inv_dne hI224 wC hI257 en1_257 en2_257 en4_257
                        refine lv_goto (tgt := 285) hx hb dX14_sounds_260 (by decide) ?_
                        first
                          | have hfin := hI257b
                          | have hfin := hI282b
                          | have hfin := inv_dnw hI257b wC (iW_C hBC (iW_L hB199 i3 tt3 tx3 hbb.1 hbb.2 (m_ltC hBC i3 hbb.1 hbb.2 c237)))
                          | have hfin : Inv eda ia K g n S hw _ := hI257b
                        refine lv_iconst (v := 1) hx hb dX14_sounds_285 (by decide) ?_
                        exact sg_iret F hB hrt dX14_sounds_286 (by omega) (by omega) (⟨⟨_, rfl, Or.inl rfl⟩, hfin⟩)
                  · refine lv_iconst (v := 1) hx hb dX14_sounds_219 (by decide) ?_
                    refine lv_goto (tgt := 224) hx hb dX14_sounds_220 (by decide) ?_
                    refine pf_X14_371 F hB dX14_sounds_224 (by exact tt3) ⟨by decide, by decide⟩ (fun H locs hBn => ?_)
                    clear hB; have hB := hBn; clear hBn
                    have hI224 := inv_PIc (t := 19) hB hI199 (by exact tt3) (by unfold iCn; omega)
                    have wC := wPp_hB4 hB (wPp_PI wB (Or.inr ⟨fun z => absurd (tt3.symm.trans z) (by decide), fun z => absurd (tt3.symm.trans z) (by decide)⟩) (by exact tp3) (by exact tl3))
                    have hBC := hB
                    refine lv_aload hx hb dX14_sounds_227 (lv_at hl 1 rfl) ?_
                    refine gf_X14_284 F hB dX14_sounds_229 (by exact tt3) ?_
                    refine lv_aload hx hb dX14_sounds_232 (lv_at hl 1 rfl) ?_
                    refine gf_X14_338 F hB dX14_sounds_234 (by exact tt3) ?_
                    refine lv_icmp_lt (tgt := 263) hx hb dX14_sounds_237 (by decide) (fun c237 => ?_) (fun c237 => ?_)
                    · refine lv_aload_n hx hb dX14_sounds_263 rfl (lv_at hl 5 rfl) ?_
                      refine gf_X14_300 F hB dX14_sounds_264 (by exact tx3) ?_
                      refine lv_if_eq (tgt := 285) hx hb dX14_sounds_267 (by decide) (fun c267 => ((hin ((((sgI_nk (by decide)).trans (sgI_nk (by decide))).trans x03).symm.trans c267)) : False).elim) (fun c267 => ?_)
                      refine lv_iload_n hx hb dX14_sounds_270 rfl (lv_at hl 4 rfl) ?_
                      refine lv_aload_n hx hb dX14_sounds_271 rfl (lv_at hl 5 rfl) ?_
                      refine gf_X14_238 F hB dX14_sounds_272 (by exact tx3) ?_
                      refine lv_icmp_ge (tgt := 285) hx hb dX14_sounds_275 (by decide) (fun c275 => ?_) (fun c275 => ?_)
                      · first
                          | have hfin := hI257b
                          | have hfin := hI282b
                          | have hfin := inv_dnw hI224 wC (iW_C hBC (iW_L hB199 i3 tt3 tx3 hbb.1 hbb.2 (m_ltC hBC i3 hbb.1 hbb.2 c237)))
                          | have hfin : Inv eda ia K g n S hw _ := hI224
                        refine lv_iconst (v := 1) hx hb dX14_sounds_285 (by decide) ?_
                        exact sg_iret F hB hrt dX14_sounds_286 (by omega) (by omega) (⟨⟨_, rfl, Or.inl rfl⟩, hfin⟩)
                      · obtain ⟨m1, hm1⟩ := m_evm hB (K := K)
                        refine lv_aload_n hx hb dX14_sounds_278 rfl (lv_at hl 7 rfl) ?_
                        refine lv_iload_n hx hb dX14_sounds_279 rfl (lv_at hl 6 rfl) ?_
                        refine lv_bipush (v := 104) hx hb dX14_sounds_280 (by decide) ?_
                        refine sg_callV (ci := 19) F hB (m_ends l D cy hI224 x 104 wC.1.1 wC.1.2 wC.2.1 wC.2.2.1 wC.2.2.2.1 hm1 _) (cwV 2 F.1.2.2.2.2 (mgV (mm_5 _ (List.mem_of_getElem? (i := 33) rfl)) (mm_5 _ (List.mem_of_getElem? (i := 34) rfl)) (mm_5 _ (List.mem_of_getElem? (i := 35) rfl)) (mm_3 _ (List.mem_of_getElem? (i := 23) rfl)) (mm_5 _ (List.mem_of_getElem? (i := 32) rfl))) rfl rfl rfl ⟨rfl, by decide, by decide, by decide +kernel⟩ ⟨Nat.le_of_ble_eq_true rfl, Nat.le_of_ble_eq_true rfl⟩) rfl rfl (by decide) rfl hl.1 rfl (Nat.le_of_ble_eq_true rfl) dX14_sounds_282 (Nat.le_trans (show _ ≤ 18 from by omega) (Nat.le_of_ble_eq_true rfl)) (Nat.add_le_add_right (Nat.le_trans (show _ ≤ 146 from by omega) (Nat.le_of_ble_eq_true rfl)) _) (inv_A hI224) (fun H locs v σ282 N hBn hX282 hP => ?_)
                        clear hB; have hB := hBn; clear hBn
                        refine W.widen (k := 18) (n := N) (show _ ≤ 18 from by omega) (Nat.le_refl _) ?_
                        have hBn := sgB_up (n2 := 146) hB (show _ ≤ 146 from by omega)
                        clear hB; have hB := hBn; clear hBn
                        obtain ⟨rfl, hI282, en1_282, en2_282, en3_282, en4_282⟩ := hP
                        have hI282b := inv_dne hI224 wC hI282 en1_282 en2_282 en4_282
                        first
                          | have hfin := hI257b
                          | have hfin := hI282b
                          | have hfin := inv_dnw hI282b wC (iW_C hBC (iW_L hB199 i3 tt3 tx3 hbb.1 hbb.2 (m_ltC hBC i3 hbb.1 hbb.2 c237)))
                          | have hfin : Inv eda ia K g n S hw _ := hI282b
                        refine lv_iconst (v := 1) hx hb dX14_sounds_285 (by decide) ?_
                        exact sg_iret F hB hrt dX14_sounds_286 (by omega) (by omega) (⟨⟨_, rfl, Or.inl rfl⟩, hfin⟩)
                    · obtain ⟨m1, hm1⟩ := m_evm hB (K := K)
                      refine lv_aload_n hx hb dX14_sounds_240 rfl (lv_at hl 7 rfl) ?_
                      refine lv_iload_n hx hb dX14_sounds_241 rfl (lv_at hl 6 rfl) ?_
                      refine lv_aload hx hb dX14_sounds_242 (lv_at hl 1 rfl) ?_
                      refine gf_X14_371 F hB dX14_sounds_244 (by exact tt3) ?_
                      refine lv_if_eq (tgt := 255) hx hb dX14_sounds_247 (by decide) (fun c247 => ?_) (fun c247 => ?_)
                      · refine lv_bipush (v := 100) hx hb dX14_sounds_255 (by decide) ?_
                        refine sg_callV (ci := 19) F hB (m_ends l D cy hI224 x _ wC.1.1 wC.1.2 wC.2.1 wC.2.2.1 wC.2.2.2.1 hm1 _) (cwV 2 F.1.2.2.2.2 (mgV (mm_5 _ (List.mem_of_getElem? (i := 33) rfl)) (mm_5 _ (List.mem_of_getElem? (i := 34) rfl)) (mm_5 _ (List.mem_of_getElem? (i := 35) rfl)) (mm_3 _ (List.mem_of_getElem? (i := 23) rfl)) (mm_5 _ (List.mem_of_getElem? (i := 32) rfl))) rfl rfl rfl ⟨rfl, by decide, by decide, by decide +kernel⟩ ⟨Nat.le_of_ble_eq_true rfl, Nat.le_of_ble_eq_true rfl⟩) rfl rfl (by decide) rfl hl.1 rfl (Nat.le_of_ble_eq_true rfl) dX14_sounds_257 (Nat.le_trans (show _ ≤ 18 from by omega) (Nat.le_of_ble_eq_true rfl)) (Nat.add_le_add_right (Nat.le_trans (show _ ≤ 146 from by omega) (Nat.le_of_ble_eq_true rfl)) _) (inv_A hI224) (fun H locs v σ257 N hBn hX257 hP => ?_)
                        clear hB; have hB := hBn; clear hBn
                        refine W.widen (k := 18) (n := N) (show _ ≤ 18 from by omega) (Nat.le_refl _) ?_
                        have hBn := sgB_up (n2 := 146) hB (show _ ≤ 146 from by omega)
                        clear hB; have hB := hBn; clear hBn
                        obtain ⟨rfl, hI257, en1_257, en2_257, en3_257, en4_257⟩ := hP
                        have hI257b := inv_dne hI224 wC hI257 en1_257 en2_257 en4_257
                        refine lv_goto (tgt := 285) hx hb dX14_sounds_260 (by decide) ?_
                        first
                          | have hfin := hI257b
                          | have hfin := hI282b
                          | have hfin := inv_dnw hI257b wC (iW_C hBC (iW_L hB199 i3 tt3 tx3 hbb.1 hbb.2 (m_ltC hBC i3 hbb.1 hbb.2 c237)))
                          | have hfin : Inv eda ia K g n S hw _ := hI257b
                        refine lv_iconst (v := 1) hx hb dX14_sounds_285 (by decide) ?_
                        exact sg_iret F hB hrt dX14_sounds_286 (by omega) (by omega) (⟨⟨_, rfl, Or.inl rfl⟩, hfin⟩)
                      · refine lv_bipush (v := 108) hx hb dX14_sounds_250 (by decide) ?_
                        refine lv_goto (tgt := 257) hx hb dX14_sounds_252 (by decide) ?_
                        refine sg_callV (ci := 19) F hB (m_ends l D cy hI224 x _ wC.1.1 wC.1.2 wC.2.1 wC.2.2.1 wC.2.2.2.1 hm1 _) (cwV 2 F.1.2.2.2.2 (mgV (mm_5 _ (List.mem_of_getElem? (i := 33) rfl)) (mm_5 _ (List.mem_of_getElem? (i := 34) rfl)) (mm_5 _ (List.mem_of_getElem? (i := 35) rfl)) (mm_3 _ (List.mem_of_getElem? (i := 23) rfl)) (mm_5 _ (List.mem_of_getElem? (i := 32) rfl))) rfl rfl rfl ⟨rfl, by decide, by decide, by decide +kernel⟩ ⟨Nat.le_of_ble_eq_true rfl, Nat.le_of_ble_eq_true rfl⟩) rfl rfl (by decide) rfl hl.1 rfl (Nat.le_of_ble_eq_true rfl) dX14_sounds_257 (Nat.le_trans (show _ ≤ 18 from by omega) (Nat.le_of_ble_eq_true rfl)) (Nat.add_le_add_right (Nat.le_trans (show _ ≤ 146 from by omega) (Nat.le_of_ble_eq_true rfl)) _) (inv_A hI224) (fun H locs v σ257 N hBn hX257 hP => ?_)
                        clear hB; have hB := hBn; clear hBn
                        refine W.widen (k := 18) (n := N) (show _ ≤ 18 from by omega) (Nat.le_refl _) ?_
                        have hBn := sgB_up (n2 := 146) hB (show _ ≤ 146 from by omega)
                        clear hB; have hB := hBn; clear hBn
                        obtain ⟨rfl, hI257, en1_257, en2_257, en3_257, en4_257⟩ := hP
                        have hI257b := inv_dne hI224 wC hI257 en1_257 en2_257 en4_257
                        refine lv_goto (tgt := 285) hx hb dX14_sounds_260 (by decide) ?_
                        first
                          | have hfin := hI257b
                          | have hfin := hI282b
                          | have hfin := inv_dnw hI257b wC (iW_C hBC (iW_L hB199 i3 tt3 tx3 hbb.1 hbb.2 (m_ltC hBC i3 hbb.1 hbb.2 c237)))
                          | have hfin : Inv eda ia K g n S hw _ := hI257b
                        refine lv_iconst (v := 1) hx hb dX14_sounds_285 (by decide) ?_
                        exact sg_iret F hB hrt dX14_sounds_286 (by omega) (by omega) (⟨⟨_, rfl, Or.inl rfl⟩, hfin⟩)
              · have hi4 := i_nle c92
                refine lv_aload_n hx hb dX14_sounds_95 rfl (lv_at hl 5 rfl) ?_
                refine gf_X14_300 F hB dX14_sounds_96 tx3 ?_
                refine lv_if_eq (tgt := 119) hx hb dX14_sounds_99 (by decide) (fun c99 => ((hin ((x03).symm.trans c99)) : False).elim) (fun c99 => ?_)
                have h03 : 0 < sgSz σ3 le := by omega
                obtain ⟨r1, za, zb⟩ := (inv_LS hI3).1 _ tle3 id
                have gs := sgLz_s za h03
                obtain ⟨t9, v1, v2⟩ := inv_L hI3 le tle3 0 h03
                refine lv_aload_n hx hb dX14_sounds_102 rfl (lv_at hl 5 rfl) ?_
                refine gr_X14_320 F hB dX14_sounds_103 tx3 hle3 ?_
                refine lv_iconst (v := 0) hx hb dX14_sounds_106 (by decide) ?_
                refine sg_callV (ci := 4) F hB (m_remove0 l D cy gs h03 (fun j y _ hy => (inv_LS hI3).2.2.1 r1 j y gs.2.2.1 hy) (by rw [← sgAt_of gs.2.1]; exact v1) _) (cwV 1 F.1.2.2.2.2 (mgV (mm_5 _ (List.mem_of_getElem? (i := 29) rfl)) (mm_5 _ (List.mem_of_getElem? (i := 30) rfl)) (mm_5 _ (List.mem_of_getElem? (i := 31) rfl)) (mm_0 _ (List.mem_of_getElem? (i := 35) rfl)) (mm_5 _ (List.mem_of_getElem? (i := 21) rfl))) rfl rfl rfl ⟨rfl, by decide, by decide, by decide +kernel⟩ ⟨Nat.le_of_ble_eq_true rfl, Nat.le_of_ble_eq_true rfl⟩) rfl rfl (by decide) rfl hl.1 rfl (Nat.le_of_ble_eq_true rfl) dX14_sounds_107 (by show _ ≤ 18; omega) (Nat.add_le_add_right (by omega) _) tle3 (fun H locs v σ107 N hBn hX107 hP => ?_)
                clear hB; have hB := hBn; clear hBn
                obtain ⟨rfl, ho, ho1, ho2, ho3, ho4⟩ := hP
                obtain ⟨hI107, rm1, rm2, rm3, rm4, rm5⟩ := inv_rm hI3 gs h03 ho ho1 ho3 ho2 ho4 (fun z => absurd (rle.symm.trans z) (by decide)) (fun _ _ => Or.inr (by rw [ole, hz4]; exact hkp))
                have hbx0 : sgBx ia σ107 t9 := sgBx_mono (fun a _ => ho.1 a) (by unfold iEl at v2; rw [rle] at v2; exact v2)
                have zr107 : zR l1 σ3 σ107 := zR_l (l2 := le) (fun a _ => ho.1 a) (fun a k _ h5 => ho.2.2.1 a k (fun z => h5 (by rw [z]; exact tle3))) rm5 rm4 tl3 nle
                have i107 : ∀ k, sgI σ107 xe k = sgI σ3 xe k := fun k => ho.2.2.1 xe k (fun z => by rw [z, tle3] at tx3; exact absurd tx3 (by decide))
                have tx107 := tFr_T zr107.1 tx3 (by decide)
                have tl107 := tFr_T zr107.1 tl3 (by decide)
                have tle107 : sgT σ107 le = 5 := (ho.1 le).1.trans tle3
                have sG107 : sgSz σ107 (kG K) = sgSz σ3 (kG K) := (rm4 _ (inv_tG hI3).1 (fun z => z.elim id (fun w => nleG w.symm))).1
                refine va_castY hx hb hown (F.1.2.2.2.2 _ (List.mem_cons_of_mem _ (mm_8 _ (List.mem_of_getElem? (i := 3) rfl)))) (F.2.2.1.2.2 ("java/lang/Integer", "java/lang/Integer") (by decide +kernel)) (sg_rbx F hB hbx0) dX14_sounds_110 ?_
                refine sg_callVr F hB (m_unbox l D cy hbx0 _) (cwV 0 F.1.2.2.2.2 (mgV (mm_8 _ (List.mem_of_getElem? (i := 5) rfl)) (mm_8 _ (List.mem_of_getElem? (i := 6) rfl)) (mm_8 _ (List.mem_of_getElem? (i := 7) rfl)) (mm_7 _ (List.mem_of_getElem? (i := 30) rfl)) (mm_8 _ (List.mem_of_getElem? (i := 1) rfl))) rfl rfl rfl ⟨rfl, by decide, by decide, by decide +kernel⟩ ⟨Nat.le_of_ble_eq_true rfl, Nat.le_of_ble_eq_true rfl⟩) rfl hl.1 rfl (Nat.le_of_ble_eq_true rfl) dX14_sounds_113 (by show _ ≤ 18; omega) (Nat.add_le_add_right (by omega) _) (sg_rbx F hB hbx0) (fun H locs v σ113 N hBn hX113 hP => ?_)
                clear hB; have hB := hBn; clear hBn
                obtain ⟨⟨w113, rfl⟩, rfl⟩ := hP
                refine lv_goto (tgt := 133) hx hb dX14_sounds_116 (by decide) ?_
                refine lv_istore (lv' := [(8, .int _), (7, .int _), (6, .ref _), (5, .ref _), (4, .int _), (3, .int _), (2, .ref _), (1, .int _), (0, .ref _)]) hx hb dX14_sounds_133 hl (by decide) rfl (fun ls hl => ?_)
                refine lv_iload hx hb dX14_sounds_135 (lv_at hl 4 rfl) ?_
                refine lv_bipush (v := 32) hx hb dX14_sounds_137 (by decide) ?_
                refine lv_icmp_ne (tgt := 165) hx hb dX14_sounds_139 (by decide) (fun c139 => ?_) (fun c139 => ?_)
                · refine lv_iload hx hb dX14_sounds_165 (lv_at hl 4 rfl) ?_
                  refine lv_bipush (v := 32) hx hb dX14_sounds_167 (by decide) ?_
                  refine lv_icmp_ne (tgt := 185) hx hb dX14_sounds_169 (by decide) (fun c169 => ?_) (fun c169 => ((c139 c169) : False).elim)
                  refine lv_iinc (lv' := [(7, .int _), (8, .int _), (6, .ref _), (5, .ref _), (4, .int _), (3, .int _), (2, .ref _), (1, .int _), (0, .ref _)]) hx hb dX14_sounds_185 hl (k := 1) rfl rfl (by decide) rfl (fun ls hl => ?_)
                  refine lv_goto (tgt := 89) hx hb dX14_sounds_188 (by decide) ?_
                  have hi3 := i_nle c92
                  have e9 : (k9 + Int32.ofInt 1).toInt = k9.toInt + 1 := m_add1 (by omega) (by omega)
                  first
                    | exact ih89 _ (by subst hd89; rw [e9]; omega) _ _ _ _ _ _ _ _ hB (lv_sub hl [0, 2, 3, 4, 5, 6, 7, 8] rfl) hI158 ⟨by rw [e9]; omega, by rw [e9]; omega⟩ (by rw [e9, l158, rm2]; omega) (by rw [e9, ada158, sG5]; omega) ⟨by rw [e9]; show kc + 0 + 0 + 1 + 1 ≤ _; omega, by rw [e9]; omega⟩ (x158.trans hz4) z158 rfl
                    | exact ih89 _ (by subst hd89; rw [e9]; omega) _ _ _ _ _ _ _ _ hB (lv_sub hl [0, 2, 3, 4, 5, 6, 7, 8] rfl) hI107 ⟨by rw [e9]; omega, by rw [e9]; omega⟩ (by rw [e9, rm2]; omega) (by rw [e9, sG107]; omega) ⟨by rw [e9]; show kc + 0 + 0 ≤ _; omega, by rw [e9]; omega⟩ ((i107 4).trans hz4) (zR_tr hzr zr107) rfl
                · refine lv_aload_n hx hb dX14_sounds_142 rfl (lv_at hl 6 rfl) ?_
                  refine gf_X14_300 F hB dX14_sounds_143 tx107 ?_
                  refine lv_if_eq (tgt := 165) hx hb dX14_sounds_146 (by decide) (fun c146 => ((hin (((i107 0).trans x03).symm.trans c146)) : False).elim) (fun c146 => ?_)
                  refine lv_aload_n hx hb dX14_sounds_149 rfl (lv_at hl 8 rfl) ?_
                  refine gr_X14_35 F hB dX14_sounds_150 (inv_A hI107) (inv_r8 hI107) ?_
                  refine lv_iload hx hb dX14_sounds_153 (lv_at hl 0 rfl) ?_
                  refine sg_callS F hB (m_box l D cy _ _) (va_cwS 1 F.1.2.2.2.2 (mgS2 (mm_7 _ (List.mem_of_getElem? (i := 33) rfl)) (mm_7 _ (List.mem_of_getElem? (i := 34) rfl)) (mm_7 _ (List.mem_of_getElem? (i := 30) rfl)) (mm_7 _ (List.mem_of_getElem? (i := 25) rfl))) rfl rfl rfl ⟨by decide, by decide, by decide +kernel⟩ ⟨Nat.le_of_ble_eq_true rfl, Nat.le_of_ble_eq_true rfl⟩) rfl hl.1 rfl (Nat.le_of_ble_eq_true rfl) dX14_sounds_155 (by show _ ≤ 18; omega) (Nat.add_le_add_right (by omega) _)  (fun H locs v σ155 N hBn hX155 hP => ?_)
                  clear hB; have hB := hBn; clear hBn
                  obtain ⟨y155, rfl, hbx, hqt⟩ := hP
                  have ed5 := sg_eda F hB
                  have hI155 := inv_Qt hI107 hqt ed5
                  have tG5 := (inv_tG hI155).1
                  have sG5 : sgSz σ155 (kG K) = sgSz σ3 (kG K) := (sgSz_Qt hqt (inv_tG hI107).1).trans sG107
                  have z5 := zR_Qt hI107 hqt ed5 tl107
                  have lq5 := inv_LqQt hI107 hqt ed5
                  obtain ⟨ra158, za158, zb158⟩ := (inv_LS hI155).1 _ tG5 id
                  refine sg_callV (ci := 4) F hB (m_add l D cy za158 (fun j y h1 h2 => (inv_LS hI155).2.2.1 ra158 j y h1 h2) y155 (iEl_K (l0 := _) (g := g) (j := 0) (by unfold iEl; rw [(inv_tG h).2]; exact hbx)) zb158 _) (cwV 1 F.1.2.2.2.2 (mgV (mm_3 _ (List.mem_of_getElem? (i := 9) rfl)) (mm_3 _ (List.mem_of_getElem? (i := 10) rfl)) (mm_3 _ (List.mem_of_getElem? (i := 11) rfl)) (mm_0 _ (List.mem_of_getElem? (i := 35) rfl)) (mm_2 _ (List.mem_of_getElem? (i := 29) rfl))) rfl rfl rfl ⟨rfl, by decide, by decide, by decide +kernel⟩ ⟨Nat.le_of_ble_eq_true rfl, Nat.le_of_ble_eq_true rfl⟩) rfl rfl (by decide) rfl hl.1 rfl (Nat.le_of_ble_eq_true rfl) dX14_sounds_158 (by show _ ≤ 18; omega) (Nat.add_le_add_right (by omega) _) tG5 (fun H locs v σ158 N hBn hX158 hP => ?_)
                  clear hB; have hB := hBn; clear hBn
                  obtain ⟨rfl, hAd158⟩ := hP
                  obtain ⟨hI158, ada158, adb158, adc158, add158, ade158, adf158, adg158, adh158⟩ := inv_ad hI155 tG5 za158 hAd158 (sg_eda F hB) (by unfold iEl; rw [(inv_tG h).2]; exact hbx) (by rw [(inv_tG h).2]; refine inv_cap ?_ (Or.inl rfl); rw [sG5]; omega) (Or.inl ⟨inv_nD hI155 (by rw [(inv_tG h).2]; decide), rfl⟩) (nr7 (inv_tG h).2 (by decide))
                  have z158 : zR l1 σ σ158 := zR_tr hzr (zR_tr zr107 (zR_tr z5 (zR_l (l2 := kG K) add158 adf158 adg158 adh158 (tFr_T z5.1 tl107 (by decide)) nlG)))
                  have l158 : sgSz σ158 le = sgSz σ107 le := ((adh158 le (tFr_T z5.1 tle107 (by decide)) (fun z => z.elim id nleG)).1).trans (lq5 le tle107 id).1
                  have x158 : sgI σ158 xe 4 = sgI σ3 xe 4 := ((adf158 xe 4 (by rw [tFr_T z5.1 tx107 (by decide)]; decide) (by rw [tFr_T z5.1 tx107 (by decide)]; decide)).trans (((hqt.1 xe (by rw [tx107]; decide)).2.2 4).1)).trans (i107 4)
                  refine lv_pop hx hb dX14_sounds_161 rfl ?_
                  refine lv_goto (tgt := 185) hx hb dX14_sounds_162 (by decide) ?_
                  refine lv_iinc (lv' := [(7, .int _), (8, .int _), (6, .ref _), (5, .ref _), (4, .int _), (3, .int _), (2, .ref _), (1, .int _), (0, .ref _)]) hx hb dX14_sounds_185 hl (k := 1) rfl rfl (by decide) rfl (fun ls hl => ?_)
                  refine lv_goto (tgt := 89) hx hb dX14_sounds_188 (by decide) ?_
                  have hi3 := i_nle c92
                  have e9 : (k9 + Int32.ofInt 1).toInt = k9.toInt + 1 := m_add1 (by omega) (by omega)
                  first
                    | exact ih89 _ (by subst hd89; rw [e9]; omega) _ _ _ _ _ _ _ _ hB (lv_sub hl [0, 2, 3, 4, 5, 6, 7, 8] rfl) hI158 ⟨by rw [e9]; omega, by rw [e9]; omega⟩ (by rw [e9, l158, rm2]; omega) (by rw [e9, ada158, sG5]; omega) ⟨by rw [e9]; show kc + 0 + 0 + 1 + 1 ≤ _; omega, by rw [e9]; omega⟩ (x158.trans hz4) z158 rfl
                    | exact ih89 _ (by subst hd89; rw [e9]; omega) _ _ _ _ _ _ _ _ hB (lv_sub hl [0, 2, 3, 4, 5, 6, 7, 8] rfl) hI107 ⟨by rw [e9]; omega, by rw [e9]; omega⟩ (by rw [e9, rm2]; omega) (by rw [e9, sG107]; omega) ⟨by rw [e9]; show kc + 0 + 0 ≤ _; omega, by rw [e9]; omega⟩ ((i107 4).trans hz4) (zR_tr hzr zr107) rfl
            · refine lv_iconst (v := 1) hx hb dX14_sounds_77 (by decide) ?_
              refine lv_goto (tgt := 82) hx hb dX14_sounds_78 (by decide) ?_
              refine lv_iadd hx hb dX14_sounds_82 ?_
              refine pf_X14_366 F hB dX14_sounds_83 (inv_A h) (fun H locs hBn => ?_)
              clear hB; have hB := hBn; clear hBn
              have hI83 := inv_PIc (t := 20) hB h (inv_A h) (by unfold iCn; omega)
              have z83 := zPIB (l1 := l1) (t := 20) hB (inv_A h) (by decide) tl
              have hb0 := i_nle c48
              rw [m_i0] at hb0
              obtain ⟨kc, hkc⟩ : ∃ kc : Nat, kc = 0 := ⟨_, rfl⟩
              refine W.widen (k := kc) (n := N) (by omega) (Nat.le_refl _) ?_
              refine lv_iconst (v := 0) hx hb dX14_sounds_86 (by decide) ?_
              refine lv_istore (lv' := [(7, .int _), (6, .ref _), (5, .ref _), (0, .ref _), (1, .int _), (2, .ref _), (3, .int _), (4, .int _)]) hx hb dX14_sounds_87 hl (by decide) rfl (fun ls hl => ?_)
              have key89 : ∃ (σ3 : SG) (k9 : Int32) (nc : Nat), sgB D cy s σ σ3 H locs N nc ∧ lv_has ls 9 [(7, .int k9), (6, .ref t0), (5, .ref pp), (4, .int f0), (3, .int b), (2, .ref xe), (1, .int x), (0, .ref (kA K))] ∧ Inv eda ia K g n S hw σ3 ∧ (0 ≤ k9.toInt ∧ k9.toInt ≤ b.toInt) ∧ sgSz σ3 le = sgSz σ le - k9.toInt.toNat ∧ sgSz σ3 (kG K) ≤ sgSz σ (kG K) + k9.toInt.toNat ∧ (kc ≤ 2 * k9.toInt.toNat ∧ nc ≤ 16 * k9.toInt.toNat) ∧ sgI σ3 xe 4 = sgI σ xe 4 ∧ zR l1 σ σ3 := ⟨_, _, _, hB, (lv_sub hl [0, 1, 2, 7, 6, 5, 4, 3] rfl), hI83, ⟨by decide, by rw [m_i0]; omega⟩, by rw [m_i0]; exact (sgSz_nk (by decide)).trans rfl, by rw [m_i0]; exact Nat.le_of_eq (sgSz_nk (by decide)), ⟨by omega, by omega⟩, sgI_nk (by decide), z83⟩
              clear hB hl hkc
              obtain ⟨σ3, k9, nc, hB, hl, hI3, hi, hzl, hzG, hkn, hz4, hzr⟩ := key89
              obtain ⟨d89, hd89⟩ : ∃ d : Nat, d = (b.toInt - k9.toInt).toNat := ⟨_, rfl⟩
              induction d89 using Nat.strongRecOn generalizing H locs ls N σ3 k9 nc kc
              rename_i d89 ih89
              have tx3 : sgT σ3 xe = 17 := tFr_T hzr.1 txe (by decide)
              have tp3 : sgT σ3 pp = 18 := tFr_T hzr.1 tp (by decide)
              have tle3 : sgT σ3 le = 5 := tFr_T hzr.1 tle (by decide)
              have hle3 : sgR σ3 xe 3 = some le := (hzr.2.2.2.2.1 xe 3 (by rw [txe]; decide)).trans hle
              have tl3 : sgT σ3 l1 = 5 := tFr_T hzr.1 tl (by decide)
              have tt3 : sgT σ3 t0 = 19 := tFr_T hzr.1 tt (by decide)
              have d3 : sgI σ3 t0 2 = sgI σ t0 2 := hzr.2.1 t0 2 tt
              have x03 : sgI σ3 xe 0 = sgI σ xe 0 := hzr.2.2.2.1 xe 0 txe (by decide)
              refine lv_iload hx hb dX14_sounds_89 (lv_at hl 0 rfl) ?_
              refine lv_iload_n hx hb dX14_sounds_91 rfl (lv_at hl 4 rfl) ?_
              refine lv_icmp_ge (tgt := 191) hx hb dX14_sounds_92 (by decide) (fun c92 => ?_) (fun c92 => ?_)
              · have hi4 := i_le c92
                refine W.widen (k := 16) (n := N) (show kc ≤ 16 from by omega) (Nat.le_refl _) ?_
                have hBn := sgB_up (n2 := 128) hB (show nc ≤ 128 from by omega)
                clear hB; have hB := hBn; clear hBn
                refine lv_aload hx hb dX14_sounds_191 (lv_at hl 1 rfl) ?_
                refine lv_dup hx hb dX14_sounds_193 rfl ?_
                refine gf_X14_284 F hB dX14_sounds_194 tt3 ?_
                refine lv_iload_n hx hb dX14_sounds_197 rfl (lv_at hl 4 rfl) ?_
                refine lv_iadd hx hb dX14_sounds_198 ?_
                refine pf_X14_284 F hB dX14_sounds_199 tt3 (fun H locs hBn => ?_)
                clear hB; have hB := hBn; clear hBn
                have hI199 := inv_dnB hB hI3 tt3
                have w3 := wPp_z h wc hzr
                have wB := wPp_hB hB (wPp_PI w3 (Or.inr ⟨fun z => absurd (tt3.symm.trans z) (by decide), fun z => absurd (tt3.symm.trans z) (by decide)⟩) tp3 tl3)
                have hB199 := hB
                have i3 := iW_tr hzr.1 (inv_T h) tt (hzr.2.1 t0 1 tt) (hzr.2.1 t0 2 tt) x03 (hzr.2.2.2.2.1 t0 0 (by rw [tt]; decide)) ⟨iw1, iw2, iw3, iw4⟩
                refine lv_aload hx hb dX14_sounds_202 (lv_at hl 1 rfl) ?_
                refine lv_aload hx hb dX14_sounds_204 (lv_at hl 1 rfl) ?_
                refine gf_X14_371 F hB dX14_sounds_206 (by exact tt3) ?_
                refine lv_if_ne (tgt := 219) hx hb dX14_sounds_209 (by decide) (fun c209 => ?_) (fun c209 => ?_)
                · refine lv_iconst (v := 1) hx hb dX14_sounds_219 (by decide) ?_
                  refine lv_goto (tgt := 224) hx hb dX14_sounds_220 (by decide) ?_
                  refine pf_X14_371 F hB dX14_sounds_224 (by exact tt3) ⟨by decide, by decide⟩ (fun H locs hBn => ?_)
                  clear hB; have hB := hBn; clear hBn
                  have hI224 := inv_PIc (t := 19) hB hI199 (by exact tt3) (by unfold iCn; omega)
                  have wC := wPp_hB4 hB (wPp_PI wB (Or.inr ⟨fun z => absurd (tt3.symm.trans z) (by decide), fun z => absurd (tt3.symm.trans z) (by decide)⟩) (by exact tp3) (by exact tl3))
                  have hBC := hB
                  refine lv_aload hx hb dX14_sounds_227 (lv_at hl 1 rfl) ?_
                  refine gf_X14_284 F hB dX14_sounds_229 (by exact tt3) ?_
                  refine lv_aload hx hb dX14_sounds_232 (lv_at hl 1 rfl) ?_
                  refine gf_X14_338 F hB dX14_sounds_234 (by exact tt3) ?_
                  refine lv_icmp_lt (tgt := 263) hx hb dX14_sounds_237 (by decide) (fun c237 => ?_) (fun c237 => ?_)
                  · refine lv_aload_n hx hb dX14_sounds_263 rfl (lv_at hl 5 rfl) ?_
                    refine gf_X14_300 F hB dX14_sounds_264 (by exact tx3) ?_
                    refine lv_if_eq (tgt := 285) hx hb dX14_sounds_267 (by decide) (fun c267 => ((hin ((((sgI_nk (by decide)).trans (sgI_nk (by decide))).trans x03).symm.trans c267)) : False).elim) (fun c267 => ?_)
                    refine lv_iload_n hx hb dX14_sounds_270 rfl (lv_at hl 4 rfl) ?_
                    refine lv_aload_n hx hb dX14_sounds_271 rfl (lv_at hl 5 rfl) ?_
                    refine gf_X14_238 F hB dX14_sounds_272 (by exact tx3) ?_
                    refine lv_icmp_ge (tgt := 285) hx hb dX14_sounds_275 (by decide) (fun c275 => ?_) (fun c275 => ?_)
                    · first
                        | have hfin := hI257b
                        | have hfin := hI282b
                        | have hfin := inv_dnw hI224 wC (iW_C hBC (iW_L hB199 i3 tt3 tx3 hbb.1 hbb.2 (m_ltC hBC i3 hbb.1 hbb.2 c237)))
                        | have hfin : Inv eda ia K g n S hw _ := hI224
                      refine lv_iconst (v := 1) hx hb dX14_sounds_285 (by decide) ?_
                      exact sg_iret F hB hrt dX14_sounds_286 (by omega) (by omega) (⟨⟨_, rfl, Or.inl rfl⟩, hfin⟩)
                    · obtain ⟨m1, hm1⟩ := m_evm hB (K := K)
                      refine lv_aload_n hx hb dX14_sounds_278 rfl (lv_at hl 7 rfl) ?_
                      refine lv_iload_n hx hb dX14_sounds_279 rfl (lv_at hl 6 rfl) ?_
                      refine lv_bipush (v := 104) hx hb dX14_sounds_280 (by decide) ?_
                      refine sg_callV (ci := 19) F hB (m_ends l D cy hI224 x 104 wC.1.1 wC.1.2 wC.2.1 wC.2.2.1 wC.2.2.2.1 hm1 _) (cwV 2 F.1.2.2.2.2 (mgV (mm_5 _ (List.mem_of_getElem? (i := 33) rfl)) (mm_5 _ (List.mem_of_getElem? (i := 34) rfl)) (mm_5 _ (List.mem_of_getElem? (i := 35) rfl)) (mm_3 _ (List.mem_of_getElem? (i := 23) rfl)) (mm_5 _ (List.mem_of_getElem? (i := 32) rfl))) rfl rfl rfl ⟨rfl, by decide, by decide, by decide +kernel⟩ ⟨Nat.le_of_ble_eq_true rfl, Nat.le_of_ble_eq_true rfl⟩) rfl rfl (by decide) rfl hl.1 rfl (Nat.le_of_ble_eq_true rfl) dX14_sounds_282 (Nat.le_trans (show _ ≤ 18 from by omega) (Nat.le_of_ble_eq_true rfl)) (Nat.add_le_add_right (Nat.le_trans (show _ ≤ 146 from by omega) (Nat.le_of_ble_eq_true rfl)) _) (inv_A hI224) (fun H locs v σ282 N hBn hX282 hP => ?_)
                      clear hB; have hB := hBn; clear hBn
                      refine W.widen (k := 18) (n := N) (show _ ≤ 18 from by omega) (Nat.le_refl _) ?_
                      have hBn := sgB_up (n2 := 146) hB (show _ ≤ 146 from by omega)
                      clear hB; have hB := hBn; clear hBn
                      obtain ⟨rfl, hI282, en1_282, en2_282, en3_282, en4_282⟩ := hP
                      have hI282b := inv_dne hI224 wC hI282 en1_282 en2_282 en4_282
                      first
                        | have hfin := hI257b
                        | have hfin := hI282b
                        | have hfin := inv_dnw hI282b wC (iW_C hBC (iW_L hB199 i3 tt3 tx3 hbb.1 hbb.2 (m_ltC hBC i3 hbb.1 hbb.2 c237)))
                        | have hfin : Inv eda ia K g n S hw _ := hI282b
                      refine lv_iconst (v := 1) hx hb dX14_sounds_285 (by decide) ?_
                      exact sg_iret F hB hrt dX14_sounds_286 (by omega) (by omega) (⟨⟨_, rfl, Or.inl rfl⟩, hfin⟩)
                  · obtain ⟨m1, hm1⟩ := m_evm hB (K := K)
                    refine lv_aload_n hx hb dX14_sounds_240 rfl (lv_at hl 7 rfl) ?_
                    refine lv_iload_n hx hb dX14_sounds_241 rfl (lv_at hl 6 rfl) ?_
                    refine lv_aload hx hb dX14_sounds_242 (lv_at hl 1 rfl) ?_
                    refine gf_X14_371 F hB dX14_sounds_244 (by exact tt3) ?_
                    refine lv_if_eq (tgt := 255) hx hb dX14_sounds_247 (by decide) (fun c247 => ?_) (fun c247 => ?_)
                    · refine lv_bipush (v := 100) hx hb dX14_sounds_255 (by decide) ?_
                      refine sg_callV (ci := 19) F hB (m_ends l D cy hI224 x _ wC.1.1 wC.1.2 wC.2.1 wC.2.2.1 wC.2.2.2.1 hm1 _) (cwV 2 F.1.2.2.2.2 (mgV (mm_5 _ (List.mem_of_getElem? (i := 33) rfl)) (mm_5 _ (List.mem_of_getElem? (i := 34) rfl)) (mm_5 _ (List.mem_of_getElem? (i := 35) rfl)) (mm_3 _ (List.mem_of_getElem? (i := 23) rfl)) (mm_5 _ (List.mem_of_getElem? (i := 32) rfl))) rfl rfl rfl ⟨rfl, by decide, by decide, by decide +kernel⟩ ⟨Nat.le_of_ble_eq_true rfl, Nat.le_of_ble_eq_true rfl⟩) rfl rfl (by decide) rfl hl.1 rfl (Nat.le_of_ble_eq_true rfl) dX14_sounds_257 (Nat.le_trans (show _ ≤ 18 from by omega) (Nat.le_of_ble_eq_true rfl)) (Nat.add_le_add_right (Nat.le_trans (show _ ≤ 146 from by omega) (Nat.le_of_ble_eq_true rfl)) _) (inv_A hI224) (fun H locs v σ257 N hBn hX257 hP => ?_)
                      clear hB; have hB := hBn; clear hBn
                      refine W.widen (k := 18) (n := N) (show _ ≤ 18 from by omega) (Nat.le_refl _) ?_
                      have hBn := sgB_up (n2 := 146) hB (show _ ≤ 146 from by omega)
                      clear hB; have hB := hBn; clear hBn
                      obtain ⟨rfl, hI257, en1_257, en2_257, en3_257, en4_257⟩ := hP
                      have hI257b := inv_dne hI224 wC hI257 en1_257 en2_257 en4_257
                      refine lv_goto (tgt := 285) hx hb dX14_sounds_260 (by decide) ?_
                      first
                        | have hfin := hI257b
                        | have hfin := hI282b
                        | have hfin := inv_dnw hI257b wC (iW_C hBC (iW_L hB199 i3 tt3 tx3 hbb.1 hbb.2 (m_ltC hBC i3 hbb.1 hbb.2 c237)))
                        | have hfin : Inv eda ia K g n S hw _ := hI257b
                      refine lv_iconst (v := 1) hx hb dX14_sounds_285 (by decide) ?_
                      exact sg_iret F hB hrt dX14_sounds_286 (by omega) (by omega) (⟨⟨_, rfl, Or.inl rfl⟩, hfin⟩)
                    · refine lv_bipush (v := 108) hx hb dX14_sounds_250 (by decide) ?_
                      refine lv_goto (tgt := 257) hx hb dX14_sounds_252 (by decide) ?_
                      refine sg_callV (ci := 19) F hB (m_ends l D cy hI224 x _ wC.1.1 wC.1.2 wC.2.1 wC.2.2.1 wC.2.2.2.1 hm1 _) (cwV 2 F.1.2.2.2.2 (mgV (mm_5 _ (List.mem_of_getElem? (i := 33) rfl)) (mm_5 _ (List.mem_of_getElem? (i := 34) rfl)) (mm_5 _ (List.mem_of_getElem? (i := 35) rfl)) (mm_3 _ (List.mem_of_getElem? (i := 23) rfl)) (mm_5 _ (List.mem_of_getElem? (i := 32) rfl))) rfl rfl rfl ⟨rfl, by decide, by decide, by decide +kernel⟩ ⟨Nat.le_of_ble_eq_true rfl, Nat.le_of_ble_eq_true rfl⟩) rfl rfl (by decide) rfl hl.1 rfl (Nat.le_of_ble_eq_true rfl) dX14_sounds_257 (Nat.le_trans (show _ ≤ 18 from by omega) (Nat.le_of_ble_eq_true rfl)) (Nat.add_le_add_right (Nat.le_trans (show _ ≤ 146 from by omega) (Nat.le_of_ble_eq_true rfl)) _) (inv_A hI224) (fun H locs v σ257 N hBn hX257 hP => ?_)
                      clear hB; have hB := hBn; clear hBn
                      refine W.widen (k := 18) (n := N) (show _ ≤ 18 from by omega) (Nat.le_refl _) ?_
                      have hBn := sgB_up (n2 := 146) hB (show _ ≤ 146 from by omega)
                      clear hB; have hB := hBn; clear hBn
                      obtain ⟨rfl, hI257, en1_257, en2_257, en3_257, en4_257⟩ := hP
                      have hI257b := inv_dne hI224 wC hI257 en1_257 en2_257 en4_257
                      refine lv_goto (tgt := 285) hx hb dX14_sounds_260 (by decide) ?_
                      first
                        | have hfin := hI257b
                        | have hfin := hI282b
                        | have hfin := inv_dnw hI257b wC (iW_C hBC (iW_L hB199 i3 tt3 tx3 hbb.1 hbb.2 (m_ltC hBC i3 hbb.1 hbb.2 c237)))
                        | have hfin : Inv eda ia K g n S hw _ := hI257b
                      refine lv_iconst (v := 1) hx hb dX14_sounds_285 (by decide) ?_
                      exact sg_iret F hB hrt dX14_sounds_286 (by omega) (by omega) (⟨⟨_, rfl, Or.inl rfl⟩, hfin⟩)
                · refine lv_iload hx hb dX14_sounds_212 (lv_at hl 3 rfl) ?_
                  refine lv_bipush (v := 32) hx hb dX14_sounds_214 (by decide) ?_
                  refine lv_icmp_eq (tgt := 223) hx hb dX14_sounds_216 (by decide) (fun c216 => ?_) (fun c216 => ?_)
                  · refine lv_iconst (v := 0) hx hb dX14_sounds_223 (by decide) ?_
                    refine pf_X14_371 F hB dX14_sounds_224 (by exact tt3) ⟨by decide, by decide⟩ (fun H locs hBn => ?_)
                    clear hB; have hB := hBn; clear hBn
                    have hI224 := inv_PIc (t := 19) hB hI199 (by exact tt3) (by unfold iCn; omega)
                    have wC := wPp_hB4 hB (wPp_PI wB (Or.inr ⟨fun z => absurd (tt3.symm.trans z) (by decide), fun z => absurd (tt3.symm.trans z) (by decide)⟩) (by exact tp3) (by exact tl3))
                    have hBC := hB
                    refine lv_aload hx hb dX14_sounds_227 (lv_at hl 1 rfl) ?_
                    refine gf_X14_284 F hB dX14_sounds_229 (by exact tt3) ?_
                    refine lv_aload hx hb dX14_sounds_232 (lv_at hl 1 rfl) ?_
                    refine gf_X14_338 F hB dX14_sounds_234 (by exact tt3) ?_
                    refine lv_icmp_lt (tgt := 263) hx hb dX14_sounds_237 (by decide) (fun c237 => ?_) (fun c237 => ?_)
                    · refine lv_aload_n hx hb dX14_sounds_263 rfl (lv_at hl 5 rfl) ?_
                      refine gf_X14_300 F hB dX14_sounds_264 (by exact tx3) ?_
                      refine lv_if_eq (tgt := 285) hx hb dX14_sounds_267 (by decide) (fun c267 => ((hin ((((sgI_nk (by decide)).trans (sgI_nk (by decide))).trans x03).symm.trans c267)) : False).elim) (fun c267 => ?_)
                      refine lv_iload_n hx hb dX14_sounds_270 rfl (lv_at hl 4 rfl) ?_
                      refine lv_aload_n hx hb dX14_sounds_271 rfl (lv_at hl 5 rfl) ?_
                      refine gf_X14_238 F hB dX14_sounds_272 (by exact tx3) ?_
                      refine lv_icmp_ge (tgt := 285) hx hb dX14_sounds_275 (by decide) (fun c275 => ?_) (fun c275 => ?_)
                      · first
                          | have hfin := hI257b
                          | have hfin := hI282b
                          | have hfin := inv_dnw hI224 wC (iW_C hBC (iW_L hB199 i3 tt3 tx3 hbb.1 hbb.2 (m_ltC hBC i3 hbb.1 hbb.2 c237)))
                          | have hfin : Inv eda ia K g n S hw _ := hI224
                        refine lv_iconst (v := 1) hx hb dX14_sounds_285 (by decide) ?_
                        exact sg_iret F hB hrt dX14_sounds_286 (by omega) (by omega) (⟨⟨_, rfl, Or.inl rfl⟩, hfin⟩)
                      · obtain ⟨m1, hm1⟩ := m_evm hB (K := K)
                        refine lv_aload_n hx hb dX14_sounds_278 rfl (lv_at hl 7 rfl) ?_
                        refine lv_iload_n hx hb dX14_sounds_279 rfl (lv_at hl 6 rfl) ?_
                        refine lv_bipush (v := 104) hx hb dX14_sounds_280 (by decide) ?_
                        refine sg_callV (ci := 19) F hB (m_ends l D cy hI224 x 104 wC.1.1 wC.1.2 wC.2.1 wC.2.2.1 wC.2.2.2.1 hm1 _) (cwV 2 F.1.2.2.2.2 (mgV (mm_5 _ (List.mem_of_getElem? (i := 33) rfl)) (mm_5 _ (List.mem_of_getElem? (i := 34) rfl)) (mm_5 _ (List.mem_of_getElem? (i := 35) rfl)) (mm_3 _ (List.mem_of_getElem? (i := 23) rfl)) (mm_5 _ (List.mem_of_getElem? (i := 32) rfl))) rfl rfl rfl ⟨rfl, by decide, by decide, by decide +kernel⟩ ⟨Nat.le_of_ble_eq_true rfl, Nat.le_of_ble_eq_true rfl⟩) rfl rfl (by decide) rfl hl.1 rfl (Nat.le_of_ble_eq_true rfl) dX14_sounds_282 (Nat.le_trans (show _ ≤ 18 from by omega) (Nat.le_of_ble_eq_true rfl)) (Nat.add_le_add_right (Nat.le_trans (show _ ≤ 146 from by omega) (Nat.le_of_ble_eq_true rfl)) _) (inv_A hI224) (fun H locs v σ282 N hBn hX282 hP => ?_)
                        clear hB; have hB := hBn; clear hBn
                        refine W.widen (k := 18) (n := N) (show _ ≤ 18 from by omega) (Nat.le_refl _) ?_
                        have hBn := sgB_up (n2 := 146) hB (show _ ≤ 146 from by omega)
                        clear hB; have hB := hBn; clear hBn
                        obtain ⟨rfl, hI282, en1_282, en2_282, en3_282, en4_282⟩ := hP
                        have hI282b := inv_dne hI224 wC hI282 en1_282 en2_282 en4_282
                        first
                          | have hfin := hI257b
                          | have hfin := hI282b
                          | have hfin := inv_dnw hI282b wC (iW_C hBC (iW_L hB199 i3 tt3 tx3 hbb.1 hbb.2 (m_ltC hBC i3 hbb.1 hbb.2 c237)))
                          | have hfin : Inv eda ia K g n S hw _ := hI282b
                        refine lv_iconst (v := 1) hx hb dX14_sounds_285 (by decide) ?_
                        exact sg_iret F hB hrt dX14_sounds_286 (by omega) (by omega) (⟨⟨_, rfl, Or.inl rfl⟩, hfin⟩)
                    · obtain ⟨m1, hm1⟩ := m_evm hB (K := K)
                      refine lv_aload_n hx hb dX14_sounds_240 rfl (lv_at hl 7 rfl) ?_
                      refine lv_iload_n hx hb dX14_sounds_241 rfl (lv_at hl 6 rfl) ?_
                      refine lv_aload hx hb dX14_sounds_242 (lv_at hl 1 rfl) ?_
                      refine gf_X14_371 F hB dX14_sounds_244 (by exact tt3) ?_
                      refine lv_if_eq (tgt := 255) hx hb dX14_sounds_247 (by decide) (fun c247 => ?_) (fun c247 => ?_)
                      · refine lv_bipush (v := 100) hx hb dX14_sounds_255 (by decide) ?_
                        refine sg_callV (ci := 19) F hB (m_ends l D cy hI224 x _ wC.1.1 wC.1.2 wC.2.1 wC.2.2.1 wC.2.2.2.1 hm1 _) (cwV 2 F.1.2.2.2.2 (mgV (mm_5 _ (List.mem_of_getElem? (i := 33) rfl)) (mm_5 _ (List.mem_of_getElem? (i := 34) rfl)) (mm_5 _ (List.mem_of_getElem? (i := 35) rfl)) (mm_3 _ (List.mem_of_getElem? (i := 23) rfl)) (mm_5 _ (List.mem_of_getElem? (i := 32) rfl))) rfl rfl rfl ⟨rfl, by decide, by decide, by decide +kernel⟩ ⟨Nat.le_of_ble_eq_true rfl, Nat.le_of_ble_eq_true rfl⟩) rfl rfl (by decide) rfl hl.1 rfl (Nat.le_of_ble_eq_true rfl) dX14_sounds_257 (Nat.le_trans (show _ ≤ 18 from by omega) (Nat.le_of_ble_eq_true rfl)) (Nat.add_le_add_right (Nat.le_trans (show _ ≤ 146 from by omega) (Nat.le_of_ble_eq_true rfl)) _) (inv_A hI224) (fun H locs v σ257 N hBn hX257 hP => ?_)
                        clear hB; have hB := hBn; clear hBn
                        refine W.widen (k := 18) (n := N) (show _ ≤ 18 from by omega) (Nat.le_refl _) ?_
                        have hBn := sgB_up (n2 := 146) hB (show _ ≤ 146 from by omega)
                        clear hB; have hB := hBn; clear hBn
                        obtain ⟨rfl, hI257, en1_257, en2_257, en3_257, en4_257⟩ := hP
                        have hI257b := inv_dne hI224 wC hI257 en1_257 en2_257 en4_257
                        refine lv_goto (tgt := 285) hx hb dX14_sounds_260 (by decide) ?_
                        first
                          | have hfin := hI257b
                          | have hfin := hI282b
                          | have hfin := inv_dnw hI257b wC (iW_C hBC (iW_L hB199 i3 tt3 tx3 hbb.1 hbb.2 (m_ltC hBC i3 hbb.1 hbb.2 c237)))
                          | have hfin : Inv eda ia K g n S hw _ := hI257b
                        refine lv_iconst (v := 1) hx hb dX14_sounds_285 (by decide) ?_
                        exact sg_iret F hB hrt dX14_sounds_286 (by omega) (by omega) (⟨⟨_, rfl, Or.inl rfl⟩, hfin⟩)
                      · refine lv_bipush (v := 108) hx hb dX14_sounds_250 (by decide) ?_
                        refine lv_goto (tgt := 257) hx hb dX14_sounds_252 (by decide) ?_
                        refine sg_callV (ci := 19) F hB (m_ends l D cy hI224 x _ wC.1.1 wC.1.2 wC.2.1 wC.2.2.1 wC.2.2.2.1 hm1 _) (cwV 2 F.1.2.2.2.2 (mgV (mm_5 _ (List.mem_of_getElem? (i := 33) rfl)) (mm_5 _ (List.mem_of_getElem? (i := 34) rfl)) (mm_5 _ (List.mem_of_getElem? (i := 35) rfl)) (mm_3 _ (List.mem_of_getElem? (i := 23) rfl)) (mm_5 _ (List.mem_of_getElem? (i := 32) rfl))) rfl rfl rfl ⟨rfl, by decide, by decide, by decide +kernel⟩ ⟨Nat.le_of_ble_eq_true rfl, Nat.le_of_ble_eq_true rfl⟩) rfl rfl (by decide) rfl hl.1 rfl (Nat.le_of_ble_eq_true rfl) dX14_sounds_257 (Nat.le_trans (show _ ≤ 18 from by omega) (Nat.le_of_ble_eq_true rfl)) (Nat.add_le_add_right (Nat.le_trans (show _ ≤ 146 from by omega) (Nat.le_of_ble_eq_true rfl)) _) (inv_A hI224) (fun H locs v σ257 N hBn hX257 hP => ?_)
                        clear hB; have hB := hBn; clear hBn
                        refine W.widen (k := 18) (n := N) (show _ ≤ 18 from by omega) (Nat.le_refl _) ?_
                        have hBn := sgB_up (n2 := 146) hB (show _ ≤ 146 from by omega)
                        clear hB; have hB := hBn; clear hBn
                        obtain ⟨rfl, hI257, en1_257, en2_257, en3_257, en4_257⟩ := hP
                        have hI257b := inv_dne hI224 wC hI257 en1_257 en2_257 en4_257
                        refine lv_goto (tgt := 285) hx hb dX14_sounds_260 (by decide) ?_
                        first
                          | have hfin := hI257b
                          | have hfin := hI282b
                          | have hfin := inv_dnw hI257b wC (iW_C hBC (iW_L hB199 i3 tt3 tx3 hbb.1 hbb.2 (m_ltC hBC i3 hbb.1 hbb.2 c237)))
                          | have hfin : Inv eda ia K g n S hw _ := hI257b
                        refine lv_iconst (v := 1) hx hb dX14_sounds_285 (by decide) ?_
                        exact sg_iret F hB hrt dX14_sounds_286 (by omega) (by omega) (⟨⟨_, rfl, Or.inl rfl⟩, hfin⟩)
                  · refine lv_iconst (v := 1) hx hb dX14_sounds_219 (by decide) ?_
                    refine lv_goto (tgt := 224) hx hb dX14_sounds_220 (by decide) ?_
                    refine pf_X14_371 F hB dX14_sounds_224 (by exact tt3) ⟨by decide, by decide⟩ (fun H locs hBn => ?_)
                    clear hB; have hB := hBn; clear hBn
                    have hI224 := inv_PIc (t := 19) hB hI199 (by exact tt3) (by unfold iCn; omega)
                    have wC := wPp_hB4 hB (wPp_PI wB (Or.inr ⟨fun z => absurd (tt3.symm.trans z) (by decide), fun z => absurd (tt3.symm.trans z) (by decide)⟩) (by exact tp3) (by exact tl3))
                    have hBC := hB
                    refine lv_aload hx hb dX14_sounds_227 (lv_at hl 1 rfl) ?_
                    refine gf_X14_284 F hB dX14_sounds_229 (by exact tt3) ?_
                    refine lv_aload hx hb dX14_sounds_232 (lv_at hl 1 rfl) ?_
                    refine gf_X14_338 F hB dX14_sounds_234 (by exact tt3) ?_
                    refine lv_icmp_lt (tgt := 263) hx hb dX14_sounds_237 (by decide) (fun c237 => ?_) (fun c237 => ?_)
                    · refine lv_aload_n hx hb dX14_sounds_263 rfl (lv_at hl 5 rfl) ?_
                      refine gf_X14_300 F hB dX14_sounds_264 (by exact tx3) ?_
                      refine lv_if_eq (tgt := 285) hx hb dX14_sounds_267 (by decide) (fun c267 => ((hin ((((sgI_nk (by decide)).trans (sgI_nk (by decide))).trans x03).symm.trans c267)) : False).elim) (fun c267 => ?_)
                      refine lv_iload_n hx hb dX14_sounds_270 rfl (lv_at hl 4 rfl) ?_
                      refine lv_aload_n hx hb dX14_sounds_271 rfl (lv_at hl 5 rfl) ?_
                      refine gf_X14_238 F hB dX14_sounds_272 (by exact tx3) ?_
                      refine lv_icmp_ge (tgt := 285) hx hb dX14_sounds_275 (by decide) (fun c275 => ?_) (fun c275 => ?_)
                      · first
                          | have hfin := hI257b
                          | have hfin := hI282b
                          | have hfin := inv_dnw hI224 wC (iW_C hBC (iW_L hB199 i3 tt3 tx3 hbb.1 hbb.2 (m_ltC hBC i3 hbb.1 hbb.2 c237)))
                          | have hfin : Inv eda ia K g n S hw _ := hI224
                        refine lv_iconst (v := 1) hx hb dX14_sounds_285 (by decide) ?_
                        exact sg_iret F hB hrt dX14_sounds_286 (by omega) (by omega) (⟨⟨_, rfl, Or.inl rfl⟩, hfin⟩)
                      · obtain ⟨m1, hm1⟩ := m_evm hB (K := K)
                        refine lv_aload_n hx hb dX14_sounds_278 rfl (lv_at hl 7 rfl) ?_
                        refine lv_iload_n hx hb dX14_sounds_279 rfl (lv_at hl 6 rfl) ?_
                        refine lv_bipush (v := 104) hx hb dX14_sounds_280 (by decide) ?_
                        refine sg_callV (ci := 19) F hB (m_ends l D cy hI224 x 104 wC.1.1 wC.1.2 wC.2.1 wC.2.2.1 wC.2.2.2.1 hm1 _) (cwV 2 F.1.2.2.2.2 (mgV (mm_5 _ (List.mem_of_getElem? (i := 33) rfl)) (mm_5 _ (List.mem_of_getElem? (i := 34) rfl)) (mm_5 _ (List.mem_of_getElem? (i := 35) rfl)) (mm_3 _ (List.mem_of_getElem? (i := 23) rfl)) (mm_5 _ (List.mem_of_getElem? (i := 32) rfl))) rfl rfl rfl ⟨rfl, by decide, by decide, by decide +kernel⟩ ⟨Nat.le_of_ble_eq_true rfl, Nat.le_of_ble_eq_true rfl⟩) rfl rfl (by decide) rfl hl.1 rfl (Nat.le_of_ble_eq_true rfl) dX14_sounds_282 (Nat.le_trans (show _ ≤ 18 from by omega) (Nat.le_of_ble_eq_true rfl)) (Nat.add_le_add_right (Nat.le_trans (show _ ≤ 146 from by omega) (Nat.le_of_ble_eq_true rfl)) _) (inv_A hI224) (fun H locs v σ282 N hBn hX282 hP => ?_)
                        clear hB; have hB := hBn; clear hBn
                        refine W.widen (k := 18) (n := N) (show _ ≤ 18 from by omega) (Nat.le_refl _) ?_
                        have hBn := sgB_up (n2 := 146) hB (show _ ≤ 146 from by omega)
                        clear hB; have hB := hBn; clear hBn
                        obtain ⟨rfl, hI282, en1_282, en2_282, en3_282, en4_282⟩ := hP
                        have hI282b := inv_dne hI224 wC hI282 en1_282 en2_282 en4_282
                        first
                          | have hfin := hI257b
                          | have hfin := hI282b
                          | have hfin := inv_dnw hI282b wC (iW_C hBC (iW_L hB199 i3 tt3 tx3 hbb.1 hbb.2 (m_ltC hBC i3 hbb.1 hbb.2 c237)))
                          | have hfin : Inv eda ia K g n S hw _ := hI282b
                        refine lv_iconst (v := 1) hx hb dX14_sounds_285 (by decide) ?_
                        exact sg_iret F hB hrt dX14_sounds_286 (by omega) (by omega) (⟨⟨_, rfl, Or.inl rfl⟩, hfin⟩)
                    · obtain ⟨m1, hm1⟩ := m_evm hB (K := K)
                      refine lv_aload_n hx hb dX14_sounds_240 rfl (lv_at hl 7 rfl) ?_
                      refine lv_iload_n hx hb dX14_sounds_241 rfl (lv_at hl 6 rfl) ?_
                      refine lv_aload hx hb dX14_sounds_242 (lv_at hl 1 rfl) ?_
                      refine gf_X14_371 F hB dX14_sounds_244 (by exact tt3) ?_
                      refine lv_if_eq (tgt := 255) hx hb dX14_sounds_247 (by decide) (fun c247 => ?_) (fun c247 => ?_)
                      · refine lv_bipush (v := 100) hx hb dX14_sounds_255 (by decide) ?_
                        refine sg_callV (ci := 19) F hB (m_ends l D cy hI224 x _ wC.1.1 wC.1.2 wC.2.1 wC.2.2.1 wC.2.2.2.1 hm1 _) (cwV 2 F.1.2.2.2.2 (mgV (mm_5 _ (List.mem_of_getElem? (i := 33) rfl)) (mm_5 _ (List.mem_of_getElem? (i := 34) rfl)) (mm_5 _ (List.mem_of_getElem? (i := 35) rfl)) (mm_3 _ (List.mem_of_getElem? (i := 23) rfl)) (mm_5 _ (List.mem_of_getElem? (i := 32) rfl))) rfl rfl rfl ⟨rfl, by decide, by decide, by decide +kernel⟩ ⟨Nat.le_of_ble_eq_true rfl, Nat.le_of_ble_eq_true rfl⟩) rfl rfl (by decide) rfl hl.1 rfl (Nat.le_of_ble_eq_true rfl) dX14_sounds_257 (Nat.le_trans (show _ ≤ 18 from by omega) (Nat.le_of_ble_eq_true rfl)) (Nat.add_le_add_right (Nat.le_trans (show _ ≤ 146 from by omega) (Nat.le_of_ble_eq_true rfl)) _) (inv_A hI224) (fun H locs v σ257 N hBn hX257 hP => ?_)
                        clear hB; have hB := hBn; clear hBn
                        refine W.widen (k := 18) (n := N) (show _ ≤ 18 from by omega) (Nat.le_refl _) ?_
                        have hBn := sgB_up (n2 := 146) hB (show _ ≤ 146 from by omega)
                        clear hB; have hB := hBn; clear hBn
                        obtain ⟨rfl, hI257, en1_257, en2_257, en3_257, en4_257⟩ := hP
                        have hI257b := inv_dne hI224 wC hI257 en1_257 en2_257 en4_257
                        refine lv_goto (tgt := 285) hx hb dX14_sounds_260 (by decide) ?_
                        first
                          | have hfin := hI257b
                          | have hfin := hI282b
                          | have hfin := inv_dnw hI257b wC (iW_C hBC (iW_L hB199 i3 tt3 tx3 hbb.1 hbb.2 (m_ltC hBC i3 hbb.1 hbb.2 c237)))
                          | have hfin : Inv eda ia K g n S hw _ := hI257b
                        refine lv_iconst (v := 1) hx hb dX14_sounds_285 (by decide) ?_
                        exact sg_iret F hB hrt dX14_sounds_286 (by omega) (by omega) (⟨⟨_, rfl, Or.inl rfl⟩, hfin⟩)
                      · refine lv_bipush (v := 108) hx hb dX14_sounds_250 (by decide) ?_
                        refine lv_goto (tgt := 257) hx hb dX14_sounds_252 (by decide) ?_
                        refine sg_callV (ci := 19) F hB (m_ends l D cy hI224 x _ wC.1.1 wC.1.2 wC.2.1 wC.2.2.1 wC.2.2.2.1 hm1 _) (cwV 2 F.1.2.2.2.2 (mgV (mm_5 _ (List.mem_of_getElem? (i := 33) rfl)) (mm_5 _ (List.mem_of_getElem? (i := 34) rfl)) (mm_5 _ (List.mem_of_getElem? (i := 35) rfl)) (mm_3 _ (List.mem_of_getElem? (i := 23) rfl)) (mm_5 _ (List.mem_of_getElem? (i := 32) rfl))) rfl rfl rfl ⟨rfl, by decide, by decide, by decide +kernel⟩ ⟨Nat.le_of_ble_eq_true rfl, Nat.le_of_ble_eq_true rfl⟩) rfl rfl (by decide) rfl hl.1 rfl (Nat.le_of_ble_eq_true rfl) dX14_sounds_257 (Nat.le_trans (show _ ≤ 18 from by omega) (Nat.le_of_ble_eq_true rfl)) (Nat.add_le_add_right (Nat.le_trans (show _ ≤ 146 from by omega) (Nat.le_of_ble_eq_true rfl)) _) (inv_A hI224) (fun H locs v σ257 N hBn hX257 hP => ?_)
                        clear hB; have hB := hBn; clear hBn
                        refine W.widen (k := 18) (n := N) (show _ ≤ 18 from by omega) (Nat.le_refl _) ?_
                        have hBn := sgB_up (n2 := 146) hB (show _ ≤ 146 from by omega)
                        clear hB; have hB := hBn; clear hBn
                        obtain ⟨rfl, hI257, en1_257, en2_257, en3_257, en4_257⟩ := hP
                        have hI257b := inv_dne hI224 wC hI257 en1_257 en2_257 en4_257
                        refine lv_goto (tgt := 285) hx hb dX14_sounds_260 (by decide) ?_
                        first
                          | have hfin := hI257b
                          | have hfin := hI282b
                          | have hfin := inv_dnw hI257b wC (iW_C hBC (iW_L hB199 i3 tt3 tx3 hbb.1 hbb.2 (m_ltC hBC i3 hbb.1 hbb.2 c237)))
                          | have hfin : Inv eda ia K g n S hw _ := hI257b
                        refine lv_iconst (v := 1) hx hb dX14_sounds_285 (by decide) ?_
                        exact sg_iret F hB hrt dX14_sounds_286 (by omega) (by omega) (⟨⟨_, rfl, Or.inl rfl⟩, hfin⟩)
              · have hi4 := i_nle c92
                refine lv_aload_n hx hb dX14_sounds_95 rfl (lv_at hl 5 rfl) ?_
                refine gf_X14_300 F hB dX14_sounds_96 tx3 ?_
                refine lv_if_eq (tgt := 119) hx hb dX14_sounds_99 (by decide) (fun c99 => ((hin ((x03).symm.trans c99)) : False).elim) (fun c99 => ?_)
                have h03 : 0 < sgSz σ3 le := by omega
                obtain ⟨r1, za, zb⟩ := (inv_LS hI3).1 _ tle3 id
                have gs := sgLz_s za h03
                obtain ⟨t9, v1, v2⟩ := inv_L hI3 le tle3 0 h03
                refine lv_aload_n hx hb dX14_sounds_102 rfl (lv_at hl 5 rfl) ?_
                refine gr_X14_320 F hB dX14_sounds_103 tx3 hle3 ?_
                refine lv_iconst (v := 0) hx hb dX14_sounds_106 (by decide) ?_
                refine sg_callV (ci := 4) F hB (m_remove0 l D cy gs h03 (fun j y _ hy => (inv_LS hI3).2.2.1 r1 j y gs.2.2.1 hy) (by rw [← sgAt_of gs.2.1]; exact v1) _) (cwV 1 F.1.2.2.2.2 (mgV (mm_5 _ (List.mem_of_getElem? (i := 29) rfl)) (mm_5 _ (List.mem_of_getElem? (i := 30) rfl)) (mm_5 _ (List.mem_of_getElem? (i := 31) rfl)) (mm_0 _ (List.mem_of_getElem? (i := 35) rfl)) (mm_5 _ (List.mem_of_getElem? (i := 21) rfl))) rfl rfl rfl ⟨rfl, by decide, by decide, by decide +kernel⟩ ⟨Nat.le_of_ble_eq_true rfl, Nat.le_of_ble_eq_true rfl⟩) rfl rfl (by decide) rfl hl.1 rfl (Nat.le_of_ble_eq_true rfl) dX14_sounds_107 (by show _ ≤ 18; omega) (Nat.add_le_add_right (by omega) _) tle3 (fun H locs v σ107 N hBn hX107 hP => ?_)
                clear hB; have hB := hBn; clear hBn
                obtain ⟨rfl, ho, ho1, ho2, ho3, ho4⟩ := hP
                obtain ⟨hI107, rm1, rm2, rm3, rm4, rm5⟩ := inv_rm hI3 gs h03 ho ho1 ho3 ho2 ho4 (fun z => absurd (rle.symm.trans z) (by decide)) (fun _ _ => Or.inr (by rw [ole, hz4]; exact hkp))
                have hbx0 : sgBx ia σ107 t9 := sgBx_mono (fun a _ => ho.1 a) (by unfold iEl at v2; rw [rle] at v2; exact v2)
                have zr107 : zR l1 σ3 σ107 := zR_l (l2 := le) (fun a _ => ho.1 a) (fun a k _ h5 => ho.2.2.1 a k (fun z => h5 (by rw [z]; exact tle3))) rm5 rm4 tl3 nle
                have i107 : ∀ k, sgI σ107 xe k = sgI σ3 xe k := fun k => ho.2.2.1 xe k (fun z => by rw [z, tle3] at tx3; exact absurd tx3 (by decide))
                have tx107 := tFr_T zr107.1 tx3 (by decide)
                have tl107 := tFr_T zr107.1 tl3 (by decide)
                have tle107 : sgT σ107 le = 5 := (ho.1 le).1.trans tle3
                have sG107 : sgSz σ107 (kG K) = sgSz σ3 (kG K) := (rm4 _ (inv_tG hI3).1 (fun z => z.elim id (fun w => nleG w.symm))).1
                refine va_castY hx hb hown (F.1.2.2.2.2 _ (List.mem_cons_of_mem _ (mm_8 _ (List.mem_of_getElem? (i := 3) rfl)))) (F.2.2.1.2.2 ("java/lang/Integer", "java/lang/Integer") (by decide +kernel)) (sg_rbx F hB hbx0) dX14_sounds_110 ?_
                refine sg_callVr F hB (m_unbox l D cy hbx0 _) (cwV 0 F.1.2.2.2.2 (mgV (mm_8 _ (List.mem_of_getElem? (i := 5) rfl)) (mm_8 _ (List.mem_of_getElem? (i := 6) rfl)) (mm_8 _ (List.mem_of_getElem? (i := 7) rfl)) (mm_7 _ (List.mem_of_getElem? (i := 30) rfl)) (mm_8 _ (List.mem_of_getElem? (i := 1) rfl))) rfl rfl rfl ⟨rfl, by decide, by decide, by decide +kernel⟩ ⟨Nat.le_of_ble_eq_true rfl, Nat.le_of_ble_eq_true rfl⟩) rfl hl.1 rfl (Nat.le_of_ble_eq_true rfl) dX14_sounds_113 (by show _ ≤ 18; omega) (Nat.add_le_add_right (by omega) _) (sg_rbx F hB hbx0) (fun H locs v σ113 N hBn hX113 hP => ?_)
                clear hB; have hB := hBn; clear hBn
                obtain ⟨⟨w113, rfl⟩, rfl⟩ := hP
                refine lv_goto (tgt := 133) hx hb dX14_sounds_116 (by decide) ?_
                refine lv_istore (lv' := [(8, .int _), (7, .int _), (6, .ref _), (5, .ref _), (4, .int _), (3, .int _), (2, .ref _), (1, .int _), (0, .ref _)]) hx hb dX14_sounds_133 hl (by decide) rfl (fun ls hl => ?_)
                refine lv_iload hx hb dX14_sounds_135 (lv_at hl 4 rfl) ?_
                refine lv_bipush (v := 32) hx hb dX14_sounds_137 (by decide) ?_
                refine lv_icmp_ne (tgt := 165) hx hb dX14_sounds_139 (by decide) (fun c139 => ?_) (fun c139 => ?_)
                · refine lv_iload hx hb dX14_sounds_165 (lv_at hl 4 rfl) ?_
                  refine lv_bipush (v := 32) hx hb dX14_sounds_167 (by decide) ?_
                  refine lv_icmp_ne (tgt := 185) hx hb dX14_sounds_169 (by decide) (fun c169 => ?_) (fun c169 => ((c139 c169) : False).elim)
                  refine lv_iinc (lv' := [(7, .int _), (8, .int _), (6, .ref _), (5, .ref _), (4, .int _), (3, .int _), (2, .ref _), (1, .int _), (0, .ref _)]) hx hb dX14_sounds_185 hl (k := 1) rfl rfl (by decide) rfl (fun ls hl => ?_)
                  refine lv_goto (tgt := 89) hx hb dX14_sounds_188 (by decide) ?_
                  have hi3 := i_nle c92
                  have e9 : (k9 + Int32.ofInt 1).toInt = k9.toInt + 1 := m_add1 (by omega) (by omega)
                  first
                    | exact ih89 _ (by subst hd89; rw [e9]; omega) _ _ _ _ _ _ _ _ hB (lv_sub hl [0, 2, 3, 4, 5, 6, 7, 8] rfl) hI158 ⟨by rw [e9]; omega, by rw [e9]; omega⟩ (by rw [e9, l158, rm2]; omega) (by rw [e9, ada158, sG5]; omega) ⟨by rw [e9]; show kc + 0 + 0 + 1 + 1 ≤ _; omega, by rw [e9]; omega⟩ (x158.trans hz4) z158 rfl
                    | exact ih89 _ (by subst hd89; rw [e9]; omega) _ _ _ _ _ _ _ _ hB (lv_sub hl [0, 2, 3, 4, 5, 6, 7, 8] rfl) hI107 ⟨by rw [e9]; omega, by rw [e9]; omega⟩ (by rw [e9, rm2]; omega) (by rw [e9, sG107]; omega) ⟨by rw [e9]; show kc + 0 + 0 ≤ _; omega, by rw [e9]; omega⟩ ((i107 4).trans hz4) (zR_tr hzr zr107) rfl
                · refine lv_aload_n hx hb dX14_sounds_142 rfl (lv_at hl 6 rfl) ?_
                  refine gf_X14_300 F hB dX14_sounds_143 tx107 ?_
                  refine lv_if_eq (tgt := 165) hx hb dX14_sounds_146 (by decide) (fun c146 => ((hin (((i107 0).trans x03).symm.trans c146)) : False).elim) (fun c146 => ?_)
                  refine lv_aload_n hx hb dX14_sounds_149 rfl (lv_at hl 8 rfl) ?_
                  refine gr_X14_35 F hB dX14_sounds_150 (inv_A hI107) (inv_r8 hI107) ?_
                  refine lv_iload hx hb dX14_sounds_153 (lv_at hl 0 rfl) ?_
                  refine sg_callS F hB (m_box l D cy _ _) (va_cwS 1 F.1.2.2.2.2 (mgS2 (mm_7 _ (List.mem_of_getElem? (i := 33) rfl)) (mm_7 _ (List.mem_of_getElem? (i := 34) rfl)) (mm_7 _ (List.mem_of_getElem? (i := 30) rfl)) (mm_7 _ (List.mem_of_getElem? (i := 25) rfl))) rfl rfl rfl ⟨by decide, by decide, by decide +kernel⟩ ⟨Nat.le_of_ble_eq_true rfl, Nat.le_of_ble_eq_true rfl⟩) rfl hl.1 rfl (Nat.le_of_ble_eq_true rfl) dX14_sounds_155 (by show _ ≤ 18; omega) (Nat.add_le_add_right (by omega) _)  (fun H locs v σ155 N hBn hX155 hP => ?_)
                  clear hB; have hB := hBn; clear hBn
                  obtain ⟨y155, rfl, hbx, hqt⟩ := hP
                  have ed5 := sg_eda F hB
                  have hI155 := inv_Qt hI107 hqt ed5
                  have tG5 := (inv_tG hI155).1
                  have sG5 : sgSz σ155 (kG K) = sgSz σ3 (kG K) := (sgSz_Qt hqt (inv_tG hI107).1).trans sG107
                  have z5 := zR_Qt hI107 hqt ed5 tl107
                  have lq5 := inv_LqQt hI107 hqt ed5
                  obtain ⟨ra158, za158, zb158⟩ := (inv_LS hI155).1 _ tG5 id
                  refine sg_callV (ci := 4) F hB (m_add l D cy za158 (fun j y h1 h2 => (inv_LS hI155).2.2.1 ra158 j y h1 h2) y155 (iEl_K (l0 := _) (g := g) (j := 0) (by unfold iEl; rw [(inv_tG h).2]; exact hbx)) zb158 _) (cwV 1 F.1.2.2.2.2 (mgV (mm_3 _ (List.mem_of_getElem? (i := 9) rfl)) (mm_3 _ (List.mem_of_getElem? (i := 10) rfl)) (mm_3 _ (List.mem_of_getElem? (i := 11) rfl)) (mm_0 _ (List.mem_of_getElem? (i := 35) rfl)) (mm_2 _ (List.mem_of_getElem? (i := 29) rfl))) rfl rfl rfl ⟨rfl, by decide, by decide, by decide +kernel⟩ ⟨Nat.le_of_ble_eq_true rfl, Nat.le_of_ble_eq_true rfl⟩) rfl rfl (by decide) rfl hl.1 rfl (Nat.le_of_ble_eq_true rfl) dX14_sounds_158 (by show _ ≤ 18; omega) (Nat.add_le_add_right (by omega) _) tG5 (fun H locs v σ158 N hBn hX158 hP => ?_)
                  clear hB; have hB := hBn; clear hBn
                  obtain ⟨rfl, hAd158⟩ := hP
                  obtain ⟨hI158, ada158, adb158, adc158, add158, ade158, adf158, adg158, adh158⟩ := inv_ad hI155 tG5 za158 hAd158 (sg_eda F hB) (by unfold iEl; rw [(inv_tG h).2]; exact hbx) (by rw [(inv_tG h).2]; refine inv_cap ?_ (Or.inl rfl); rw [sG5]; omega) (Or.inl ⟨inv_nD hI155 (by rw [(inv_tG h).2]; decide), rfl⟩) (nr7 (inv_tG h).2 (by decide))
                  have z158 : zR l1 σ σ158 := zR_tr hzr (zR_tr zr107 (zR_tr z5 (zR_l (l2 := kG K) add158 adf158 adg158 adh158 (tFr_T z5.1 tl107 (by decide)) nlG)))
                  have l158 : sgSz σ158 le = sgSz σ107 le := ((adh158 le (tFr_T z5.1 tle107 (by decide)) (fun z => z.elim id nleG)).1).trans (lq5 le tle107 id).1
                  have x158 : sgI σ158 xe 4 = sgI σ3 xe 4 := ((adf158 xe 4 (by rw [tFr_T z5.1 tx107 (by decide)]; decide) (by rw [tFr_T z5.1 tx107 (by decide)]; decide)).trans (((hqt.1 xe (by rw [tx107]; decide)).2.2 4).1)).trans (i107 4)
                  refine lv_pop hx hb dX14_sounds_161 rfl ?_
                  refine lv_goto (tgt := 185) hx hb dX14_sounds_162 (by decide) ?_
                  refine lv_iinc (lv' := [(7, .int _), (8, .int _), (6, .ref _), (5, .ref _), (4, .int _), (3, .int _), (2, .ref _), (1, .int _), (0, .ref _)]) hx hb dX14_sounds_185 hl (k := 1) rfl rfl (by decide) rfl (fun ls hl => ?_)
                  refine lv_goto (tgt := 89) hx hb dX14_sounds_188 (by decide) ?_
                  have hi3 := i_nle c92
                  have e9 : (k9 + Int32.ofInt 1).toInt = k9.toInt + 1 := m_add1 (by omega) (by omega)
                  first
                    | exact ih89 _ (by subst hd89; rw [e9]; omega) _ _ _ _ _ _ _ _ hB (lv_sub hl [0, 2, 3, 4, 5, 6, 7, 8] rfl) hI158 ⟨by rw [e9]; omega, by rw [e9]; omega⟩ (by rw [e9, l158, rm2]; omega) (by rw [e9, ada158, sG5]; omega) ⟨by rw [e9]; show kc + 0 + 0 + 1 + 1 ≤ _; omega, by rw [e9]; omega⟩ (x158.trans hz4) z158 rfl
                    | exact ih89 _ (by subst hd89; rw [e9]; omega) _ _ _ _ _ _ _ _ hB (lv_sub hl [0, 2, 3, 4, 5, 6, 7, 8] rfl) hI107 ⟨by rw [e9]; omega, by rw [e9]; omega⟩ (by rw [e9, rm2]; omega) (by rw [e9, sG107]; omega) ⟨by rw [e9]; show kc + 0 + 0 ≤ _; omega, by rw [e9]; omega⟩ ((i107 4).trans hz4) (zR_tr hzr zr107) rfl
    · refine lv_aload_n hx hb dX14_sounds_36 rfl (lv_at hl 2 rfl) ?_
      refine lv_aload hx hb dX14_sounds_37 (lv_at hl 1 rfl) ?_
      refine gf_X14_133 F hB dX14_sounds_39 tp ?_
      refine sg_callV (ci := 19) F hB (m_shut l D cy h hY _ pn.1 pn.2.1 (inv_pu h (by omega) hpp) _) (cwV 1 F.1.2.2.2.2 (mgV (mm_12 _ (List.mem_of_getElem? (i := 1) rfl)) (mm_12 _ (List.mem_of_getElem? (i := 2) rfl)) (mm_12 _ (List.mem_of_getElem? (i := 3) rfl)) (mm_3 _ (List.mem_of_getElem? (i := 23) rfl)) (mm_11 _ (List.mem_of_getElem? (i := 39) rfl))) rfl rfl rfl ⟨rfl, by decide, by decide, by decide +kernel⟩ ⟨Nat.le_of_ble_eq_true rfl, Nat.le_of_ble_eq_true rfl⟩) rfl rfl (by decide) rfl hl.1 rfl (Nat.le_of_ble_eq_true rfl) dX14_sounds_42 (Nat.le_of_ble_eq_true rfl) (Nat.add_le_add_right (Nat.le_of_ble_eq_true rfl) _) (inv_A h) (fun H locs v σ42 N hBn hX42 hP => ?_)
      clear hB; have hB := hBn; clear hBn
      obtain ⟨rfl, hI42⟩ := hP
      refine lv_iconst (v := 1) hx hb dX14_sounds_45 (by decide) ?_
      exact sg_iret F hB hrt dX14_sounds_46 (by omega) (by omega) (⟨⟨_, rfl, Or.inl rfl⟩, hI42⟩)
theorem dX14_sounds_119 : decode cX14_sounds 119 = .ok (.aload 6, 2) := by decide +kernel
theorem dX14_sounds_121 : decode cX14_sounds 121 = .ok (.getfield 369, 3) := by decide +kernel
theorem dX14_sounds_124 : decode cX14_sounds 124 = .ok (.aload 6, 2) := by decide +kernel
theorem dX14_sounds_126 : decode cX14_sounds 126 = .ok (.getfield 284, 3) := by decide +kernel
theorem dX14_sounds_129 : decode cX14_sounds 129 = .ok (.iload 7, 2) := by decide +kernel
theorem dX14_sounds_131 : decode cX14_sounds 131 = .ok (.iadd, 1) := by decide +kernel
theorem dX14_sounds_132 : decode cX14_sounds 132 = .ok (.iaload, 1) := by decide +kernel
theorem dX14_sounds_172 : decode cX14_sounds 172 = .ok (.aload_n 2, 1) := by decide +kernel
theorem dX14_sounds_173 : decode cX14_sounds 173 = .ok (.getfield 320, 3) := by decide +kernel
theorem dX14_sounds_176 : decode cX14_sounds 176 = .ok (.iload 8, 2) := by decide +kernel
theorem dX14_sounds_178 : decode cX14_sounds 178 = .ok (.invokestatic 212, 3) := by decide +kernel
theorem dX14_sounds_181 : decode cX14_sounds 181 = .ok (.invokevirtual 57, 3) := by decide +kernel
theorem dX14_sounds_184 : decode cX14_sounds 184 = .ok (.pop, 1) := by decide +kernel
set_option maxRecDepth 100000 in
set_option maxHeartbeats 4000000 in
theorem m_soundsO (l : Launch) (D : va_G) (cy : Nat → ClassId) {eda ca : Nat} {ia : Nat → Nat} {σ : SG} {K : KM} {g : GH} {n S hw : Nat} (h : Inv eda ia K g n S hw σ) (hY : nY g) {pp l1 t0 xe le : Nat} (x : Int32) (w : wPp K g σ x pp l1 t0 xe le) (b f0 : Int32) (hbb : 0 ≤ b.toInt ∧ b.toInt ≤ 8) (hin : sgI σ xe 0 = 0) (hbm : b.toInt ≤ (sgI σ t0 1).toInt - (sgI σ t0 2).toInt) (hks : sgI σ pp 2 = 115) (hf0 : 0 ≤ f0.toInt ∧ f0.toInt ≤ 65535) (hcap : sgSz σ le + b.toInt.toNat ≤ S - hw) (hcapG : sgSz σ (kG K) + b.toInt.toNat ≤ S - hw) (sz : Nat) : sgM l D cy eda ca ia σ sz yX14_sounds (Cond.code yX14_sounds cX14_sounds 9 (some .int) :: mWall) 11 266 18 146 [.ref (kA K), .int x, .ref xe, .int b, .int f0] (fun v σ2 => (∃ y : Int32, v = some (.int y) ∧ (y = 1 ∨ y = 2)) ∧ Inv eda ia K g n S hw σ2) := by
  refine sg_ofW (cc := cX14_sounds) (maxL := 9) (ret := (some .int)) (by decide) rfl (Nat.le_of_ble_eq_true rfl) (lv := [(0, .ref (kA K)), (1, .int x), (2, .ref xe), (3, .int b), (4, .int f0)]) rfl (fun p e s m below meth c ls H N hrt hnm F hB hl => ?_) sz
  have hx := F.1.1
  have hb := F.1.2.1
  have hown := F.1.2.2.2.1
  obtain ⟨tp, ⟨tl, rl, ol⟩, ⟨tt, ot, ht⟩, ⟨tle, rle, ole⟩, pn, hcp, hgr, hk1, hen, hrw⟩ := wPp_of h w
  have wc := w
  obtain ⟨⟨w1, w2⟩, hpp, hl1, h0, ha0, txe, hle, ew, ew1, ew2⟩ := w
  obtain ⟨iw1, iw2, iw3, iw4⟩ := ht.resolve_left (hY _)
  have nle : l1 ≠ le := fun z => absurd (rl.symm.trans ((congrArg (gRo g) z).trans rle)) (by decide)
  have nlG : l1 ≠ kG K := fun z => absurd (rl.symm.trans ((congrArg (gRo g) z).trans (inv_tG h).2)) (by decide)
  have nleG : le ≠ kG K := fun z => absurd (rle.symm.trans ((congrArg (gRo g) z).trans (inv_tG h).2)) (by decide)
  have hkp : (sgI σ xe 4).toInt = -1 := by
    rcases hk1 with q | q | q
    · exact absurd q (hY _)
    · exact q
    · exact absurd hks (by have := q.2.2.2.2; rw [hcp] at this; exact this)
  generalize hlo : ([] : List Loc) = locs at hB ⊢
  clear hlo
  refine lv_aload_n hx hb dX14_sounds_0 rfl (lv_at hl 0 rfl) ?_
  refine gr_X14_18 F hB dX14_sounds_1 (inv_A h) (inv_r2 h) ?_
  refine lv_iload_n hx hb dX14_sounds_4 rfl (lv_at hl 1 rfl) ?_
  refine sg_aaldR 9 hx hb F.2.1 hB.1 rfl rfl dX14_sounds_5 (inv_tP h).1 (by omega) (m_ltN (n := 12) (inv_tP h).2 (by omega)) (m_ltM (inv_tP h).2 (by decide)) hpp ?_
  refine lv_astore (lv' := [(5, .ref _), (0, .ref _), (1, .int _), (2, .ref _), (3, .int _), (4, .int _)]) hx hb dX14_sounds_6 hl (by decide) rfl (fun ls hl => ?_)
  refine lv_aload hx hb dX14_sounds_8 (lv_at hl 0 rfl) ?_
  refine gr_X14_199 F hB dX14_sounds_10 tp hl1 ?_
  refine lv_iconst (v := 0) hx hb dX14_sounds_13 (by decide) ?_
  refine sg_callV (ci := 4) F hB (m_getL l D cy (inv_LS h) tl id 0 (by decide) (by rw [m_i0]; omega) ha0 _) (cwV 1 F.1.2.2.2.2 (mgV (mm_4 _ (List.mem_of_getElem? (i := 3) rfl)) (mm_4 _ (List.mem_of_getElem? (i := 4) rfl)) (mm_4 _ (List.mem_of_getElem? (i := 5) rfl)) (mm_0 _ (List.mem_of_getElem? (i := 35) rfl)) (mm_3 _ (List.mem_of_getElem? (i := 34) rfl))) rfl rfl rfl ⟨rfl, by decide, by decide, by decide +kernel⟩ ⟨Nat.le_of_ble_eq_true rfl, Nat.le_of_ble_eq_true rfl⟩) rfl rfl (by decide) rfl hl.1 rfl (Nat.le_of_ble_eq_true rfl) dX14_sounds_14 (Nat.le_of_ble_eq_true rfl) (Nat.add_le_add_right (Nat.le_of_ble_eq_true rfl) _) tl (fun H locs v σ14 N hBn hX14 hP => ?_)
  clear hB; have hB := hBn; clear hBn
  obtain ⟨rfl, rfl⟩ := hP
  refine va_castY hx hb hown (F.1.2.2.2.2 _ (List.mem_cons_of_mem _ (mm_5 _ (List.mem_of_getElem? (i := 25) rfl)))) (F.2.2.1.2.2 ("HubcascadeModel$Transfer", "HubcascadeModel$Transfer") (by decide +kernel)) (sg_recv (ci := 18) F.2.1 hB tt (by decide) rfl) dX14_sounds_17 ?_
  refine lv_astore (lv' := [(6, .ref _), (5, .ref _), (0, .ref _), (1, .int _), (2, .ref _), (3, .int _), (4, .int _)]) hx hb dX14_sounds_20 hl (by decide) rfl (fun ls hl => ?_)
  refine lv_iload hx hb dX14_sounds_22 (lv_at hl 6 rfl) ?_
  refine lv_bipush (v := 98) hx hb dX14_sounds_24 (by decide) ?_
  refine lv_icmp_ne (tgt := 47) hx hb dX14_sounds_26 (by decide) (fun c26 => ?_) (fun c26 => ?_)
  · refine lv_iload_n hx hb dX14_sounds_47 rfl (lv_at hl 5 rfl) ?_
    refine lv_if_le (tgt := 285) hx hb dX14_sounds_48 (by decide) (fun c48 => ?_) (fun c48 => ?_)
    · first
        | have hfin := hI257b
        | have hfin := hI282b
        | have hfin := inv_dnw h wC (iW_C hBC (iW_L hB199 i3 tt3 tx3 hbb.1 hbb.2 (m_ltC hBC i3 hbb.1 hbb.2 c237)))
        | have hfin : Inv eda ia K g n S hw _ := h
      refine lv_iconst (v := 1) hx hb dX14_sounds_285 (by decide) ?_
      exact sg_iret F hB hrt dX14_sounds_286 (by omega) (by omega) (⟨⟨_, rfl, Or.inl rfl⟩, hfin⟩)
    · refine lv_aload_n hx hb dX14_sounds_51 rfl (lv_at hl 2 rfl) ?_
      refine lv_dup hx hb dX14_sounds_52 rfl ?_
      refine gf_X14_366 F hB dX14_sounds_53 (inv_A h) ?_
      refine lv_iload hx hb dX14_sounds_56 (lv_at hl 6 rfl) ?_
      refine lv_bipush (v := 32) hx hb dX14_sounds_58 (by decide) ?_
      refine lv_icmp_eq (tgt := 77) hx hb dX14_sounds_60 (by decide) (fun c60 => ?_) (fun c60 => ?_)
      · refine lv_iconst (v := 1) hx hb dX14_sounds_77 (by decide) ?_
        refine lv_goto (tgt := 82) hx hb dX14_sounds_78 (by decide) ?_
        refine lv_iadd hx hb dX14_sounds_82 ?_
        refine pf_X14_366 F hB dX14_sounds_83 (inv_A h) (fun H locs hBn => ?_)
        clear hB; have hB := hBn; clear hBn
        have hI83 := inv_PIc (t := 20) hB h (inv_A h) (by unfold iCn; omega)
        have z83 := zPIB (l1 := l1) (t := 20) hB (inv_A h) (by decide) tl
        have hb0 := i_nle c48
        rw [m_i0] at hb0
        obtain ⟨kc, hkc⟩ : ∃ kc : Nat, kc = 0 := ⟨_, rfl⟩
        refine W.widen (k := kc) (n := N) (by omega) (Nat.le_refl _) ?_
        refine lv_iconst (v := 0) hx hb dX14_sounds_86 (by decide) ?_
        refine lv_istore (lv' := [(7, .int _), (6, .ref _), (5, .ref _), (0, .ref _), (1, .int _), (2, .ref _), (3, .int _), (4, .int _)]) hx hb dX14_sounds_87 hl (by decide) rfl (fun ls hl => ?_)
        have key89 : ∃ (σ3 : SG) (k9 : Int32) (nc : Nat), sgB D cy s σ σ3 H locs N nc ∧ lv_has ls 9 [(7, .int k9), (6, .ref t0), (5, .ref pp), (4, .int f0), (3, .int b), (2, .ref xe), (1, .int x), (0, .ref (kA K))] ∧ Inv eda ia K g n S hw σ3 ∧ (0 ≤ k9.toInt ∧ k9.toInt ≤ b.toInt) ∧ sgSz σ3 le ≤ sgSz σ le + k9.toInt.toNat ∧ (kc ≤ 2 * k9.toInt.toNat ∧ nc ≤ 16 * k9.toInt.toNat) ∧ zR l1 σ σ3 := ⟨_, _, _, hB, (lv_sub hl [0, 1, 2, 7, 6, 5, 4, 3] rfl), hI83, ⟨by decide, by rw [m_i0]; omega⟩, by rw [m_i0]; exact Nat.le_of_eq (sgSz_nk (by decide)), ⟨by omega, by omega⟩, z83⟩
        clear hB hl hkc
        obtain ⟨σ3, k9, nc, hB, hl, hI3, hi, hzl, hkn, hzr⟩ := key89
        obtain ⟨d89, hd89⟩ : ∃ d : Nat, d = (b.toInt - k9.toInt).toNat := ⟨_, rfl⟩
        induction d89 using Nat.strongRecOn generalizing H locs ls N σ3 k9 nc kc
        rename_i d89 ih89
        have tx3 : sgT σ3 xe = 17 := tFr_T hzr.1 txe (by decide)
        have tp3 : sgT σ3 pp = 18 := tFr_T hzr.1 tp (by decide)
        have tle3 : sgT σ3 le = 5 := tFr_T hzr.1 tle (by decide)
        have hle3 : sgR σ3 xe 3 = some le := (hzr.2.2.2.2.1 xe 3 (by rw [txe]; decide)).trans hle
        have tl3 : sgT σ3 l1 = 5 := tFr_T hzr.1 tl (by decide)
        have tt3 : sgT σ3 t0 = 19 := tFr_T hzr.1 tt (by decide)
        have d3 : sgI σ3 t0 2 = sgI σ t0 2 := hzr.2.1 t0 2 tt
        have x03 : sgI σ3 xe 0 = sgI σ xe 0 := hzr.2.2.2.1 xe 0 txe (by decide)
        refine lv_iload hx hb dX14_sounds_89 (lv_at hl 0 rfl) ?_
        refine lv_iload_n hx hb dX14_sounds_91 rfl (lv_at hl 4 rfl) ?_
        refine lv_icmp_ge (tgt := 191) hx hb dX14_sounds_92 (by decide) (fun c92 => ?_) (fun c92 => ?_)
        · have hi4 := i_le c92
          refine W.widen (k := 16) (n := N) (show kc ≤ 16 from by omega) (Nat.le_refl _) ?_
          have hBn := sgB_up (n2 := 128) hB (show nc ≤ 128 from by omega)
          clear hB; have hB := hBn; clear hBn
          refine lv_aload hx hb dX14_sounds_191 (lv_at hl 1 rfl) ?_
          refine lv_dup hx hb dX14_sounds_193 rfl ?_
          refine gf_X14_284 F hB dX14_sounds_194 tt3 ?_
          refine lv_iload_n hx hb dX14_sounds_197 rfl (lv_at hl 4 rfl) ?_
          refine lv_iadd hx hb dX14_sounds_198 ?_
          refine pf_X14_284 F hB dX14_sounds_199 tt3 (fun H locs hBn => ?_)
          clear hB; have hB := hBn; clear hBn
          have hI199 := inv_dnB hB hI3 tt3
          have w3 := wPp_z h wc hzr
          have wB := wPp_hB hB (wPp_PI w3 (Or.inr ⟨fun z => absurd (tt3.symm.trans z) (by decide), fun z => absurd (tt3.symm.trans z) (by decide)⟩) tp3 tl3)
          have hB199 := hB
          have i3 := iW_tr hzr.1 (inv_T h) tt (hzr.2.1 t0 1 tt) (hzr.2.1 t0 2 tt) x03 (hzr.2.2.2.2.1 t0 0 (by rw [tt]; decide)) ⟨iw1, iw2, iw3, iw4⟩
          refine lv_aload hx hb dX14_sounds_202 (lv_at hl 1 rfl) ?_
          refine lv_aload hx hb dX14_sounds_204 (lv_at hl 1 rfl) ?_
          refine gf_X14_371 F hB dX14_sounds_206 (by exact tt3) ?_
          refine lv_if_ne (tgt := 219) hx hb dX14_sounds_209 (by decide) (fun c209 => ?_) (fun c209 => ?_)
          · refine lv_iconst (v := 1) hx hb dX14_sounds_219 (by decide) ?_
            refine lv_goto (tgt := 224) hx hb dX14_sounds_220 (by decide) ?_
            refine pf_X14_371 F hB dX14_sounds_224 (by exact tt3) ⟨by decide, by decide⟩ (fun H locs hBn => ?_)
            clear hB; have hB := hBn; clear hBn
            have hI224 := inv_PIc (t := 19) hB hI199 (by exact tt3) (by unfold iCn; omega)
            have wC := wPp_hB4 hB (wPp_PI wB (Or.inr ⟨fun z => absurd (tt3.symm.trans z) (by decide), fun z => absurd (tt3.symm.trans z) (by decide)⟩) (by exact tp3) (by exact tl3))
            have hBC := hB
            refine lv_aload hx hb dX14_sounds_227 (lv_at hl 1 rfl) ?_
            refine gf_X14_284 F hB dX14_sounds_229 (by exact tt3) ?_
            refine lv_aload hx hb dX14_sounds_232 (lv_at hl 1 rfl) ?_
            refine gf_X14_338 F hB dX14_sounds_234 (by exact tt3) ?_
            refine lv_icmp_lt (tgt := 263) hx hb dX14_sounds_237 (by decide) (fun c237 => ?_) (fun c237 => ?_)
            · refine lv_aload_n hx hb dX14_sounds_263 rfl (lv_at hl 5 rfl) ?_
              refine gf_X14_300 F hB dX14_sounds_264 (by exact tx3) ?_
              refine lv_if_eq (tgt := 285) hx hb dX14_sounds_267 (by decide) (fun c267 => ?_) (fun c267 => ((c267 ((((sgI_nk (by decide)).trans (sgI_nk (by decide))).trans x03).trans hin)) : False).elim)
              first
                | have hfin := hI257b
                | have hfin := hI282b
                | have hfin := inv_dnw hI224 wC (iW_C hBC (iW_L hB199 i3 tt3 tx3 hbb.1 hbb.2 (m_ltC hBC i3 hbb.1 hbb.2 c237)))
                | have hfin : Inv eda ia K g n S hw _ := hI224
              refine lv_iconst (v := 1) hx hb dX14_sounds_285 (by decide) ?_
              exact sg_iret F hB hrt dX14_sounds_286 (by omega) (by omega) (⟨⟨_, rfl, Or.inl rfl⟩, hfin⟩)
            · obtain ⟨m1, hm1⟩ := m_evm hB (K := K)
              refine lv_aload_n hx hb dX14_sounds_240 rfl (lv_at hl 7 rfl) ?_
              refine lv_iload_n hx hb dX14_sounds_241 rfl (lv_at hl 6 rfl) ?_
              refine lv_aload hx hb dX14_sounds_242 (lv_at hl 1 rfl) ?_
              refine gf_X14_371 F hB dX14_sounds_244 (by exact tt3) ?_
              refine lv_if_eq (tgt := 255) hx hb dX14_sounds_247 (by decide) (fun c247 => ?_) (fun c247 => ?_)
              · refine lv_bipush (v := 100) hx hb dX14_sounds_255 (by decide) ?_
                refine sg_callV (ci := 19) F hB (m_ends l D cy hI224 x _ wC.1.1 wC.1.2 wC.2.1 wC.2.2.1 wC.2.2.2.1 hm1 _) (cwV 2 F.1.2.2.2.2 (mgV (mm_5 _ (List.mem_of_getElem? (i := 33) rfl)) (mm_5 _ (List.mem_of_getElem? (i := 34) rfl)) (mm_5 _ (List.mem_of_getElem? (i := 35) rfl)) (mm_3 _ (List.mem_of_getElem? (i := 23) rfl)) (mm_5 _ (List.mem_of_getElem? (i := 32) rfl))) rfl rfl rfl ⟨rfl, by decide, by decide, by decide +kernel⟩ ⟨Nat.le_of_ble_eq_true rfl, Nat.le_of_ble_eq_true rfl⟩) rfl rfl (by decide) rfl hl.1 rfl (Nat.le_of_ble_eq_true rfl) dX14_sounds_257 (Nat.le_trans (show _ ≤ 18 from by omega) (Nat.le_of_ble_eq_true rfl)) (Nat.add_le_add_right (Nat.le_trans (show _ ≤ 146 from by omega) (Nat.le_of_ble_eq_true rfl)) _) (inv_A hI224) (fun H locs v σ257 N hBn hX257 hP => ?_)
                clear hB; have hB := hBn; clear hBn
                refine W.widen (k := 18) (n := N) (show _ ≤ 18 from by omega) (Nat.le_refl _) ?_
                have hBn := sgB_up (n2 := 146) hB (show _ ≤ 146 from by omega)
                clear hB; have hB := hBn; clear hBn
                obtain ⟨rfl, hI257, en1_257, en2_257, en3_257, en4_257⟩ := hP
                have hI257b := inv_dne hI224 wC hI257 en1_257 en2_257 en4_257
                refine lv_goto (tgt := 285) hx hb dX14_sounds_260 (by decide) ?_
                first
                  | have hfin := hI257b
                  | have hfin := hI282b
                  | have hfin := inv_dnw hI257b wC (iW_C hBC (iW_L hB199 i3 tt3 tx3 hbb.1 hbb.2 (m_ltC hBC i3 hbb.1 hbb.2 c237)))
                  | have hfin : Inv eda ia K g n S hw _ := hI257b
                refine lv_iconst (v := 1) hx hb dX14_sounds_285 (by decide) ?_
                exact sg_iret F hB hrt dX14_sounds_286 (by omega) (by omega) (⟨⟨_, rfl, Or.inl rfl⟩, hfin⟩)
              · refine lv_bipush (v := 108) hx hb dX14_sounds_250 (by decide) ?_
                refine lv_goto (tgt := 257) hx hb dX14_sounds_252 (by decide) ?_
                refine sg_callV (ci := 19) F hB (m_ends l D cy hI224 x _ wC.1.1 wC.1.2 wC.2.1 wC.2.2.1 wC.2.2.2.1 hm1 _) (cwV 2 F.1.2.2.2.2 (mgV (mm_5 _ (List.mem_of_getElem? (i := 33) rfl)) (mm_5 _ (List.mem_of_getElem? (i := 34) rfl)) (mm_5 _ (List.mem_of_getElem? (i := 35) rfl)) (mm_3 _ (List.mem_of_getElem? (i := 23) rfl)) (mm_5 _ (List.mem_of_getElem? (i := 32) rfl))) rfl rfl rfl ⟨rfl, by decide, by decide, by decide +kernel⟩ ⟨Nat.le_of_ble_eq_true rfl, Nat.le_of_ble_eq_true rfl⟩) rfl rfl (by decide) rfl hl.1 rfl (Nat.le_of_ble_eq_true rfl) dX14_sounds_257 (Nat.le_trans (show _ ≤ 18 from by omega) (Nat.le_of_ble_eq_true rfl)) (Nat.add_le_add_right (Nat.le_trans (show _ ≤ 146 from by omega) (Nat.le_of_ble_eq_true rfl)) _) (inv_A hI224) (fun H locs v σ257 N hBn hX257 hP => ?_)
                clear hB; have hB := hBn; clear hBn
                refine W.widen (k := 18) (n := N) (show _ ≤ 18 from by omega) (Nat.le_refl _) ?_
                have hBn := sgB_up (n2 := 146) hB (show _ ≤ 146 from by omega)
                clear hB; have hB := hBn; clear hBn
                obtain ⟨rfl, hI257, en1_257, en2_257, en3_257, en4_257⟩ := hP
                have hI257b := inv_dne hI224 wC hI257 en1_257 en2_257 en4_257
                refine lv_goto (tgt := 285) hx hb dX14_sounds_260 (by decide) ?_
                first
                  | have hfin := hI257b
                  | have hfin := hI282b
                  | have hfin := inv_dnw hI257b wC (iW_C hBC (iW_L hB199 i3 tt3 tx3 hbb.1 hbb.2 (m_ltC hBC i3 hbb.1 hbb.2 c237)))
                  | have hfin : Inv eda ia K g n S hw _ := hI257b
                refine lv_iconst (v := 1) hx hb dX14_sounds_285 (by decide) ?_
                exact sg_iret F hB hrt dX14_sounds_286 (by omega) (by omega) (⟨⟨_, rfl, Or.inl rfl⟩, hfin⟩)
          · refine lv_iload hx hb dX14_sounds_212 (lv_at hl 3 rfl) ?_
            refine lv_bipush (v := 32) hx hb dX14_sounds_214 (by decide) ?_
            refine lv_icmp_eq (tgt := 223) hx hb dX14_sounds_216 (by decide) (fun c216 => ?_) (fun c216 => ?_)
            · refine lv_iconst (v := 0) hx hb dX14_sounds_223 (by decide) ?_
              refine pf_X14_371 F hB dX14_sounds_224 (by exact tt3) ⟨by decide, by decide⟩ (fun H locs hBn => ?_)
              clear hB; have hB := hBn; clear hBn
              have hI224 := inv_PIc (t := 19) hB hI199 (by exact tt3) (by unfold iCn; omega)
              have wC := wPp_hB4 hB (wPp_PI wB (Or.inr ⟨fun z => absurd (tt3.symm.trans z) (by decide), fun z => absurd (tt3.symm.trans z) (by decide)⟩) (by exact tp3) (by exact tl3))
              have hBC := hB
              refine lv_aload hx hb dX14_sounds_227 (lv_at hl 1 rfl) ?_
              refine gf_X14_284 F hB dX14_sounds_229 (by exact tt3) ?_
              refine lv_aload hx hb dX14_sounds_232 (lv_at hl 1 rfl) ?_
              refine gf_X14_338 F hB dX14_sounds_234 (by exact tt3) ?_
              refine lv_icmp_lt (tgt := 263) hx hb dX14_sounds_237 (by decide) (fun c237 => ?_) (fun c237 => ?_)
              · refine lv_aload_n hx hb dX14_sounds_263 rfl (lv_at hl 5 rfl) ?_
                refine gf_X14_300 F hB dX14_sounds_264 (by exact tx3) ?_
                refine lv_if_eq (tgt := 285) hx hb dX14_sounds_267 (by decide) (fun c267 => ?_) (fun c267 => ((c267 ((((sgI_nk (by decide)).trans (sgI_nk (by decide))).trans x03).trans hin)) : False).elim)
                first
                  | have hfin := hI257b
                  | have hfin := hI282b
                  | have hfin := inv_dnw hI224 wC (iW_C hBC (iW_L hB199 i3 tt3 tx3 hbb.1 hbb.2 (m_ltC hBC i3 hbb.1 hbb.2 c237)))
                  | have hfin : Inv eda ia K g n S hw _ := hI224
                refine lv_iconst (v := 1) hx hb dX14_sounds_285 (by decide) ?_
                exact sg_iret F hB hrt dX14_sounds_286 (by omega) (by omega) (⟨⟨_, rfl, Or.inl rfl⟩, hfin⟩)
              · obtain ⟨m1, hm1⟩ := m_evm hB (K := K)
                refine lv_aload_n hx hb dX14_sounds_240 rfl (lv_at hl 7 rfl) ?_
                refine lv_iload_n hx hb dX14_sounds_241 rfl (lv_at hl 6 rfl) ?_
                refine lv_aload hx hb dX14_sounds_242 (lv_at hl 1 rfl) ?_
                refine gf_X14_371 F hB dX14_sounds_244 (by exact tt3) ?_
                refine lv_if_eq (tgt := 255) hx hb dX14_sounds_247 (by decide) (fun c247 => ?_) (fun c247 => ?_)
                · refine lv_bipush (v := 100) hx hb dX14_sounds_255 (by decide) ?_
                  refine sg_callV (ci := 19) F hB (m_ends l D cy hI224 x _ wC.1.1 wC.1.2 wC.2.1 wC.2.2.1 wC.2.2.2.1 hm1 _) (cwV 2 F.1.2.2.2.2 (mgV (mm_5 _ (List.mem_of_getElem? (i := 33) rfl)) (mm_5 _ (List.mem_of_getElem? (i := 34) rfl)) (mm_5 _ (List.mem_of_getElem? (i := 35) rfl)) (mm_3 _ (List.mem_of_getElem? (i := 23) rfl)) (mm_5 _ (List.mem_of_getElem? (i := 32) rfl))) rfl rfl rfl ⟨rfl, by decide, by decide, by decide +kernel⟩ ⟨Nat.le_of_ble_eq_true rfl, Nat.le_of_ble_eq_true rfl⟩) rfl rfl (by decide) rfl hl.1 rfl (Nat.le_of_ble_eq_true rfl) dX14_sounds_257 (Nat.le_trans (show _ ≤ 18 from by omega) (Nat.le_of_ble_eq_true rfl)) (Nat.add_le_add_right (Nat.le_trans (show _ ≤ 146 from by omega) (Nat.le_of_ble_eq_true rfl)) _) (inv_A hI224) (fun H locs v σ257 N hBn hX257 hP => ?_)
                  clear hB; have hB := hBn; clear hBn
                  refine W.widen (k := 18) (n := N) (show _ ≤ 18 from by omega) (Nat.le_refl _) ?_
                  have hBn := sgB_up (n2 := 146) hB (show _ ≤ 146 from by omega)
                  clear hB; have hB := hBn; clear hBn
                  obtain ⟨rfl, hI257, en1_257, en2_257, en3_257, en4_257⟩ := hP
                  have hI257b := inv_dne hI224 wC hI257 en1_257 en2_257 en4_257
                  refine lv_goto (tgt := 285) hx hb dX14_sounds_260 (by decide) ?_
                  first
                    | have hfin := hI257b
                    | have hfin := hI282b
                    | have hfin := inv_dnw hI257b wC (iW_C hBC (iW_L hB199 i3 tt3 tx3 hbb.1 hbb.2 (m_ltC hBC i3 hbb.1 hbb.2 c237)))
                    | have hfin : Inv eda ia K g n S hw _ := hI257b
                  refine lv_iconst (v := 1) hx hb dX14_sounds_285 (by decide) ?_
                  exact sg_iret F hB hrt dX14_sounds_286 (by omega) (by omega) (⟨⟨_, rfl, Or.inl rfl⟩, hfin⟩)
                · refine lv_bipush (v := 108) hx hb dX14_sounds_250 (by decide) ?_
                  refine lv_goto (tgt := 257) hx hb dX14_sounds_252 (by decide) ?_
                  refine sg_callV (ci := 19) F hB (m_ends l D cy hI224 x _ wC.1.1 wC.1.2 wC.2.1 wC.2.2.1 wC.2.2.2.1 hm1 _) (cwV 2 F.1.2.2.2.2 (mgV (mm_5 _ (List.mem_of_getElem? (i := 33) rfl)) (mm_5 _ (List.mem_of_getElem? (i := 34) rfl)) (mm_5 _ (List.mem_of_getElem? (i := 35) rfl)) (mm_3 _ (List.mem_of_getElem? (i := 23) rfl)) (mm_5 _ (List.mem_of_getElem? (i := 32) rfl))) rfl rfl rfl ⟨rfl, by decide, by decide, by decide +kernel⟩ ⟨Nat.le_of_ble_eq_true rfl, Nat.le_of_ble_eq_true rfl⟩) rfl rfl (by decide) rfl hl.1 rfl (Nat.le_of_ble_eq_true rfl) dX14_sounds_257 (Nat.le_trans (show _ ≤ 18 from by omega) (Nat.le_of_ble_eq_true rfl)) (Nat.add_le_add_right (Nat.le_trans (show _ ≤ 146 from by omega) (Nat.le_of_ble_eq_true rfl)) _) (inv_A hI224) (fun H locs v σ257 N hBn hX257 hP => ?_)
                  clear hB; have hB := hBn; clear hBn
                  refine W.widen (k := 18) (n := N) (show _ ≤ 18 from by omega) (Nat.le_refl _) ?_
                  have hBn := sgB_up (n2 := 146) hB (show _ ≤ 146 from by omega)
                  clear hB; have hB := hBn; clear hBn
                  obtain ⟨rfl, hI257, en1_257, en2_257, en3_257, en4_257⟩ := hP
                  have hI257b := inv_dne hI224 wC hI257 en1_257 en2_257 en4_257
                  refine lv_goto (tgt := 285) hx hb dX14_sounds_260 (by decide) ?_
                  first
                    | have hfin := hI257b
                    | have hfin := hI282b
                    | have hfin := inv_dnw hI257b wC (iW_C hBC (iW_L hB199 i3 tt3 tx3 hbb.1 hbb.2 (m_ltC hBC i3 hbb.1 hbb.2 c237)))
                    | have hfin : Inv eda ia K g n S hw _ := hI257b
                  refine lv_iconst (v := 1) hx hb dX14_sounds_285 (by decide) ?_
                  exact sg_iret F hB hrt dX14_sounds_286 (by omega) (by omega) (⟨⟨_, rfl, Or.inl rfl⟩, hfin⟩)
            · refine lv_iconst (v := 1) hx hb dX14_sounds_219 (by decide) ?_
              refine lv_goto (tgt := 224) hx hb dX14_sounds_220 (by decide) ?_
              refine pf_X14_371 F hB dX14_sounds_224 (by exact tt3) ⟨by decide, by decide⟩ (fun H locs hBn => ?_)
              clear hB; have hB := hBn; clear hBn
              have hI224 := inv_PIc (t := 19) hB hI199 (by exact tt3) (by unfold iCn; omega)
              have wC := wPp_hB4 hB (wPp_PI wB (Or.inr ⟨fun z => absurd (tt3.symm.trans z) (by decide), fun z => absurd (tt3.symm.trans z) (by decide)⟩) (by exact tp3) (by exact tl3))
              have hBC := hB
              refine lv_aload hx hb dX14_sounds_227 (lv_at hl 1 rfl) ?_
              refine gf_X14_284 F hB dX14_sounds_229 (by exact tt3) ?_
              refine lv_aload hx hb dX14_sounds_232 (lv_at hl 1 rfl) ?_
              refine gf_X14_338 F hB dX14_sounds_234 (by exact tt3) ?_
              refine lv_icmp_lt (tgt := 263) hx hb dX14_sounds_237 (by decide) (fun c237 => ?_) (fun c237 => ?_)
              · refine lv_aload_n hx hb dX14_sounds_263 rfl (lv_at hl 5 rfl) ?_
                refine gf_X14_300 F hB dX14_sounds_264 (by exact tx3) ?_
                refine lv_if_eq (tgt := 285) hx hb dX14_sounds_267 (by decide) (fun c267 => ?_) (fun c267 => ((c267 ((((sgI_nk (by decide)).trans (sgI_nk (by decide))).trans x03).trans hin)) : False).elim)
                first
                  | have hfin := hI257b
                  | have hfin := hI282b
                  | have hfin := inv_dnw hI224 wC (iW_C hBC (iW_L hB199 i3 tt3 tx3 hbb.1 hbb.2 (m_ltC hBC i3 hbb.1 hbb.2 c237)))
                  | have hfin : Inv eda ia K g n S hw _ := hI224
                refine lv_iconst (v := 1) hx hb dX14_sounds_285 (by decide) ?_
                exact sg_iret F hB hrt dX14_sounds_286 (by omega) (by omega) (⟨⟨_, rfl, Or.inl rfl⟩, hfin⟩)
              · obtain ⟨m1, hm1⟩ := m_evm hB (K := K)
                refine lv_aload_n hx hb dX14_sounds_240 rfl (lv_at hl 7 rfl) ?_
                refine lv_iload_n hx hb dX14_sounds_241 rfl (lv_at hl 6 rfl) ?_
                refine lv_aload hx hb dX14_sounds_242 (lv_at hl 1 rfl) ?_
                refine gf_X14_371 F hB dX14_sounds_244 (by exact tt3) ?_
                refine lv_if_eq (tgt := 255) hx hb dX14_sounds_247 (by decide) (fun c247 => ?_) (fun c247 => ?_)
                · refine lv_bipush (v := 100) hx hb dX14_sounds_255 (by decide) ?_
                  refine sg_callV (ci := 19) F hB (m_ends l D cy hI224 x _ wC.1.1 wC.1.2 wC.2.1 wC.2.2.1 wC.2.2.2.1 hm1 _) (cwV 2 F.1.2.2.2.2 (mgV (mm_5 _ (List.mem_of_getElem? (i := 33) rfl)) (mm_5 _ (List.mem_of_getElem? (i := 34) rfl)) (mm_5 _ (List.mem_of_getElem? (i := 35) rfl)) (mm_3 _ (List.mem_of_getElem? (i := 23) rfl)) (mm_5 _ (List.mem_of_getElem? (i := 32) rfl))) rfl rfl rfl ⟨rfl, by decide, by decide, by decide +kernel⟩ ⟨Nat.le_of_ble_eq_true rfl, Nat.le_of_ble_eq_true rfl⟩) rfl rfl (by decide) rfl hl.1 rfl (Nat.le_of_ble_eq_true rfl) dX14_sounds_257 (Nat.le_trans (show _ ≤ 18 from by omega) (Nat.le_of_ble_eq_true rfl)) (Nat.add_le_add_right (Nat.le_trans (show _ ≤ 146 from by omega) (Nat.le_of_ble_eq_true rfl)) _) (inv_A hI224) (fun H locs v σ257 N hBn hX257 hP => ?_)
                  clear hB; have hB := hBn; clear hBn
                  refine W.widen (k := 18) (n := N) (show _ ≤ 18 from by omega) (Nat.le_refl _) ?_
                  have hBn := sgB_up (n2 := 146) hB (show _ ≤ 146 from by omega)
                  clear hB; have hB := hBn; clear hBn
                  obtain ⟨rfl, hI257, en1_257, en2_257, en3_257, en4_257⟩ := hP
                  have hI257b := inv_dne hI224 wC hI257 en1_257 en2_257 en4_257
                  refine lv_goto (tgt := 285) hx hb dX14_sounds_260 (by decide) ?_
                  first
                    | have hfin := hI257b
                    | have hfin := hI282b
                    | have hfin := inv_dnw hI257b wC (iW_C hBC (iW_L hB199 i3 tt3 tx3 hbb.1 hbb.2 (m_ltC hBC i3 hbb.1 hbb.2 c237)))
                    | have hfin : Inv eda ia K g n S hw _ := hI257b
                  refine lv_iconst (v := 1) hx hb dX14_sounds_285 (by decide) ?_
                  exact sg_iret F hB hrt dX14_sounds_286 (by omega) (by omega) (⟨⟨_, rfl, Or.inl rfl⟩, hfin⟩)
                · refine lv_bipush (v := 108) hx hb dX14_sounds_250 (by decide) ?_
                  refine lv_goto (tgt := 257) hx hb dX14_sounds_252 (by decide) ?_
                  refine sg_callV (ci := 19) F hB (m_ends l D cy hI224 x _ wC.1.1 wC.1.2 wC.2.1 wC.2.2.1 wC.2.2.2.1 hm1 _) (cwV 2 F.1.2.2.2.2 (mgV (mm_5 _ (List.mem_of_getElem? (i := 33) rfl)) (mm_5 _ (List.mem_of_getElem? (i := 34) rfl)) (mm_5 _ (List.mem_of_getElem? (i := 35) rfl)) (mm_3 _ (List.mem_of_getElem? (i := 23) rfl)) (mm_5 _ (List.mem_of_getElem? (i := 32) rfl))) rfl rfl rfl ⟨rfl, by decide, by decide, by decide +kernel⟩ ⟨Nat.le_of_ble_eq_true rfl, Nat.le_of_ble_eq_true rfl⟩) rfl rfl (by decide) rfl hl.1 rfl (Nat.le_of_ble_eq_true rfl) dX14_sounds_257 (Nat.le_trans (show _ ≤ 18 from by omega) (Nat.le_of_ble_eq_true rfl)) (Nat.add_le_add_right (Nat.le_trans (show _ ≤ 146 from by omega) (Nat.le_of_ble_eq_true rfl)) _) (inv_A hI224) (fun H locs v σ257 N hBn hX257 hP => ?_)
                  clear hB; have hB := hBn; clear hBn
                  refine W.widen (k := 18) (n := N) (show _ ≤ 18 from by omega) (Nat.le_refl _) ?_
                  have hBn := sgB_up (n2 := 146) hB (show _ ≤ 146 from by omega)
                  clear hB; have hB := hBn; clear hBn
                  obtain ⟨rfl, hI257, en1_257, en2_257, en3_257, en4_257⟩ := hP
                  have hI257b := inv_dne hI224 wC hI257 en1_257 en2_257 en4_257
                  refine lv_goto (tgt := 285) hx hb dX14_sounds_260 (by decide) ?_
                  first
                    | have hfin := hI257b
                    | have hfin := hI282b
                    | have hfin := inv_dnw hI257b wC (iW_C hBC (iW_L hB199 i3 tt3 tx3 hbb.1 hbb.2 (m_ltC hBC i3 hbb.1 hbb.2 c237)))
                    | have hfin : Inv eda ia K g n S hw _ := hI257b
                  refine lv_iconst (v := 1) hx hb dX14_sounds_285 (by decide) ?_
                  exact sg_iret F hB hrt dX14_sounds_286 (by omega) (by omega) (⟨⟨_, rfl, Or.inl rfl⟩, hfin⟩)
        · have hi4 := i_nle c92
          refine lv_aload_n hx hb dX14_sounds_95 rfl (lv_at hl 5 rfl) ?_
          refine gf_X14_300 F hB dX14_sounds_96 tx3 ?_
          refine lv_if_eq (tgt := 119) hx hb dX14_sounds_99 (by decide) (fun c99 => ?_) (fun c99 => ((c99 ((x03).trans hin)) : False).elim)
          obtain ⟨bt, ht0, tbt, nbt⟩ := inv_T hI3 t0 tt3
          obtain ⟨bt1, ht1, tbt1, nbt1⟩ := inv_T h t0 tt
          have ebt : bt = bt1 := Option.some.inj (ht0.symm.trans ((hzr.2.2.2.2.1 t0 0 (by rw [tt]; decide)).trans ht1))
          have nb3 : sgN σ3 bt = sgN σ bt := by rw [ebt]; exact tFr_N hzr.1 tbt1 (by decide)
          have iw5 := iw4 hin bt (by rw [ebt]; exact ht1)
          have eix : (sgI σ3 t0 2 + k9).toInt = (sgI σ t0 2).toInt + k9.toInt := by rw [d3]; exact m_addb (by omega) (by omega) (by omega) (by omega)
          refine lv_aload hx hb dX14_sounds_119 (lv_at hl 1 rfl) ?_
          refine gr_X14_369 F hB dX14_sounds_121 tt3 ht0 ?_
          refine lv_aload hx hb dX14_sounds_124 (lv_at hl 1 rfl) ?_
          refine gf_X14_284 F hB dX14_sounds_126 tt3 ?_
          refine lv_iload hx hb dX14_sounds_129 (lv_at hl 0 rfl) ?_
          refine lv_iadd hx hb dX14_sounds_131 ?_
          refine sg_iald hx hb F.2.1 hB.1 dX14_sounds_132 tbt (by omega) (by omega) (by omega) ?_
          refine lv_istore (lv' := [(8, .int _), (7, .int _), (6, .ref _), (5, .ref _), (4, .int _), (3, .int _), (2, .ref _), (1, .int _), (0, .ref _)]) hx hb dX14_sounds_133 hl (by decide) rfl (fun ls hl => ?_)
          refine lv_iload hx hb dX14_sounds_135 (lv_at hl 4 rfl) ?_
          refine lv_bipush (v := 32) hx hb dX14_sounds_137 (by decide) ?_
          refine lv_icmp_ne (tgt := 165) hx hb dX14_sounds_139 (by decide) (fun c139 => ?_) (fun c139 => ?_)
          · refine lv_iload hx hb dX14_sounds_165 (lv_at hl 4 rfl) ?_
            refine lv_bipush (v := 32) hx hb dX14_sounds_167 (by decide) ?_
            refine lv_icmp_ne (tgt := 185) hx hb dX14_sounds_169 (by decide) (fun c169 => ?_) (fun c169 => ?_)
            · refine lv_iinc (lv' := [(7, .int _), (8, .int _), (6, .ref _), (5, .ref _), (4, .int _), (3, .int _), (2, .ref _), (1, .int _), (0, .ref _)]) hx hb dX14_sounds_185 hl (k := 1) rfl rfl (by decide) rfl (fun ls hl => ?_)
              refine lv_goto (tgt := 89) hx hb dX14_sounds_188 (by decide) ?_
              have hi3 := i_nle c92
              have e9 : (k9 + Int32.ofInt 1).toInt = k9.toInt + 1 := m_add1 (by omega) (by omega)
              first
                | exact ih89 _ (by subst hd89; rw [e9]; omega) _ _ _ _ _ _ _ _ hB (lv_sub hl [0, 2, 3, 4, 5, 6, 7, 8] rfl) hI181 ⟨by rw [e9]; omega, by rw [e9]; omega⟩ (by rw [e9, ada181, sL5]; omega) ⟨by rw [e9]; show kc + 1 + 1 ≤ _; omega, by rw [e9]; omega⟩ z181 rfl
                | exact ih89 _ (by subst hd89; rw [e9]; omega) _ _ _ _ _ _ _ _ hB (lv_sub hl [0, 2, 3, 4, 5, 6, 7, 8] rfl) hI3 ⟨by rw [e9]; omega, by rw [e9]; omega⟩ (by rw [e9]; omega) ⟨by rw [e9]; omega, by rw [e9]; omega⟩ hzr rfl
            · refine lv_aload_n hx hb dX14_sounds_172 rfl (lv_at hl 6 rfl) ?_
              refine gr_X14_320 F hB dX14_sounds_173 tx3 hle3 ?_
              refine lv_iload hx hb dX14_sounds_176 (lv_at hl 0 rfl) ?_
              refine sg_callS F hB (m_box l D cy _ _) (va_cwS 1 F.1.2.2.2.2 (mgS2 (mm_7 _ (List.mem_of_getElem? (i := 33) rfl)) (mm_7 _ (List.mem_of_getElem? (i := 34) rfl)) (mm_7 _ (List.mem_of_getElem? (i := 30) rfl)) (mm_7 _ (List.mem_of_getElem? (i := 25) rfl))) rfl rfl rfl ⟨by decide, by decide, by decide +kernel⟩ ⟨Nat.le_of_ble_eq_true rfl, Nat.le_of_ble_eq_true rfl⟩) rfl hl.1 rfl (Nat.le_of_ble_eq_true rfl) dX14_sounds_178 (by show _ ≤ 18; omega) (Nat.add_le_add_right (by omega) _)  (fun H locs v σ178 N hBn hX178 hP => ?_)
              clear hB; have hB := hBn; clear hBn
              obtain ⟨y178, rfl, hbx, hqt⟩ := hP
              have ed5 := sg_eda F hB
              have hI178 := inv_Qt hI3 hqt ed5
              have tL5 : sgT σ178 le = 5 := (hqt.1 le (by rw [tle3]; decide)).1.trans tle3
              have sL5 : sgSz σ178 le = sgSz σ3 le := sgSz_Qt hqt tle3
              have z5 := zR_Qt hI3 hqt ed5 tl3
              obtain ⟨ra181, za181, zb181⟩ := (inv_LS hI178).1 _ tL5 id
              refine sg_callV (ci := 4) F hB (m_add l D cy za181 (fun j y h1 h2 => (inv_LS hI178).2.2.1 ra181 j y h1 h2) y178 (iEl_K (l0 := _) (g := g) (j := 0) (by unfold iEl; rw [rle]; exact hbx)) zb181 _) (cwV 1 F.1.2.2.2.2 (mgV (mm_3 _ (List.mem_of_getElem? (i := 9) rfl)) (mm_3 _ (List.mem_of_getElem? (i := 10) rfl)) (mm_3 _ (List.mem_of_getElem? (i := 11) rfl)) (mm_0 _ (List.mem_of_getElem? (i := 35) rfl)) (mm_2 _ (List.mem_of_getElem? (i := 29) rfl))) rfl rfl rfl ⟨rfl, by decide, by decide, by decide +kernel⟩ ⟨Nat.le_of_ble_eq_true rfl, Nat.le_of_ble_eq_true rfl⟩) rfl rfl (by decide) rfl hl.1 rfl (Nat.le_of_ble_eq_true rfl) dX14_sounds_181 (by show _ ≤ 18; omega) (Nat.add_le_add_right (by omega) _) tL5 (fun H locs v σ181 N hBn hX181 hP => ?_)
              clear hB; have hB := hBn; clear hBn
              obtain ⟨rfl, hAd181⟩ := hP
              obtain ⟨hI181, ada181, adb181, adc181, add181, ade181, adf181, adg181, adh181⟩ := inv_ad hI178 tL5 za181 hAd181 (sg_eda F hB) (by unfold iEl; rw [rle]; exact hbx) (by rw [rle]; refine inv_cap ?_ (Or.inr rfl); rw [sL5]; omega) (Or.inl ⟨inv_nD hI178 (by rw [rle]; decide), rfl⟩) (nr7 rle (by decide))
              have z181 : zR l1 σ σ181 := zR_tr hzr (zR_tr z5 (zR_l (l2 := le) add181 adf181 adg181 adh181 (tFr_T z5.1 tl3 (by decide)) nle))
              refine lv_pop hx hb dX14_sounds_184 rfl ?_
              refine lv_iinc (lv' := [(7, .int _), (8, .int _), (6, .ref _), (5, .ref _), (4, .int _), (3, .int _), (2, .ref _), (1, .int _), (0, .ref _)]) hx hb dX14_sounds_185 hl (k := 1) rfl rfl (by decide) rfl (fun ls hl => ?_)
              refine lv_goto (tgt := 89) hx hb dX14_sounds_188 (by decide) ?_
              have hi3 := i_nle c92
              have e9 : (k9 + Int32.ofInt 1).toInt = k9.toInt + 1 := m_add1 (by omega) (by omega)
              first
                | exact ih89 _ (by subst hd89; rw [e9]; omega) _ _ _ _ _ _ _ _ hB (lv_sub hl [0, 2, 3, 4, 5, 6, 7, 8] rfl) hI181 ⟨by rw [e9]; omega, by rw [e9]; omega⟩ (by rw [e9, ada181, sL5]; omega) ⟨by rw [e9]; show kc + 1 + 1 ≤ _; omega, by rw [e9]; omega⟩ z181 rfl
                | exact ih89 _ (by subst hd89; rw [e9]; omega) _ _ _ _ _ _ _ _ hB (lv_sub hl [0, 2, 3, 4, 5, 6, 7, 8] rfl) hI3 ⟨by rw [e9]; omega, by rw [e9]; omega⟩ (by rw [e9]; omega) ⟨by rw [e9]; omega, by rw [e9]; omega⟩ hzr rfl
          · refine lv_aload_n hx hb dX14_sounds_142 rfl (lv_at hl 6 rfl) ?_
            refine gf_X14_300 F hB dX14_sounds_143 tx3 ?_
            refine lv_if_eq (tgt := 165) hx hb dX14_sounds_146 (by decide) (fun c146 => ?_) (fun c146 => ((c146 ((x03).trans hin)) : False).elim)
            refine lv_iload hx hb dX14_sounds_165 (lv_at hl 4 rfl) ?_
            refine lv_bipush (v := 32) hx hb dX14_sounds_167 (by decide) ?_
            refine lv_icmp_ne (tgt := 185) hx hb dX14_sounds_169 (by decide) (fun c169 => ?_) (fun c169 => ?_)
            · refine lv_iinc (lv' := [(7, .int _), (8, .int _), (6, .ref _), (5, .ref _), (4, .int _), (3, .int _), (2, .ref _), (1, .int _), (0, .ref _)]) hx hb dX14_sounds_185 hl (k := 1) rfl rfl (by decide) rfl (fun ls hl => ?_)
              refine lv_goto (tgt := 89) hx hb dX14_sounds_188 (by decide) ?_
              have hi3 := i_nle c92
              have e9 : (k9 + Int32.ofInt 1).toInt = k9.toInt + 1 := m_add1 (by omega) (by omega)
              first
                | exact ih89 _ (by subst hd89; rw [e9]; omega) _ _ _ _ _ _ _ _ hB (lv_sub hl [0, 2, 3, 4, 5, 6, 7, 8] rfl) hI181 ⟨by rw [e9]; omega, by rw [e9]; omega⟩ (by rw [e9, ada181, sL5]; omega) ⟨by rw [e9]; show kc + 1 + 1 ≤ _; omega, by rw [e9]; omega⟩ z181 rfl
                | exact ih89 _ (by subst hd89; rw [e9]; omega) _ _ _ _ _ _ _ _ hB (lv_sub hl [0, 2, 3, 4, 5, 6, 7, 8] rfl) hI3 ⟨by rw [e9]; omega, by rw [e9]; omega⟩ (by rw [e9]; omega) ⟨by rw [e9]; omega, by rw [e9]; omega⟩ hzr rfl
            · refine lv_aload_n hx hb dX14_sounds_172 rfl (lv_at hl 6 rfl) ?_
              refine gr_X14_320 F hB dX14_sounds_173 tx3 hle3 ?_
              refine lv_iload hx hb dX14_sounds_176 (lv_at hl 0 rfl) ?_
              refine sg_callS F hB (m_box l D cy _ _) (va_cwS 1 F.1.2.2.2.2 (mgS2 (mm_7 _ (List.mem_of_getElem? (i := 33) rfl)) (mm_7 _ (List.mem_of_getElem? (i := 34) rfl)) (mm_7 _ (List.mem_of_getElem? (i := 30) rfl)) (mm_7 _ (List.mem_of_getElem? (i := 25) rfl))) rfl rfl rfl ⟨by decide, by decide, by decide +kernel⟩ ⟨Nat.le_of_ble_eq_true rfl, Nat.le_of_ble_eq_true rfl⟩) rfl hl.1 rfl (Nat.le_of_ble_eq_true rfl) dX14_sounds_178 (by show _ ≤ 18; omega) (Nat.add_le_add_right (by omega) _)  (fun H locs v σ178 N hBn hX178 hP => ?_)
              clear hB; have hB := hBn; clear hBn
              obtain ⟨y178, rfl, hbx, hqt⟩ := hP
              have ed5 := sg_eda F hB
              have hI178 := inv_Qt hI3 hqt ed5
              have tL5 : sgT σ178 le = 5 := (hqt.1 le (by rw [tle3]; decide)).1.trans tle3
              have sL5 : sgSz σ178 le = sgSz σ3 le := sgSz_Qt hqt tle3
              have z5 := zR_Qt hI3 hqt ed5 tl3
              obtain ⟨ra181, za181, zb181⟩ := (inv_LS hI178).1 _ tL5 id
              refine sg_callV (ci := 4) F hB (m_add l D cy za181 (fun j y h1 h2 => (inv_LS hI178).2.2.1 ra181 j y h1 h2) y178 (iEl_K (l0 := _) (g := g) (j := 0) (by unfold iEl; rw [rle]; exact hbx)) zb181 _) (cwV 1 F.1.2.2.2.2 (mgV (mm_3 _ (List.mem_of_getElem? (i := 9) rfl)) (mm_3 _ (List.mem_of_getElem? (i := 10) rfl)) (mm_3 _ (List.mem_of_getElem? (i := 11) rfl)) (mm_0 _ (List.mem_of_getElem? (i := 35) rfl)) (mm_2 _ (List.mem_of_getElem? (i := 29) rfl))) rfl rfl rfl ⟨rfl, by decide, by decide, by decide +kernel⟩ ⟨Nat.le_of_ble_eq_true rfl, Nat.le_of_ble_eq_true rfl⟩) rfl rfl (by decide) rfl hl.1 rfl (Nat.le_of_ble_eq_true rfl) dX14_sounds_181 (by show _ ≤ 18; omega) (Nat.add_le_add_right (by omega) _) tL5 (fun H locs v σ181 N hBn hX181 hP => ?_)
              clear hB; have hB := hBn; clear hBn
              obtain ⟨rfl, hAd181⟩ := hP
              obtain ⟨hI181, ada181, adb181, adc181, add181, ade181, adf181, adg181, adh181⟩ := inv_ad hI178 tL5 za181 hAd181 (sg_eda F hB) (by unfold iEl; rw [rle]; exact hbx) (by rw [rle]; refine inv_cap ?_ (Or.inr rfl); rw [sL5]; omega) (Or.inl ⟨inv_nD hI178 (by rw [rle]; decide), rfl⟩) (nr7 rle (by decide))
              have z181 : zR l1 σ σ181 := zR_tr hzr (zR_tr z5 (zR_l (l2 := le) add181 adf181 adg181 adh181 (tFr_T z5.1 tl3 (by decide)) nle))
              refine lv_pop hx hb dX14_sounds_184 rfl ?_
              refine lv_iinc (lv' := [(7, .int _), (8, .int _), (6, .ref _), (5, .ref _), (4, .int _), (3, .int _), (2, .ref _), (1, .int _), (0, .ref _)]) hx hb dX14_sounds_185 hl (k := 1) rfl rfl (by decide) rfl (fun ls hl => ?_)
              refine lv_goto (tgt := 89) hx hb dX14_sounds_188 (by decide) ?_
              have hi3 := i_nle c92
              have e9 : (k9 + Int32.ofInt 1).toInt = k9.toInt + 1 := m_add1 (by omega) (by omega)
              first
                | exact ih89 _ (by subst hd89; rw [e9]; omega) _ _ _ _ _ _ _ _ hB (lv_sub hl [0, 2, 3, 4, 5, 6, 7, 8] rfl) hI181 ⟨by rw [e9]; omega, by rw [e9]; omega⟩ (by rw [e9, ada181, sL5]; omega) ⟨by rw [e9]; show kc + 1 + 1 ≤ _; omega, by rw [e9]; omega⟩ z181 rfl
                | exact ih89 _ (by subst hd89; rw [e9]; omega) _ _ _ _ _ _ _ _ hB (lv_sub hl [0, 2, 3, 4, 5, 6, 7, 8] rfl) hI3 ⟨by rw [e9]; omega, by rw [e9]; omega⟩ (by rw [e9]; omega) ⟨by rw [e9]; omega, by rw [e9]; omega⟩ hzr rfl
      · refine lv_iload hx hb dX14_sounds_63 (lv_at hl 6 rfl) ?_
        refine lv_bipush (v := 100) hx hb dX14_sounds_65 (by decide) ?_
        refine lv_icmp_eq (tgt := 77) hx hb dX14_sounds_67 (by decide) (fun c67 => ?_) (fun c67 => ?_)
        · refine lv_iconst (v := 1) hx hb dX14_sounds_77 (by decide) ?_
          refine lv_goto (tgt := 82) hx hb dX14_sounds_78 (by decide) ?_
          refine lv_iadd hx hb dX14_sounds_82 ?_
          refine pf_X14_366 F hB dX14_sounds_83 (inv_A h) (fun H locs hBn => ?_)
          clear hB; have hB := hBn; clear hBn
          have hI83 := inv_PIc (t := 20) hB h (inv_A h) (by unfold iCn; omega)
          have z83 := zPIB (l1 := l1) (t := 20) hB (inv_A h) (by decide) tl
          have hb0 := i_nle c48
          rw [m_i0] at hb0
          obtain ⟨kc, hkc⟩ : ∃ kc : Nat, kc = 0 := ⟨_, rfl⟩
          refine W.widen (k := kc) (n := N) (by omega) (Nat.le_refl _) ?_
          refine lv_iconst (v := 0) hx hb dX14_sounds_86 (by decide) ?_
          refine lv_istore (lv' := [(7, .int _), (6, .ref _), (5, .ref _), (0, .ref _), (1, .int _), (2, .ref _), (3, .int _), (4, .int _)]) hx hb dX14_sounds_87 hl (by decide) rfl (fun ls hl => ?_)
          have key89 : ∃ (σ3 : SG) (k9 : Int32) (nc : Nat), sgB D cy s σ σ3 H locs N nc ∧ lv_has ls 9 [(7, .int k9), (6, .ref t0), (5, .ref pp), (4, .int f0), (3, .int b), (2, .ref xe), (1, .int x), (0, .ref (kA K))] ∧ Inv eda ia K g n S hw σ3 ∧ (0 ≤ k9.toInt ∧ k9.toInt ≤ b.toInt) ∧ sgSz σ3 le ≤ sgSz σ le + k9.toInt.toNat ∧ (kc ≤ 2 * k9.toInt.toNat ∧ nc ≤ 16 * k9.toInt.toNat) ∧ zR l1 σ σ3 := ⟨_, _, _, hB, (lv_sub hl [0, 1, 2, 7, 6, 5, 4, 3] rfl), hI83, ⟨by decide, by rw [m_i0]; omega⟩, by rw [m_i0]; exact Nat.le_of_eq (sgSz_nk (by decide)), ⟨by omega, by omega⟩, z83⟩
          clear hB hl hkc
          obtain ⟨σ3, k9, nc, hB, hl, hI3, hi, hzl, hkn, hzr⟩ := key89
          obtain ⟨d89, hd89⟩ : ∃ d : Nat, d = (b.toInt - k9.toInt).toNat := ⟨_, rfl⟩
          induction d89 using Nat.strongRecOn generalizing H locs ls N σ3 k9 nc kc
          rename_i d89 ih89
          have tx3 : sgT σ3 xe = 17 := tFr_T hzr.1 txe (by decide)
          have tp3 : sgT σ3 pp = 18 := tFr_T hzr.1 tp (by decide)
          have tle3 : sgT σ3 le = 5 := tFr_T hzr.1 tle (by decide)
          have hle3 : sgR σ3 xe 3 = some le := (hzr.2.2.2.2.1 xe 3 (by rw [txe]; decide)).trans hle
          have tl3 : sgT σ3 l1 = 5 := tFr_T hzr.1 tl (by decide)
          have tt3 : sgT σ3 t0 = 19 := tFr_T hzr.1 tt (by decide)
          have d3 : sgI σ3 t0 2 = sgI σ t0 2 := hzr.2.1 t0 2 tt
          have x03 : sgI σ3 xe 0 = sgI σ xe 0 := hzr.2.2.2.1 xe 0 txe (by decide)
          refine lv_iload hx hb dX14_sounds_89 (lv_at hl 0 rfl) ?_
          refine lv_iload_n hx hb dX14_sounds_91 rfl (lv_at hl 4 rfl) ?_
          refine lv_icmp_ge (tgt := 191) hx hb dX14_sounds_92 (by decide) (fun c92 => ?_) (fun c92 => ?_)
          · have hi4 := i_le c92
            refine W.widen (k := 16) (n := N) (show kc ≤ 16 from by omega) (Nat.le_refl _) ?_
            have hBn := sgB_up (n2 := 128) hB (show nc ≤ 128 from by omega)
            clear hB; have hB := hBn; clear hBn
            refine lv_aload hx hb dX14_sounds_191 (lv_at hl 1 rfl) ?_
            refine lv_dup hx hb dX14_sounds_193 rfl ?_
            refine gf_X14_284 F hB dX14_sounds_194 tt3 ?_
            refine lv_iload_n hx hb dX14_sounds_197 rfl (lv_at hl 4 rfl) ?_
            refine lv_iadd hx hb dX14_sounds_198 ?_
            refine pf_X14_284 F hB dX14_sounds_199 tt3 (fun H locs hBn => ?_)
            clear hB; have hB := hBn; clear hBn
            have hI199 := inv_dnB hB hI3 tt3
            have w3 := wPp_z h wc hzr
            have wB := wPp_hB hB (wPp_PI w3 (Or.inr ⟨fun z => absurd (tt3.symm.trans z) (by decide), fun z => absurd (tt3.symm.trans z) (by decide)⟩) tp3 tl3)
            have hB199 := hB
            have i3 := iW_tr hzr.1 (inv_T h) tt (hzr.2.1 t0 1 tt) (hzr.2.1 t0 2 tt) x03 (hzr.2.2.2.2.1 t0 0 (by rw [tt]; decide)) ⟨iw1, iw2, iw3, iw4⟩
            refine lv_aload hx hb dX14_sounds_202 (lv_at hl 1 rfl) ?_
            refine lv_aload hx hb dX14_sounds_204 (lv_at hl 1 rfl) ?_
            refine gf_X14_371 F hB dX14_sounds_206 (by exact tt3) ?_
            refine lv_if_ne (tgt := 219) hx hb dX14_sounds_209 (by decide) (fun c209 => ?_) (fun c209 => ?_)
            · refine lv_iconst (v := 1) hx hb dX14_sounds_219 (by decide) ?_
              refine lv_goto (tgt := 224) hx hb dX14_sounds_220 (by decide) ?_
              refine pf_X14_371 F hB dX14_sounds_224 (by exact tt3) ⟨by decide, by decide⟩ (fun H locs hBn => ?_)
              clear hB; have hB := hBn; clear hBn
              have hI224 := inv_PIc (t := 19) hB hI199 (by exact tt3) (by unfold iCn; omega)
              have wC := wPp_hB4 hB (wPp_PI wB (Or.inr ⟨fun z => absurd (tt3.symm.trans z) (by decide), fun z => absurd (tt3.symm.trans z) (by decide)⟩) (by exact tp3) (by exact tl3))
              have hBC := hB
              refine lv_aload hx hb dX14_sounds_227 (lv_at hl 1 rfl) ?_
              refine gf_X14_284 F hB dX14_sounds_229 (by exact tt3) ?_
              refine lv_aload hx hb dX14_sounds_232 (lv_at hl 1 rfl) ?_
              refine gf_X14_338 F hB dX14_sounds_234 (by exact tt3) ?_
              refine lv_icmp_lt (tgt := 263) hx hb dX14_sounds_237 (by decide) (fun c237 => ?_) (fun c237 => ?_)
              · refine lv_aload_n hx hb dX14_sounds_263 rfl (lv_at hl 5 rfl) ?_
                refine gf_X14_300 F hB dX14_sounds_264 (by exact tx3) ?_
                refine lv_if_eq (tgt := 285) hx hb dX14_sounds_267 (by decide) (fun c267 => ?_) (fun c267 => ((c267 ((((sgI_nk (by decide)).trans (sgI_nk (by decide))).trans x03).trans hin)) : False).elim)
                first
                  | have hfin := hI257b
                  | have hfin := hI282b
                  | have hfin := inv_dnw hI224 wC (iW_C hBC (iW_L hB199 i3 tt3 tx3 hbb.1 hbb.2 (m_ltC hBC i3 hbb.1 hbb.2 c237)))
                  | have hfin : Inv eda ia K g n S hw _ := hI224
                refine lv_iconst (v := 1) hx hb dX14_sounds_285 (by decide) ?_
                exact sg_iret F hB hrt dX14_sounds_286 (by omega) (by omega) (⟨⟨_, rfl, Or.inl rfl⟩, hfin⟩)
              · obtain ⟨m1, hm1⟩ := m_evm hB (K := K)
                refine lv_aload_n hx hb dX14_sounds_240 rfl (lv_at hl 7 rfl) ?_
                refine lv_iload_n hx hb dX14_sounds_241 rfl (lv_at hl 6 rfl) ?_
                refine lv_aload hx hb dX14_sounds_242 (lv_at hl 1 rfl) ?_
                refine gf_X14_371 F hB dX14_sounds_244 (by exact tt3) ?_
                refine lv_if_eq (tgt := 255) hx hb dX14_sounds_247 (by decide) (fun c247 => ?_) (fun c247 => ?_)
                · refine lv_bipush (v := 100) hx hb dX14_sounds_255 (by decide) ?_
                  refine sg_callV (ci := 19) F hB (m_ends l D cy hI224 x _ wC.1.1 wC.1.2 wC.2.1 wC.2.2.1 wC.2.2.2.1 hm1 _) (cwV 2 F.1.2.2.2.2 (mgV (mm_5 _ (List.mem_of_getElem? (i := 33) rfl)) (mm_5 _ (List.mem_of_getElem? (i := 34) rfl)) (mm_5 _ (List.mem_of_getElem? (i := 35) rfl)) (mm_3 _ (List.mem_of_getElem? (i := 23) rfl)) (mm_5 _ (List.mem_of_getElem? (i := 32) rfl))) rfl rfl rfl ⟨rfl, by decide, by decide, by decide +kernel⟩ ⟨Nat.le_of_ble_eq_true rfl, Nat.le_of_ble_eq_true rfl⟩) rfl rfl (by decide) rfl hl.1 rfl (Nat.le_of_ble_eq_true rfl) dX14_sounds_257 (Nat.le_trans (show _ ≤ 18 from by omega) (Nat.le_of_ble_eq_true rfl)) (Nat.add_le_add_right (Nat.le_trans (show _ ≤ 146 from by omega) (Nat.le_of_ble_eq_true rfl)) _) (inv_A hI224) (fun H locs v σ257 N hBn hX257 hP => ?_)
                  clear hB; have hB := hBn; clear hBn
                  refine W.widen (k := 18) (n := N) (show _ ≤ 18 from by omega) (Nat.le_refl _) ?_
                  have hBn := sgB_up (n2 := 146) hB (show _ ≤ 146 from by omega)
                  clear hB; have hB := hBn; clear hBn
                  obtain ⟨rfl, hI257, en1_257, en2_257, en3_257, en4_257⟩ := hP
                  have hI257b := inv_dne hI224 wC hI257 en1_257 en2_257 en4_257
                  refine lv_goto (tgt := 285) hx hb dX14_sounds_260 (by decide) ?_
                  first
                    | have hfin := hI257b
                    | have hfin := hI282b
                    | have hfin := inv_dnw hI257b wC (iW_C hBC (iW_L hB199 i3 tt3 tx3 hbb.1 hbb.2 (m_ltC hBC i3 hbb.1 hbb.2 c237)))
                    | have hfin : Inv eda ia K g n S hw _ := hI257b
                  refine lv_iconst (v := 1) hx hb dX14_sounds_285 (by decide) ?_
                  exact sg_iret F hB hrt dX14_sounds_286 (by omega) (by omega) (⟨⟨_, rfl, Or.inl rfl⟩, hfin⟩)
                · refine lv_bipush (v := 108) hx hb dX14_sounds_250 (by decide) ?_
                  refine lv_goto (tgt := 257) hx hb dX14_sounds_252 (by decide) ?_
                  refine sg_callV (ci := 19) F hB (m_ends l D cy hI224 x _ wC.1.1 wC.1.2 wC.2.1 wC.2.2.1 wC.2.2.2.1 hm1 _) (cwV 2 F.1.2.2.2.2 (mgV (mm_5 _ (List.mem_of_getElem? (i := 33) rfl)) (mm_5 _ (List.mem_of_getElem? (i := 34) rfl)) (mm_5 _ (List.mem_of_getElem? (i := 35) rfl)) (mm_3 _ (List.mem_of_getElem? (i := 23) rfl)) (mm_5 _ (List.mem_of_getElem? (i := 32) rfl))) rfl rfl rfl ⟨rfl, by decide, by decide, by decide +kernel⟩ ⟨Nat.le_of_ble_eq_true rfl, Nat.le_of_ble_eq_true rfl⟩) rfl rfl (by decide) rfl hl.1 rfl (Nat.le_of_ble_eq_true rfl) dX14_sounds_257 (Nat.le_trans (show _ ≤ 18 from by omega) (Nat.le_of_ble_eq_true rfl)) (Nat.add_le_add_right (Nat.le_trans (show _ ≤ 146 from by omega) (Nat.le_of_ble_eq_true rfl)) _) (inv_A hI224) (fun H locs v σ257 N hBn hX257 hP => ?_)
                  clear hB; have hB := hBn; clear hBn
                  refine W.widen (k := 18) (n := N) (show _ ≤ 18 from by omega) (Nat.le_refl _) ?_
                  have hBn := sgB_up (n2 := 146) hB (show _ ≤ 146 from by omega)
                  clear hB; have hB := hBn; clear hBn
                  obtain ⟨rfl, hI257, en1_257, en2_257, en3_257, en4_257⟩ := hP
                  have hI257b := inv_dne hI224 wC hI257 en1_257 en2_257 en4_257
                  refine lv_goto (tgt := 285) hx hb dX14_sounds_260 (by decide) ?_
                  first
                    | have hfin := hI257b
                    | have hfin := hI282b
                    | have hfin := inv_dnw hI257b wC (iW_C hBC (iW_L hB199 i3 tt3 tx3 hbb.1 hbb.2 (m_ltC hBC i3 hbb.1 hbb.2 c237)))
                    | have hfin : Inv eda ia K g n S hw _ := hI257b
                  refine lv_iconst (v := 1) hx hb dX14_sounds_285 (by decide) ?_
                  exact sg_iret F hB hrt dX14_sounds_286 (by omega) (by omega) (⟨⟨_, rfl, Or.inl rfl⟩, hfin⟩)
            · refine lv_iload hx hb dX14_sounds_212 (lv_at hl 3 rfl) ?_
              refine lv_bipush (v := 32) hx hb dX14_sounds_214 (by decide) ?_
              refine lv_icmp_eq (tgt := 223) hx hb dX14_sounds_216 (by decide) (fun c216 => ?_) (fun c216 => ?_)
              · refine lv_iconst (v := 0) hx hb dX14_sounds_223 (by decide) ?_
                refine pf_X14_371 F hB dX14_sounds_224 (by exact tt3) ⟨by decide, by decide⟩ (fun H locs hBn => ?_)
                clear hB; have hB := hBn; clear hBn
                have hI224 := inv_PIc (t := 19) hB hI199 (by exact tt3) (by unfold iCn; omega)
                have wC := wPp_hB4 hB (wPp_PI wB (Or.inr ⟨fun z => absurd (tt3.symm.trans z) (by decide), fun z => absurd (tt3.symm.trans z) (by decide)⟩) (by exact tp3) (by exact tl3))
                have hBC := hB
                refine lv_aload hx hb dX14_sounds_227 (lv_at hl 1 rfl) ?_
                refine gf_X14_284 F hB dX14_sounds_229 (by exact tt3) ?_
                refine lv_aload hx hb dX14_sounds_232 (lv_at hl 1 rfl) ?_
                refine gf_X14_338 F hB dX14_sounds_234 (by exact tt3) ?_
                refine lv_icmp_lt (tgt := 263) hx hb dX14_sounds_237 (by decide) (fun c237 => ?_) (fun c237 => ?_)
                · refine lv_aload_n hx hb dX14_sounds_263 rfl (lv_at hl 5 rfl) ?_
                  refine gf_X14_300 F hB dX14_sounds_264 (by exact tx3) ?_
                  refine lv_if_eq (tgt := 285) hx hb dX14_sounds_267 (by decide) (fun c267 => ?_) (fun c267 => ((c267 ((((sgI_nk (by decide)).trans (sgI_nk (by decide))).trans x03).trans hin)) : False).elim)
                  first
                    | have hfin := hI257b
                    | have hfin := hI282b
                    | have hfin := inv_dnw hI224 wC (iW_C hBC (iW_L hB199 i3 tt3 tx3 hbb.1 hbb.2 (m_ltC hBC i3 hbb.1 hbb.2 c237)))
                    | have hfin : Inv eda ia K g n S hw _ := hI224
                  refine lv_iconst (v := 1) hx hb dX14_sounds_285 (by decide) ?_
                  exact sg_iret F hB hrt dX14_sounds_286 (by omega) (by omega) (⟨⟨_, rfl, Or.inl rfl⟩, hfin⟩)
                · obtain ⟨m1, hm1⟩ := m_evm hB (K := K)
                  refine lv_aload_n hx hb dX14_sounds_240 rfl (lv_at hl 7 rfl) ?_
                  refine lv_iload_n hx hb dX14_sounds_241 rfl (lv_at hl 6 rfl) ?_
                  refine lv_aload hx hb dX14_sounds_242 (lv_at hl 1 rfl) ?_
                  refine gf_X14_371 F hB dX14_sounds_244 (by exact tt3) ?_
                  refine lv_if_eq (tgt := 255) hx hb dX14_sounds_247 (by decide) (fun c247 => ?_) (fun c247 => ?_)
                  · refine lv_bipush (v := 100) hx hb dX14_sounds_255 (by decide) ?_
                    refine sg_callV (ci := 19) F hB (m_ends l D cy hI224 x _ wC.1.1 wC.1.2 wC.2.1 wC.2.2.1 wC.2.2.2.1 hm1 _) (cwV 2 F.1.2.2.2.2 (mgV (mm_5 _ (List.mem_of_getElem? (i := 33) rfl)) (mm_5 _ (List.mem_of_getElem? (i := 34) rfl)) (mm_5 _ (List.mem_of_getElem? (i := 35) rfl)) (mm_3 _ (List.mem_of_getElem? (i := 23) rfl)) (mm_5 _ (List.mem_of_getElem? (i := 32) rfl))) rfl rfl rfl ⟨rfl, by decide, by decide, by decide +kernel⟩ ⟨Nat.le_of_ble_eq_true rfl, Nat.le_of_ble_eq_true rfl⟩) rfl rfl (by decide) rfl hl.1 rfl (Nat.le_of_ble_eq_true rfl) dX14_sounds_257 (Nat.le_trans (show _ ≤ 18 from by omega) (Nat.le_of_ble_eq_true rfl)) (Nat.add_le_add_right (Nat.le_trans (show _ ≤ 146 from by omega) (Nat.le_of_ble_eq_true rfl)) _) (inv_A hI224) (fun H locs v σ257 N hBn hX257 hP => ?_)
                    clear hB; have hB := hBn; clear hBn
                    refine W.widen (k := 18) (n := N) (show _ ≤ 18 from by omega) (Nat.le_refl _) ?_
                    have hBn := sgB_up (n2 := 146) hB (show _ ≤ 146 from by omega)
                    clear hB; have hB := hBn; clear hBn
                    obtain ⟨rfl, hI257, en1_257, en2_257, en3_257, en4_257⟩ := hP
                    have hI257b := inv_dne hI224 wC hI257 en1_257 en2_257 en4_257
                    refine lv_goto (tgt := 285) hx hb dX14_sounds_260 (by decide) ?_
                    first
                      | have hfin := hI257b
                      | have hfin := hI282b
                      | have hfin := inv_dnw hI257b wC (iW_C hBC (iW_L hB199 i3 tt3 tx3 hbb.1 hbb.2 (m_ltC hBC i3 hbb.1 hbb.2 c237)))
                      | have hfin : Inv eda ia K g n S hw _ := hI257b
                    refine lv_iconst (v := 1) hx hb dX14_sounds_285 (by decide) ?_
                    exact sg_iret F hB hrt dX14_sounds_286 (by omega) (by omega) (⟨⟨_, rfl, Or.inl rfl⟩, hfin⟩)
                  · refine lv_bipush (v := 108) hx hb dX14_sounds_250 (by decide) ?_
                    refine lv_goto (tgt := 257) hx hb dX14_sounds_252 (by decide) ?_
                    refine sg_callV (ci := 19) F hB (m_ends l D cy hI224 x _ wC.1.1 wC.1.2 wC.2.1 wC.2.2.1 wC.2.2.2.1 hm1 _) (cwV 2 F.1.2.2.2.2 (mgV (mm_5 _ (List.mem_of_getElem? (i := 33) rfl)) (mm_5 _ (List.mem_of_getElem? (i := 34) rfl)) (mm_5 _ (List.mem_of_getElem? (i := 35) rfl)) (mm_3 _ (List.mem_of_getElem? (i := 23) rfl)) (mm_5 _ (List.mem_of_getElem? (i := 32) rfl))) rfl rfl rfl ⟨rfl, by decide, by decide, by decide +kernel⟩ ⟨Nat.le_of_ble_eq_true rfl, Nat.le_of_ble_eq_true rfl⟩) rfl rfl (by decide) rfl hl.1 rfl (Nat.le_of_ble_eq_true rfl) dX14_sounds_257 (Nat.le_trans (show _ ≤ 18 from by omega) (Nat.le_of_ble_eq_true rfl)) (Nat.add_le_add_right (Nat.le_trans (show _ ≤ 146 from by omega) (Nat.le_of_ble_eq_true rfl)) _) (inv_A hI224) (fun H locs v σ257 N hBn hX257 hP => ?_)
                    clear hB; have hB := hBn; clear hBn
                    refine W.widen (k := 18) (n := N) (show _ ≤ 18 from by omega) (Nat.le_refl _) ?_
                    have hBn := sgB_up (n2 := 146) hB (show _ ≤ 146 from by omega)
                    clear hB; have hB := hBn; clear hBn
                    obtain ⟨rfl, hI257, en1_257, en2_257, en3_257, en4_257⟩ := hP
                    have hI257b := inv_dne hI224 wC hI257 en1_257 en2_257 en4_257
                    refine lv_goto (tgt := 285) hx hb dX14_sounds_260 (by decide) ?_
                    first
                      | have hfin := hI257b
                      | have hfin := hI282b
                      | have hfin := inv_dnw hI257b wC (iW_C hBC (iW_L hB199 i3 tt3 tx3 hbb.1 hbb.2 (m_ltC hBC i3 hbb.1 hbb.2 c237)))
                      | have hfin : Inv eda ia K g n S hw _ := hI257b
                    refine lv_iconst (v := 1) hx hb dX14_sounds_285 (by decide) ?_
                    exact sg_iret F hB hrt dX14_sounds_286 (by omega) (by omega) (⟨⟨_, rfl, Or.inl rfl⟩, hfin⟩)
              · refine lv_iconst (v := 1) hx hb dX14_sounds_219 (by decide) ?_
                refine lv_goto (tgt := 224) hx hb dX14_sounds_220 (by decide) ?_
                refine pf_X14_371 F hB dX14_sounds_224 (by exact tt3) ⟨by decide, by decide⟩ (fun H locs hBn => ?_)
                clear hB; have hB := hBn; clear hBn
                have hI224 := inv_PIc (t := 19) hB hI199 (by exact tt3) (by unfold iCn; omega)
                have wC := wPp_hB4 hB (wPp_PI wB (Or.inr ⟨fun z => absurd (tt3.symm.trans z) (by decide), fun z => absurd (tt3.symm.trans z) (by decide)⟩) (by exact tp3) (by exact tl3))
                have hBC := hB
                refine lv_aload hx hb dX14_sounds_227 (lv_at hl 1 rfl) ?_
                refine gf_X14_284 F hB dX14_sounds_229 (by exact tt3) ?_
                refine lv_aload hx hb dX14_sounds_232 (lv_at hl 1 rfl) ?_
                refine gf_X14_338 F hB dX14_sounds_234 (by exact tt3) ?_
                refine lv_icmp_lt (tgt := 263) hx hb dX14_sounds_237 (by decide) (fun c237 => ?_) (fun c237 => ?_)
                · refine lv_aload_n hx hb dX14_sounds_263 rfl (lv_at hl 5 rfl) ?_
                  refine gf_X14_300 F hB dX14_sounds_264 (by exact tx3) ?_
                  refine lv_if_eq (tgt := 285) hx hb dX14_sounds_267 (by decide) (fun c267 => ?_) (fun c267 => ((c267 ((((sgI_nk (by decide)).trans (sgI_nk (by decide))).trans x03).trans hin)) : False).elim)
                  first
                    | have hfin := hI257b
                    | have hfin := hI282b
                    | have hfin := inv_dnw hI224 wC (iW_C hBC (iW_L hB199 i3 tt3 tx3 hbb.1 hbb.2 (m_ltC hBC i3 hbb.1 hbb.2 c237)))
                    | have hfin : Inv eda ia K g n S hw _ := hI224
                  refine lv_iconst (v := 1) hx hb dX14_sounds_285 (by decide) ?_
                  exact sg_iret F hB hrt dX14_sounds_286 (by omega) (by omega) (⟨⟨_, rfl, Or.inl rfl⟩, hfin⟩)
                · obtain ⟨m1, hm1⟩ := m_evm hB (K := K)
                  refine lv_aload_n hx hb dX14_sounds_240 rfl (lv_at hl 7 rfl) ?_
                  refine lv_iload_n hx hb dX14_sounds_241 rfl (lv_at hl 6 rfl) ?_
                  refine lv_aload hx hb dX14_sounds_242 (lv_at hl 1 rfl) ?_
                  refine gf_X14_371 F hB dX14_sounds_244 (by exact tt3) ?_
                  refine lv_if_eq (tgt := 255) hx hb dX14_sounds_247 (by decide) (fun c247 => ?_) (fun c247 => ?_)
                  · refine lv_bipush (v := 100) hx hb dX14_sounds_255 (by decide) ?_
                    refine sg_callV (ci := 19) F hB (m_ends l D cy hI224 x _ wC.1.1 wC.1.2 wC.2.1 wC.2.2.1 wC.2.2.2.1 hm1 _) (cwV 2 F.1.2.2.2.2 (mgV (mm_5 _ (List.mem_of_getElem? (i := 33) rfl)) (mm_5 _ (List.mem_of_getElem? (i := 34) rfl)) (mm_5 _ (List.mem_of_getElem? (i := 35) rfl)) (mm_3 _ (List.mem_of_getElem? (i := 23) rfl)) (mm_5 _ (List.mem_of_getElem? (i := 32) rfl))) rfl rfl rfl ⟨rfl, by decide, by decide, by decide +kernel⟩ ⟨Nat.le_of_ble_eq_true rfl, Nat.le_of_ble_eq_true rfl⟩) rfl rfl (by decide) rfl hl.1 rfl (Nat.le_of_ble_eq_true rfl) dX14_sounds_257 (Nat.le_trans (show _ ≤ 18 from by omega) (Nat.le_of_ble_eq_true rfl)) (Nat.add_le_add_right (Nat.le_trans (show _ ≤ 146 from by omega) (Nat.le_of_ble_eq_true rfl)) _) (inv_A hI224) (fun H locs v σ257 N hBn hX257 hP => ?_)
                    clear hB; have hB := hBn; clear hBn
                    refine W.widen (k := 18) (n := N) (show _ ≤ 18 from by omega) (Nat.le_refl _) ?_
                    have hBn := sgB_up (n2 := 146) hB (show _ ≤ 146 from by omega)
                    clear hB; have hB := hBn; clear hBn
                    obtain ⟨rfl, hI257, en1_257, en2_257, en3_257, en4_257⟩ := hP
                    have hI257b := inv_dne hI224 wC hI257 en1_257 en2_257 en4_257
                    refine lv_goto (tgt := 285) hx hb dX14_sounds_260 (by decide) ?_
                    first
                      | have hfin := hI257b
                      | have hfin := hI282b
                      | have hfin := inv_dnw hI257b wC (iW_C hBC (iW_L hB199 i3 tt3 tx3 hbb.1 hbb.2 (m_ltC hBC i3 hbb.1 hbb.2 c237)))
                      | have hfin : Inv eda ia K g n S hw _ := hI257b
                    refine lv_iconst (v := 1) hx hb dX14_sounds_285 (by decide) ?_
                    exact sg_iret F hB hrt dX14_sounds_286 (by omega) (by omega) (⟨⟨_, rfl, Or.inl rfl⟩, hfin⟩)
                  · refine lv_bipush (v := 108) hx hb dX14_sounds_250 (by decide) ?_
                    refine lv_goto (tgt := 257) hx hb dX14_sounds_252 (by decide) ?_
                    refine sg_callV (ci := 19) F hB (m_ends l D cy hI224 x _ wC.1.1 wC.1.2 wC.2.1 wC.2.2.1 wC.2.2.2.1 hm1 _) (cwV 2 F.1.2.2.2.2 (mgV (mm_5 _ (List.mem_of_getElem? (i := 33) rfl)) (mm_5 _ (List.mem_of_getElem? (i := 34) rfl)) (mm_5 _ (List.mem_of_getElem? (i := 35) rfl)) (mm_3 _ (List.mem_of_getElem? (i := 23) rfl)) (mm_5 _ (List.mem_of_getElem? (i := 32) rfl))) rfl rfl rfl ⟨rfl, by decide, by decide, by decide +kernel⟩ ⟨Nat.le_of_ble_eq_true rfl, Nat.le_of_ble_eq_true rfl⟩) rfl rfl (by decide) rfl hl.1 rfl (Nat.le_of_ble_eq_true rfl) dX14_sounds_257 (Nat.le_trans (show _ ≤ 18 from by omega) (Nat.le_of_ble_eq_true rfl)) (Nat.add_le_add_right (Nat.le_trans (show _ ≤ 146 from by omega) (Nat.le_of_ble_eq_true rfl)) _) (inv_A hI224) (fun H locs v σ257 N hBn hX257 hP => ?_)
                    clear hB; have hB := hBn; clear hBn
                    refine W.widen (k := 18) (n := N) (show _ ≤ 18 from by omega) (Nat.le_refl _) ?_
                    have hBn := sgB_up (n2 := 146) hB (show _ ≤ 146 from by omega)
                    clear hB; have hB := hBn; clear hBn
                    obtain ⟨rfl, hI257, en1_257, en2_257, en3_257, en4_257⟩ := hP
                    have hI257b := inv_dne hI224 wC hI257 en1_257 en2_257 en4_257
                    refine lv_goto (tgt := 285) hx hb dX14_sounds_260 (by decide) ?_
                    first
                      | have hfin := hI257b
                      | have hfin := hI282b
                      | have hfin := inv_dnw hI257b wC (iW_C hBC (iW_L hB199 i3 tt3 tx3 hbb.1 hbb.2 (m_ltC hBC i3 hbb.1 hbb.2 c237)))
                      | have hfin : Inv eda ia K g n S hw _ := hI257b
                    refine lv_iconst (v := 1) hx hb dX14_sounds_285 (by decide) ?_
                    exact sg_iret F hB hrt dX14_sounds_286 (by omega) (by omega) (⟨⟨_, rfl, Or.inl rfl⟩, hfin⟩)
          · have hi4 := i_nle c92
            refine lv_aload_n hx hb dX14_sounds_95 rfl (lv_at hl 5 rfl) ?_
            refine gf_X14_300 F hB dX14_sounds_96 tx3 ?_
            refine lv_if_eq (tgt := 119) hx hb dX14_sounds_99 (by decide) (fun c99 => ?_) (fun c99 => ((c99 ((x03).trans hin)) : False).elim)
            obtain ⟨bt, ht0, tbt, nbt⟩ := inv_T hI3 t0 tt3
            obtain ⟨bt1, ht1, tbt1, nbt1⟩ := inv_T h t0 tt
            have ebt : bt = bt1 := Option.some.inj (ht0.symm.trans ((hzr.2.2.2.2.1 t0 0 (by rw [tt]; decide)).trans ht1))
            have nb3 : sgN σ3 bt = sgN σ bt := by rw [ebt]; exact tFr_N hzr.1 tbt1 (by decide)
            have iw5 := iw4 hin bt (by rw [ebt]; exact ht1)
            have eix : (sgI σ3 t0 2 + k9).toInt = (sgI σ t0 2).toInt + k9.toInt := by rw [d3]; exact m_addb (by omega) (by omega) (by omega) (by omega)
            refine lv_aload hx hb dX14_sounds_119 (lv_at hl 1 rfl) ?_
            refine gr_X14_369 F hB dX14_sounds_121 tt3 ht0 ?_
            refine lv_aload hx hb dX14_sounds_124 (lv_at hl 1 rfl) ?_
            refine gf_X14_284 F hB dX14_sounds_126 tt3 ?_
            refine lv_iload hx hb dX14_sounds_129 (lv_at hl 0 rfl) ?_
            refine lv_iadd hx hb dX14_sounds_131 ?_
            refine sg_iald hx hb F.2.1 hB.1 dX14_sounds_132 tbt (by omega) (by omega) (by omega) ?_
            refine lv_istore (lv' := [(8, .int _), (7, .int _), (6, .ref _), (5, .ref _), (4, .int _), (3, .int _), (2, .ref _), (1, .int _), (0, .ref _)]) hx hb dX14_sounds_133 hl (by decide) rfl (fun ls hl => ?_)
            refine lv_iload hx hb dX14_sounds_135 (lv_at hl 4 rfl) ?_
            refine lv_bipush (v := 32) hx hb dX14_sounds_137 (by decide) ?_
            refine lv_icmp_ne (tgt := 165) hx hb dX14_sounds_139 (by decide) (fun c139 => ?_) (fun c139 => ?_)
            · refine lv_iload hx hb dX14_sounds_165 (lv_at hl 4 rfl) ?_
              refine lv_bipush (v := 32) hx hb dX14_sounds_167 (by decide) ?_
              refine lv_icmp_ne (tgt := 185) hx hb dX14_sounds_169 (by decide) (fun c169 => ?_) (fun c169 => ?_)
              · refine lv_iinc (lv' := [(7, .int _), (8, .int _), (6, .ref _), (5, .ref _), (4, .int _), (3, .int _), (2, .ref _), (1, .int _), (0, .ref _)]) hx hb dX14_sounds_185 hl (k := 1) rfl rfl (by decide) rfl (fun ls hl => ?_)
                refine lv_goto (tgt := 89) hx hb dX14_sounds_188 (by decide) ?_
                have hi3 := i_nle c92
                have e9 : (k9 + Int32.ofInt 1).toInt = k9.toInt + 1 := m_add1 (by omega) (by omega)
                first
                  | exact ih89 _ (by subst hd89; rw [e9]; omega) _ _ _ _ _ _ _ _ hB (lv_sub hl [0, 2, 3, 4, 5, 6, 7, 8] rfl) hI181 ⟨by rw [e9]; omega, by rw [e9]; omega⟩ (by rw [e9, ada181, sL5]; omega) ⟨by rw [e9]; show kc + 1 + 1 ≤ _; omega, by rw [e9]; omega⟩ z181 rfl
                  | exact ih89 _ (by subst hd89; rw [e9]; omega) _ _ _ _ _ _ _ _ hB (lv_sub hl [0, 2, 3, 4, 5, 6, 7, 8] rfl) hI3 ⟨by rw [e9]; omega, by rw [e9]; omega⟩ (by rw [e9]; omega) ⟨by rw [e9]; omega, by rw [e9]; omega⟩ hzr rfl
              · refine lv_aload_n hx hb dX14_sounds_172 rfl (lv_at hl 6 rfl) ?_
                refine gr_X14_320 F hB dX14_sounds_173 tx3 hle3 ?_
                refine lv_iload hx hb dX14_sounds_176 (lv_at hl 0 rfl) ?_
                refine sg_callS F hB (m_box l D cy _ _) (va_cwS 1 F.1.2.2.2.2 (mgS2 (mm_7 _ (List.mem_of_getElem? (i := 33) rfl)) (mm_7 _ (List.mem_of_getElem? (i := 34) rfl)) (mm_7 _ (List.mem_of_getElem? (i := 30) rfl)) (mm_7 _ (List.mem_of_getElem? (i := 25) rfl))) rfl rfl rfl ⟨by decide, by decide, by decide +kernel⟩ ⟨Nat.le_of_ble_eq_true rfl, Nat.le_of_ble_eq_true rfl⟩) rfl hl.1 rfl (Nat.le_of_ble_eq_true rfl) dX14_sounds_178 (by show _ ≤ 18; omega) (Nat.add_le_add_right (by omega) _)  (fun H locs v σ178 N hBn hX178 hP => ?_)
                clear hB; have hB := hBn; clear hBn
                obtain ⟨y178, rfl, hbx, hqt⟩ := hP
                have ed5 := sg_eda F hB
                have hI178 := inv_Qt hI3 hqt ed5
                have tL5 : sgT σ178 le = 5 := (hqt.1 le (by rw [tle3]; decide)).1.trans tle3
                have sL5 : sgSz σ178 le = sgSz σ3 le := sgSz_Qt hqt tle3
                have z5 := zR_Qt hI3 hqt ed5 tl3
                obtain ⟨ra181, za181, zb181⟩ := (inv_LS hI178).1 _ tL5 id
                refine sg_callV (ci := 4) F hB (m_add l D cy za181 (fun j y h1 h2 => (inv_LS hI178).2.2.1 ra181 j y h1 h2) y178 (iEl_K (l0 := _) (g := g) (j := 0) (by unfold iEl; rw [rle]; exact hbx)) zb181 _) (cwV 1 F.1.2.2.2.2 (mgV (mm_3 _ (List.mem_of_getElem? (i := 9) rfl)) (mm_3 _ (List.mem_of_getElem? (i := 10) rfl)) (mm_3 _ (List.mem_of_getElem? (i := 11) rfl)) (mm_0 _ (List.mem_of_getElem? (i := 35) rfl)) (mm_2 _ (List.mem_of_getElem? (i := 29) rfl))) rfl rfl rfl ⟨rfl, by decide, by decide, by decide +kernel⟩ ⟨Nat.le_of_ble_eq_true rfl, Nat.le_of_ble_eq_true rfl⟩) rfl rfl (by decide) rfl hl.1 rfl (Nat.le_of_ble_eq_true rfl) dX14_sounds_181 (by show _ ≤ 18; omega) (Nat.add_le_add_right (by omega) _) tL5 (fun H locs v σ181 N hBn hX181 hP => ?_)
                clear hB; have hB := hBn; clear hBn
                obtain ⟨rfl, hAd181⟩ := hP
                obtain ⟨hI181, ada181, adb181, adc181, add181, ade181, adf181, adg181, adh181⟩ := inv_ad hI178 tL5 za181 hAd181 (sg_eda F hB) (by unfold iEl; rw [rle]; exact hbx) (by rw [rle]; refine inv_cap ?_ (Or.inr rfl); rw [sL5]; omega) (Or.inl ⟨inv_nD hI178 (by rw [rle]; decide), rfl⟩) (nr7 rle (by decide))
                have z181 : zR l1 σ σ181 := zR_tr hzr (zR_tr z5 (zR_l (l2 := le) add181 adf181 adg181 adh181 (tFr_T z5.1 tl3 (by decide)) nle))
                refine lv_pop hx hb dX14_sounds_184 rfl ?_
                refine lv_iinc (lv' := [(7, .int _), (8, .int _), (6, .ref _), (5, .ref _), (4, .int _), (3, .int _), (2, .ref _), (1, .int _), (0, .ref _)]) hx hb dX14_sounds_185 hl (k := 1) rfl rfl (by decide) rfl (fun ls hl => ?_)
                refine lv_goto (tgt := 89) hx hb dX14_sounds_188 (by decide) ?_
                have hi3 := i_nle c92
                have e9 : (k9 + Int32.ofInt 1).toInt = k9.toInt + 1 := m_add1 (by omega) (by omega)
                first
                  | exact ih89 _ (by subst hd89; rw [e9]; omega) _ _ _ _ _ _ _ _ hB (lv_sub hl [0, 2, 3, 4, 5, 6, 7, 8] rfl) hI181 ⟨by rw [e9]; omega, by rw [e9]; omega⟩ (by rw [e9, ada181, sL5]; omega) ⟨by rw [e9]; show kc + 1 + 1 ≤ _; omega, by rw [e9]; omega⟩ z181 rfl
                  | exact ih89 _ (by subst hd89; rw [e9]; omega) _ _ _ _ _ _ _ _ hB (lv_sub hl [0, 2, 3, 4, 5, 6, 7, 8] rfl) hI3 ⟨by rw [e9]; omega, by rw [e9]; omega⟩ (by rw [e9]; omega) ⟨by rw [e9]; omega, by rw [e9]; omega⟩ hzr rfl
            · refine lv_aload_n hx hb dX14_sounds_142 rfl (lv_at hl 6 rfl) ?_
              refine gf_X14_300 F hB dX14_sounds_143 tx3 ?_
              refine lv_if_eq (tgt := 165) hx hb dX14_sounds_146 (by decide) (fun c146 => ?_) (fun c146 => ((c146 ((x03).trans hin)) : False).elim)
              refine lv_iload hx hb dX14_sounds_165 (lv_at hl 4 rfl) ?_
              refine lv_bipush (v := 32) hx hb dX14_sounds_167 (by decide) ?_
              refine lv_icmp_ne (tgt := 185) hx hb dX14_sounds_169 (by decide) (fun c169 => ?_) (fun c169 => ?_)
              · refine lv_iinc (lv' := [(7, .int _), (8, .int _), (6, .ref _), (5, .ref _), (4, .int _), (3, .int _), (2, .ref _), (1, .int _), (0, .ref _)]) hx hb dX14_sounds_185 hl (k := 1) rfl rfl (by decide) rfl (fun ls hl => ?_)
                refine lv_goto (tgt := 89) hx hb dX14_sounds_188 (by decide) ?_
                have hi3 := i_nle c92
                have e9 : (k9 + Int32.ofInt 1).toInt = k9.toInt + 1 := m_add1 (by omega) (by omega)
                first
                  | exact ih89 _ (by subst hd89; rw [e9]; omega) _ _ _ _ _ _ _ _ hB (lv_sub hl [0, 2, 3, 4, 5, 6, 7, 8] rfl) hI181 ⟨by rw [e9]; omega, by rw [e9]; omega⟩ (by rw [e9, ada181, sL5]; omega) ⟨by rw [e9]; show kc + 1 + 1 ≤ _; omega, by rw [e9]; omega⟩ z181 rfl
                  | exact ih89 _ (by subst hd89; rw [e9]; omega) _ _ _ _ _ _ _ _ hB (lv_sub hl [0, 2, 3, 4, 5, 6, 7, 8] rfl) hI3 ⟨by rw [e9]; omega, by rw [e9]; omega⟩ (by rw [e9]; omega) ⟨by rw [e9]; omega, by rw [e9]; omega⟩ hzr rfl
              · refine lv_aload_n hx hb dX14_sounds_172 rfl (lv_at hl 6 rfl) ?_
                refine gr_X14_320 F hB dX14_sounds_173 tx3 hle3 ?_
                refine lv_iload hx hb dX14_sounds_176 (lv_at hl 0 rfl) ?_
                refine sg_callS F hB (m_box l D cy _ _) (va_cwS 1 F.1.2.2.2.2 (mgS2 (mm_7 _ (List.mem_of_getElem? (i := 33) rfl)) (mm_7 _ (List.mem_of_getElem? (i := 34) rfl)) (mm_7 _ (List.mem_of_getElem? (i := 30) rfl)) (mm_7 _ (List.mem_of_getElem? (i := 25) rfl))) rfl rfl rfl ⟨by decide, by decide, by decide +kernel⟩ ⟨Nat.le_of_ble_eq_true rfl, Nat.le_of_ble_eq_true rfl⟩) rfl hl.1 rfl (Nat.le_of_ble_eq_true rfl) dX14_sounds_178 (by show _ ≤ 18; omega) (Nat.add_le_add_right (by omega) _)  (fun H locs v σ178 N hBn hX178 hP => ?_)
                clear hB; have hB := hBn; clear hBn
                obtain ⟨y178, rfl, hbx, hqt⟩ := hP
                have ed5 := sg_eda F hB
                have hI178 := inv_Qt hI3 hqt ed5
                have tL5 : sgT σ178 le = 5 := (hqt.1 le (by rw [tle3]; decide)).1.trans tle3
                have sL5 : sgSz σ178 le = sgSz σ3 le := sgSz_Qt hqt tle3
                have z5 := zR_Qt hI3 hqt ed5 tl3
                obtain ⟨ra181, za181, zb181⟩ := (inv_LS hI178).1 _ tL5 id
                refine sg_callV (ci := 4) F hB (m_add l D cy za181 (fun j y h1 h2 => (inv_LS hI178).2.2.1 ra181 j y h1 h2) y178 (iEl_K (l0 := _) (g := g) (j := 0) (by unfold iEl; rw [rle]; exact hbx)) zb181 _) (cwV 1 F.1.2.2.2.2 (mgV (mm_3 _ (List.mem_of_getElem? (i := 9) rfl)) (mm_3 _ (List.mem_of_getElem? (i := 10) rfl)) (mm_3 _ (List.mem_of_getElem? (i := 11) rfl)) (mm_0 _ (List.mem_of_getElem? (i := 35) rfl)) (mm_2 _ (List.mem_of_getElem? (i := 29) rfl))) rfl rfl rfl ⟨rfl, by decide, by decide, by decide +kernel⟩ ⟨Nat.le_of_ble_eq_true rfl, Nat.le_of_ble_eq_true rfl⟩) rfl rfl (by decide) rfl hl.1 rfl (Nat.le_of_ble_eq_true rfl) dX14_sounds_181 (by show _ ≤ 18; omega) (Nat.add_le_add_right (by omega) _) tL5 (fun H locs v σ181 N hBn hX181 hP => ?_)
                clear hB; have hB := hBn; clear hBn
                obtain ⟨rfl, hAd181⟩ := hP
                obtain ⟨hI181, ada181, adb181, adc181, add181, ade181, adf181, adg181, adh181⟩ := inv_ad hI178 tL5 za181 hAd181 (sg_eda F hB) (by unfold iEl; rw [rle]; exact hbx) (by rw [rle]; refine inv_cap ?_ (Or.inr rfl); rw [sL5]; omega) (Or.inl ⟨inv_nD hI178 (by rw [rle]; decide), rfl⟩) (nr7 rle (by decide))
                have z181 : zR l1 σ σ181 := zR_tr hzr (zR_tr z5 (zR_l (l2 := le) add181 adf181 adg181 adh181 (tFr_T z5.1 tl3 (by decide)) nle))
                refine lv_pop hx hb dX14_sounds_184 rfl ?_
                refine lv_iinc (lv' := [(7, .int _), (8, .int _), (6, .ref _), (5, .ref _), (4, .int _), (3, .int _), (2, .ref _), (1, .int _), (0, .ref _)]) hx hb dX14_sounds_185 hl (k := 1) rfl rfl (by decide) rfl (fun ls hl => ?_)
                refine lv_goto (tgt := 89) hx hb dX14_sounds_188 (by decide) ?_
                have hi3 := i_nle c92
                have e9 : (k9 + Int32.ofInt 1).toInt = k9.toInt + 1 := m_add1 (by omega) (by omega)
                first
                  | exact ih89 _ (by subst hd89; rw [e9]; omega) _ _ _ _ _ _ _ _ hB (lv_sub hl [0, 2, 3, 4, 5, 6, 7, 8] rfl) hI181 ⟨by rw [e9]; omega, by rw [e9]; omega⟩ (by rw [e9, ada181, sL5]; omega) ⟨by rw [e9]; show kc + 1 + 1 ≤ _; omega, by rw [e9]; omega⟩ z181 rfl
                  | exact ih89 _ (by subst hd89; rw [e9]; omega) _ _ _ _ _ _ _ _ hB (lv_sub hl [0, 2, 3, 4, 5, 6, 7, 8] rfl) hI3 ⟨by rw [e9]; omega, by rw [e9]; omega⟩ (by rw [e9]; omega) ⟨by rw [e9]; omega, by rw [e9]; omega⟩ hzr rfl
        · refine lv_iload hx hb dX14_sounds_70 (lv_at hl 6 rfl) ?_
          refine lv_bipush (v := 97) hx hb dX14_sounds_72 (by decide) ?_
          refine lv_icmp_ne (tgt := 81) hx hb dX14_sounds_74 (by decide) (fun c74 => ?_) (fun c74 => ?_)
          · refine lv_iconst (v := 0) hx hb dX14_sounds_81 (by decide) ?_
            refine lv_iadd hx hb dX14_sounds_82 ?_
            refine pf_X14_366 F hB dX14_sounds_83 (inv_A h) (fun H locs hBn => ?_)
            clear hB; have hB := hBn; clear hBn
            have hI83 := inv_PIc (t := 20) hB h (inv_A h) (by unfold iCn; omega)
            have z83 := zPIB (l1 := l1) (t := 20) hB (inv_A h) (by decide) tl
            have hb0 := i_nle c48
            rw [m_i0] at hb0
            obtain ⟨kc, hkc⟩ : ∃ kc : Nat, kc = 0 := ⟨_, rfl⟩
            refine W.widen (k := kc) (n := N) (by omega) (Nat.le_refl _) ?_
            refine lv_iconst (v := 0) hx hb dX14_sounds_86 (by decide) ?_
            refine lv_istore (lv' := [(7, .int _), (6, .ref _), (5, .ref _), (0, .ref _), (1, .int _), (2, .ref _), (3, .int _), (4, .int _)]) hx hb dX14_sounds_87 hl (by decide) rfl (fun ls hl => ?_)
            have key89 : ∃ (σ3 : SG) (k9 : Int32) (nc : Nat), sgB D cy s σ σ3 H locs N nc ∧ lv_has ls 9 [(7, .int k9), (6, .ref t0), (5, .ref pp), (4, .int f0), (3, .int b), (2, .ref xe), (1, .int x), (0, .ref (kA K))] ∧ Inv eda ia K g n S hw σ3 ∧ (0 ≤ k9.toInt ∧ k9.toInt ≤ b.toInt) ∧ sgSz σ3 le ≤ sgSz σ le + k9.toInt.toNat ∧ (kc ≤ 2 * k9.toInt.toNat ∧ nc ≤ 16 * k9.toInt.toNat) ∧ zR l1 σ σ3 := ⟨_, _, _, hB, (lv_sub hl [0, 1, 2, 7, 6, 5, 4, 3] rfl), hI83, ⟨by decide, by rw [m_i0]; omega⟩, by rw [m_i0]; exact Nat.le_of_eq (sgSz_nk (by decide)), ⟨by omega, by omega⟩, z83⟩
            clear hB hl hkc
            obtain ⟨σ3, k9, nc, hB, hl, hI3, hi, hzl, hkn, hzr⟩ := key89
            obtain ⟨d89, hd89⟩ : ∃ d : Nat, d = (b.toInt - k9.toInt).toNat := ⟨_, rfl⟩
            induction d89 using Nat.strongRecOn generalizing H locs ls N σ3 k9 nc kc
            rename_i d89 ih89
            have tx3 : sgT σ3 xe = 17 := tFr_T hzr.1 txe (by decide)
            have tp3 : sgT σ3 pp = 18 := tFr_T hzr.1 tp (by decide)
            have tle3 : sgT σ3 le = 5 := tFr_T hzr.1 tle (by decide)
            have hle3 : sgR σ3 xe 3 = some le := (hzr.2.2.2.2.1 xe 3 (by rw [txe]; decide)).trans hle
            have tl3 : sgT σ3 l1 = 5 := tFr_T hzr.1 tl (by decide)
            have tt3 : sgT σ3 t0 = 19 := tFr_T hzr.1 tt (by decide)
            have d3 : sgI σ3 t0 2 = sgI σ t0 2 := hzr.2.1 t0 2 tt
            have x03 : sgI σ3 xe 0 = sgI σ xe 0 := hzr.2.2.2.1 xe 0 txe (by decide)
            refine lv_iload hx hb dX14_sounds_89 (lv_at hl 0 rfl) ?_
            refine lv_iload_n hx hb dX14_sounds_91 rfl (lv_at hl 4 rfl) ?_
            refine lv_icmp_ge (tgt := 191) hx hb dX14_sounds_92 (by decide) (fun c92 => ?_) (fun c92 => ?_)
            · have hi4 := i_le c92
              refine W.widen (k := 16) (n := N) (show kc ≤ 16 from by omega) (Nat.le_refl _) ?_
              have hBn := sgB_up (n2 := 128) hB (show nc ≤ 128 from by omega)
              clear hB; have hB := hBn; clear hBn
              refine lv_aload hx hb dX14_sounds_191 (lv_at hl 1 rfl) ?_
              refine lv_dup hx hb dX14_sounds_193 rfl ?_
              refine gf_X14_284 F hB dX14_sounds_194 tt3 ?_
              refine lv_iload_n hx hb dX14_sounds_197 rfl (lv_at hl 4 rfl) ?_
              refine lv_iadd hx hb dX14_sounds_198 ?_
              refine pf_X14_284 F hB dX14_sounds_199 tt3 (fun H locs hBn => ?_)
              clear hB; have hB := hBn; clear hBn
              have hI199 := inv_dnB hB hI3 tt3
              have w3 := wPp_z h wc hzr
              have wB := wPp_hB hB (wPp_PI w3 (Or.inr ⟨fun z => absurd (tt3.symm.trans z) (by decide), fun z => absurd (tt3.symm.trans z) (by decide)⟩) tp3 tl3)
              have hB199 := hB
              have i3 := iW_tr hzr.1 (inv_T h) tt (hzr.2.1 t0 1 tt) (hzr.2.1 t0 2 tt) x03 (hzr.2.2.2.2.1 t0 0 (by rw [tt]; decide)) ⟨iw1, iw2, iw3, iw4⟩
              refine lv_aload hx hb dX14_sounds_202 (lv_at hl 1 rfl) ?_
              refine lv_aload hx hb dX14_sounds_204 (lv_at hl 1 rfl) ?_
              refine gf_X14_371 F hB dX14_sounds_206 (by exact tt3) ?_
              refine lv_if_ne (tgt := 219) hx hb dX14_sounds_209 (by decide) (fun c209 => ?_) (fun c209 => ?_)
              · refine lv_iconst (v := 1) hx hb dX14_sounds_219 (by decide) ?_
                refine lv_goto (tgt := 224) hx hb dX14_sounds_220 (by decide) ?_
                refine pf_X14_371 F hB dX14_sounds_224 (by exact tt3) ⟨by decide, by decide⟩ (fun H locs hBn => ?_)
                clear hB; have hB := hBn; clear hBn
                have hI224 := inv_PIc (t := 19) hB hI199 (by exact tt3) (by unfold iCn; omega)
                have wC := wPp_hB4 hB (wPp_PI wB (Or.inr ⟨fun z => absurd (tt3.symm.trans z) (by decide), fun z => absurd (tt3.symm.trans z) (by decide)⟩) (by exact tp3) (by exact tl3))
                have hBC := hB
                refine lv_aload hx hb dX14_sounds_227 (lv_at hl 1 rfl) ?_
                refine gf_X14_284 F hB dX14_sounds_229 (by exact tt3) ?_
                refine lv_aload hx hb dX14_sounds_232 (lv_at hl 1 rfl) ?_
                refine gf_X14_338 F hB dX14_sounds_234 (by exact tt3) ?_
                refine lv_icmp_lt (tgt := 263) hx hb dX14_sounds_237 (by decide) (fun c237 => ?_) (fun c237 => ?_)
                · refine lv_aload_n hx hb dX14_sounds_263 rfl (lv_at hl 5 rfl) ?_
                  refine gf_X14_300 F hB dX14_sounds_264 (by exact tx3) ?_
                  refine lv_if_eq (tgt := 285) hx hb dX14_sounds_267 (by decide) (fun c267 => ?_) (fun c267 => ((c267 ((((sgI_nk (by decide)).trans (sgI_nk (by decide))).trans x03).trans hin)) : False).elim)
                  first
                    | have hfin := hI257b
                    | have hfin := hI282b
                    | have hfin := inv_dnw hI224 wC (iW_C hBC (iW_L hB199 i3 tt3 tx3 hbb.1 hbb.2 (m_ltC hBC i3 hbb.1 hbb.2 c237)))
                    | have hfin : Inv eda ia K g n S hw _ := hI224
                  refine lv_iconst (v := 1) hx hb dX14_sounds_285 (by decide) ?_
                  exact sg_iret F hB hrt dX14_sounds_286 (by omega) (by omega) (⟨⟨_, rfl, Or.inl rfl⟩, hfin⟩)
                · obtain ⟨m1, hm1⟩ := m_evm hB (K := K)
                  refine lv_aload_n hx hb dX14_sounds_240 rfl (lv_at hl 7 rfl) ?_
                  refine lv_iload_n hx hb dX14_sounds_241 rfl (lv_at hl 6 rfl) ?_
                  refine lv_aload hx hb dX14_sounds_242 (lv_at hl 1 rfl) ?_
                  refine gf_X14_371 F hB dX14_sounds_244 (by exact tt3) ?_
                  refine lv_if_eq (tgt := 255) hx hb dX14_sounds_247 (by decide) (fun c247 => ?_) (fun c247 => ?_)
                  · refine lv_bipush (v := 100) hx hb dX14_sounds_255 (by decide) ?_
                    refine sg_callV (ci := 19) F hB (m_ends l D cy hI224 x _ wC.1.1 wC.1.2 wC.2.1 wC.2.2.1 wC.2.2.2.1 hm1 _) (cwV 2 F.1.2.2.2.2 (mgV (mm_5 _ (List.mem_of_getElem? (i := 33) rfl)) (mm_5 _ (List.mem_of_getElem? (i := 34) rfl)) (mm_5 _ (List.mem_of_getElem? (i := 35) rfl)) (mm_3 _ (List.mem_of_getElem? (i := 23) rfl)) (mm_5 _ (List.mem_of_getElem? (i := 32) rfl))) rfl rfl rfl ⟨rfl, by decide, by decide, by decide +kernel⟩ ⟨Nat.le_of_ble_eq_true rfl, Nat.le_of_ble_eq_true rfl⟩) rfl rfl (by decide) rfl hl.1 rfl (Nat.le_of_ble_eq_true rfl) dX14_sounds_257 (Nat.le_trans (show _ ≤ 18 from by omega) (Nat.le_of_ble_eq_true rfl)) (Nat.add_le_add_right (Nat.le_trans (show _ ≤ 146 from by omega) (Nat.le_of_ble_eq_true rfl)) _) (inv_A hI224) (fun H locs v σ257 N hBn hX257 hP => ?_)
                    clear hB; have hB := hBn; clear hBn
                    refine W.widen (k := 18) (n := N) (show _ ≤ 18 from by omega) (Nat.le_refl _) ?_
                    have hBn := sgB_up (n2 := 146) hB (show _ ≤ 146 from by omega)
                    clear hB; have hB := hBn; clear hBn
                    obtain ⟨rfl, hI257, en1_257, en2_257, en3_257, en4_257⟩ := hP
                    have hI257b := inv_dne hI224 wC hI257 en1_257 en2_257 en4_257
                    refine lv_goto (tgt := 285) hx hb dX14_sounds_260 (by decide) ?_
                    first
                      | have hfin := hI257b
                      | have hfin := hI282b
                      | have hfin := inv_dnw hI257b wC (iW_C hBC (iW_L hB199 i3 tt3 tx3 hbb.1 hbb.2 (m_ltC hBC i3 hbb.1 hbb.2 c237)))
                      | have hfin : Inv eda ia K g n S hw _ := hI257b
                    refine lv_iconst (v := 1) hx hb dX14_sounds_285 (by decide) ?_
                    exact sg_iret F hB hrt dX14_sounds_286 (by omega) (by omega) (⟨⟨_, rfl, Or.inl rfl⟩, hfin⟩)
                  · refine lv_bipush (v := 108) hx hb dX14_sounds_250 (by decide) ?_
                    refine lv_goto (tgt := 257) hx hb dX14_sounds_252 (by decide) ?_
                    refine sg_callV (ci := 19) F hB (m_ends l D cy hI224 x _ wC.1.1 wC.1.2 wC.2.1 wC.2.2.1 wC.2.2.2.1 hm1 _) (cwV 2 F.1.2.2.2.2 (mgV (mm_5 _ (List.mem_of_getElem? (i := 33) rfl)) (mm_5 _ (List.mem_of_getElem? (i := 34) rfl)) (mm_5 _ (List.mem_of_getElem? (i := 35) rfl)) (mm_3 _ (List.mem_of_getElem? (i := 23) rfl)) (mm_5 _ (List.mem_of_getElem? (i := 32) rfl))) rfl rfl rfl ⟨rfl, by decide, by decide, by decide +kernel⟩ ⟨Nat.le_of_ble_eq_true rfl, Nat.le_of_ble_eq_true rfl⟩) rfl rfl (by decide) rfl hl.1 rfl (Nat.le_of_ble_eq_true rfl) dX14_sounds_257 (Nat.le_trans (show _ ≤ 18 from by omega) (Nat.le_of_ble_eq_true rfl)) (Nat.add_le_add_right (Nat.le_trans (show _ ≤ 146 from by omega) (Nat.le_of_ble_eq_true rfl)) _) (inv_A hI224) (fun H locs v σ257 N hBn hX257 hP => ?_)
                    clear hB; have hB := hBn; clear hBn
                    refine W.widen (k := 18) (n := N) (show _ ≤ 18 from by omega) (Nat.le_refl _) ?_
                    have hBn := sgB_up (n2 := 146) hB (show _ ≤ 146 from by omega)
                    clear hB; have hB := hBn; clear hBn
                    obtain ⟨rfl, hI257, en1_257, en2_257, en3_257, en4_257⟩ := hP
                    have hI257b := inv_dne hI224 wC hI257 en1_257 en2_257 en4_257
                    refine lv_goto (tgt := 285) hx hb dX14_sounds_260 (by decide) ?_
                    first
                      | have hfin := hI257b
                      | have hfin := hI282b
                      | have hfin := inv_dnw hI257b wC (iW_C hBC (iW_L hB199 i3 tt3 tx3 hbb.1 hbb.2 (m_ltC hBC i3 hbb.1 hbb.2 c237)))
                      | have hfin : Inv eda ia K g n S hw _ := hI257b
                    refine lv_iconst (v := 1) hx hb dX14_sounds_285 (by decide) ?_
                    exact sg_iret F hB hrt dX14_sounds_286 (by omega) (by omega) (⟨⟨_, rfl, Or.inl rfl⟩, hfin⟩)
              · refine lv_iload hx hb dX14_sounds_212 (lv_at hl 3 rfl) ?_
                refine lv_bipush (v := 32) hx hb dX14_sounds_214 (by decide) ?_
                refine lv_icmp_eq (tgt := 223) hx hb dX14_sounds_216 (by decide) (fun c216 => ?_) (fun c216 => ?_)
                · refine lv_iconst (v := 0) hx hb dX14_sounds_223 (by decide) ?_
                  refine pf_X14_371 F hB dX14_sounds_224 (by exact tt3) ⟨by decide, by decide⟩ (fun H locs hBn => ?_)
                  clear hB; have hB := hBn; clear hBn
                  have hI224 := inv_PIc (t := 19) hB hI199 (by exact tt3) (by unfold iCn; omega)
                  have wC := wPp_hB4 hB (wPp_PI wB (Or.inr ⟨fun z => absurd (tt3.symm.trans z) (by decide), fun z => absurd (tt3.symm.trans z) (by decide)⟩) (by exact tp3) (by exact tl3))
                  have hBC := hB
                  refine lv_aload hx hb dX14_sounds_227 (lv_at hl 1 rfl) ?_
                  refine gf_X14_284 F hB dX14_sounds_229 (by exact tt3) ?_
                  refine lv_aload hx hb dX14_sounds_232 (lv_at hl 1 rfl) ?_
                  refine gf_X14_338 F hB dX14_sounds_234 (by exact tt3) ?_
                  refine lv_icmp_lt (tgt := 263) hx hb dX14_sounds_237 (by decide) (fun c237 => ?_) (fun c237 => ?_)
                  · refine lv_aload_n hx hb dX14_sounds_263 rfl (lv_at hl 5 rfl) ?_
                    refine gf_X14_300 F hB dX14_sounds_264 (by exact tx3) ?_
                    refine lv_if_eq (tgt := 285) hx hb dX14_sounds_267 (by decide) (fun c267 => ?_) (fun c267 => ((c267 ((((sgI_nk (by decide)).trans (sgI_nk (by decide))).trans x03).trans hin)) : False).elim)
                    first
                      | have hfin := hI257b
                      | have hfin := hI282b
                      | have hfin := inv_dnw hI224 wC (iW_C hBC (iW_L hB199 i3 tt3 tx3 hbb.1 hbb.2 (m_ltC hBC i3 hbb.1 hbb.2 c237)))
                      | have hfin : Inv eda ia K g n S hw _ := hI224
                    refine lv_iconst (v := 1) hx hb dX14_sounds_285 (by decide) ?_
                    exact sg_iret F hB hrt dX14_sounds_286 (by omega) (by omega) (⟨⟨_, rfl, Or.inl rfl⟩, hfin⟩)
                  · obtain ⟨m1, hm1⟩ := m_evm hB (K := K)
                    refine lv_aload_n hx hb dX14_sounds_240 rfl (lv_at hl 7 rfl) ?_
                    refine lv_iload_n hx hb dX14_sounds_241 rfl (lv_at hl 6 rfl) ?_
                    refine lv_aload hx hb dX14_sounds_242 (lv_at hl 1 rfl) ?_
                    refine gf_X14_371 F hB dX14_sounds_244 (by exact tt3) ?_
                    refine lv_if_eq (tgt := 255) hx hb dX14_sounds_247 (by decide) (fun c247 => ?_) (fun c247 => ?_)
                    · refine lv_bipush (v := 100) hx hb dX14_sounds_255 (by decide) ?_
                      refine sg_callV (ci := 19) F hB (m_ends l D cy hI224 x _ wC.1.1 wC.1.2 wC.2.1 wC.2.2.1 wC.2.2.2.1 hm1 _) (cwV 2 F.1.2.2.2.2 (mgV (mm_5 _ (List.mem_of_getElem? (i := 33) rfl)) (mm_5 _ (List.mem_of_getElem? (i := 34) rfl)) (mm_5 _ (List.mem_of_getElem? (i := 35) rfl)) (mm_3 _ (List.mem_of_getElem? (i := 23) rfl)) (mm_5 _ (List.mem_of_getElem? (i := 32) rfl))) rfl rfl rfl ⟨rfl, by decide, by decide, by decide +kernel⟩ ⟨Nat.le_of_ble_eq_true rfl, Nat.le_of_ble_eq_true rfl⟩) rfl rfl (by decide) rfl hl.1 rfl (Nat.le_of_ble_eq_true rfl) dX14_sounds_257 (Nat.le_trans (show _ ≤ 18 from by omega) (Nat.le_of_ble_eq_true rfl)) (Nat.add_le_add_right (Nat.le_trans (show _ ≤ 146 from by omega) (Nat.le_of_ble_eq_true rfl)) _) (inv_A hI224) (fun H locs v σ257 N hBn hX257 hP => ?_)
                      clear hB; have hB := hBn; clear hBn
                      refine W.widen (k := 18) (n := N) (show _ ≤ 18 from by omega) (Nat.le_refl _) ?_
                      have hBn := sgB_up (n2 := 146) hB (show _ ≤ 146 from by omega)
                      clear hB; have hB := hBn; clear hBn
                      obtain ⟨rfl, hI257, en1_257, en2_257, en3_257, en4_257⟩ := hP
                      have hI257b := inv_dne hI224 wC hI257 en1_257 en2_257 en4_257
                      refine lv_goto (tgt := 285) hx hb dX14_sounds_260 (by decide) ?_
                      first
                        | have hfin := hI257b
                        | have hfin := hI282b
                        | have hfin := inv_dnw hI257b wC (iW_C hBC (iW_L hB199 i3 tt3 tx3 hbb.1 hbb.2 (m_ltC hBC i3 hbb.1 hbb.2 c237)))
                        | have hfin : Inv eda ia K g n S hw _ := hI257b
                      refine lv_iconst (v := 1) hx hb dX14_sounds_285 (by decide) ?_
                      exact sg_iret F hB hrt dX14_sounds_286 (by omega) (by omega) (⟨⟨_, rfl, Or.inl rfl⟩, hfin⟩)
                    · refine lv_bipush (v := 108) hx hb dX14_sounds_250 (by decide) ?_
                      refine lv_goto (tgt := 257) hx hb dX14_sounds_252 (by decide) ?_
                      refine sg_callV (ci := 19) F hB (m_ends l D cy hI224 x _ wC.1.1 wC.1.2 wC.2.1 wC.2.2.1 wC.2.2.2.1 hm1 _) (cwV 2 F.1.2.2.2.2 (mgV (mm_5 _ (List.mem_of_getElem? (i := 33) rfl)) (mm_5 _ (List.mem_of_getElem? (i := 34) rfl)) (mm_5 _ (List.mem_of_getElem? (i := 35) rfl)) (mm_3 _ (List.mem_of_getElem? (i := 23) rfl)) (mm_5 _ (List.mem_of_getElem? (i := 32) rfl))) rfl rfl rfl ⟨rfl, by decide, by decide, by decide +kernel⟩ ⟨Nat.le_of_ble_eq_true rfl, Nat.le_of_ble_eq_true rfl⟩) rfl rfl (by decide) rfl hl.1 rfl (Nat.le_of_ble_eq_true rfl) dX14_sounds_257 (Nat.le_trans (show _ ≤ 18 from by omega) (Nat.le_of_ble_eq_true rfl)) (Nat.add_le_add_right (Nat.le_trans (show _ ≤ 146 from by omega) (Nat.le_of_ble_eq_true rfl)) _) (inv_A hI224) (fun H locs v σ257 N hBn hX257 hP => ?_)
                      clear hB; have hB := hBn; clear hBn
                      refine W.widen (k := 18) (n := N) (show _ ≤ 18 from by omega) (Nat.le_refl _) ?_
                      have hBn := sgB_up (n2 := 146) hB (show _ ≤ 146 from by omega)
                      clear hB; have hB := hBn; clear hBn
                      obtain ⟨rfl, hI257, en1_257, en2_257, en3_257, en4_257⟩ := hP
                      have hI257b := inv_dne hI224 wC hI257 en1_257 en2_257 en4_257
                      refine lv_goto (tgt := 285) hx hb dX14_sounds_260 (by decide) ?_
                      first
                        | have hfin := hI257b
                        | have hfin := hI282b
                        | have hfin := inv_dnw hI257b wC (iW_C hBC (iW_L hB199 i3 tt3 tx3 hbb.1 hbb.2 (m_ltC hBC i3 hbb.1 hbb.2 c237)))
                        | have hfin : Inv eda ia K g n S hw _ := hI257b
                      refine lv_iconst (v := 1) hx hb dX14_sounds_285 (by decide) ?_
                      exact sg_iret F hB hrt dX14_sounds_286 (by omega) (by omega) (⟨⟨_, rfl, Or.inl rfl⟩, hfin⟩)
                · refine lv_iconst (v := 1) hx hb dX14_sounds_219 (by decide) ?_
                  refine lv_goto (tgt := 224) hx hb dX14_sounds_220 (by decide) ?_
                  refine pf_X14_371 F hB dX14_sounds_224 (by exact tt3) ⟨by decide, by decide⟩ (fun H locs hBn => ?_)
                  clear hB; have hB := hBn; clear hBn
                  have hI224 := inv_PIc (t := 19) hB hI199 (by exact tt3) (by unfold iCn; omega)
                  have wC := wPp_hB4 hB (wPp_PI wB (Or.inr ⟨fun z => absurd (tt3.symm.trans z) (by decide), fun z => absurd (tt3.symm.trans z) (by decide)⟩) (by exact tp3) (by exact tl3))
                  have hBC := hB
                  refine lv_aload hx hb dX14_sounds_227 (lv_at hl 1 rfl) ?_
                  refine gf_X14_284 F hB dX14_sounds_229 (by exact tt3) ?_
                  refine lv_aload hx hb dX14_sounds_232 (lv_at hl 1 rfl) ?_
                  refine gf_X14_338 F hB dX14_sounds_234 (by exact tt3) ?_
                  refine lv_icmp_lt (tgt := 263) hx hb dX14_sounds_237 (by decide) (fun c237 => ?_) (fun c237 => ?_)
                  · refine lv_aload_n hx hb dX14_sounds_263 rfl (lv_at hl 5 rfl) ?_
                    refine gf_X14_300 F hB dX14_sounds_264 (by exact tx3) ?_
                    refine lv_if_eq (tgt := 285) hx hb dX14_sounds_267 (by decide) (fun c267 => ?_) (fun c267 => ((c267 ((((sgI_nk (by decide)).trans (sgI_nk (by decide))).trans x03).trans hin)) : False).elim)
                    first
                      | have hfin := hI257b
                      | have hfin := hI282b
                      | have hfin := inv_dnw hI224 wC (iW_C hBC (iW_L hB199 i3 tt3 tx3 hbb.1 hbb.2 (m_ltC hBC i3 hbb.1 hbb.2 c237)))
                      | have hfin : Inv eda ia K g n S hw _ := hI224
                    refine lv_iconst (v := 1) hx hb dX14_sounds_285 (by decide) ?_
                    exact sg_iret F hB hrt dX14_sounds_286 (by omega) (by omega) (⟨⟨_, rfl, Or.inl rfl⟩, hfin⟩)
                  · obtain ⟨m1, hm1⟩ := m_evm hB (K := K)
                    refine lv_aload_n hx hb dX14_sounds_240 rfl (lv_at hl 7 rfl) ?_
                    refine lv_iload_n hx hb dX14_sounds_241 rfl (lv_at hl 6 rfl) ?_
                    refine lv_aload hx hb dX14_sounds_242 (lv_at hl 1 rfl) ?_
                    refine gf_X14_371 F hB dX14_sounds_244 (by exact tt3) ?_
                    refine lv_if_eq (tgt := 255) hx hb dX14_sounds_247 (by decide) (fun c247 => ?_) (fun c247 => ?_)
                    · refine lv_bipush (v := 100) hx hb dX14_sounds_255 (by decide) ?_
                      refine sg_callV (ci := 19) F hB (m_ends l D cy hI224 x _ wC.1.1 wC.1.2 wC.2.1 wC.2.2.1 wC.2.2.2.1 hm1 _) (cwV 2 F.1.2.2.2.2 (mgV (mm_5 _ (List.mem_of_getElem? (i := 33) rfl)) (mm_5 _ (List.mem_of_getElem? (i := 34) rfl)) (mm_5 _ (List.mem_of_getElem? (i := 35) rfl)) (mm_3 _ (List.mem_of_getElem? (i := 23) rfl)) (mm_5 _ (List.mem_of_getElem? (i := 32) rfl))) rfl rfl rfl ⟨rfl, by decide, by decide, by decide +kernel⟩ ⟨Nat.le_of_ble_eq_true rfl, Nat.le_of_ble_eq_true rfl⟩) rfl rfl (by decide) rfl hl.1 rfl (Nat.le_of_ble_eq_true rfl) dX14_sounds_257 (Nat.le_trans (show _ ≤ 18 from by omega) (Nat.le_of_ble_eq_true rfl)) (Nat.add_le_add_right (Nat.le_trans (show _ ≤ 146 from by omega) (Nat.le_of_ble_eq_true rfl)) _) (inv_A hI224) (fun H locs v σ257 N hBn hX257 hP => ?_)
                      clear hB; have hB := hBn; clear hBn
                      refine W.widen (k := 18) (n := N) (show _ ≤ 18 from by omega) (Nat.le_refl _) ?_
                      have hBn := sgB_up (n2 := 146) hB (show _ ≤ 146 from by omega)
                      clear hB; have hB := hBn; clear hBn
                      obtain ⟨rfl, hI257, en1_257, en2_257, en3_257, en4_257⟩ := hP
                      have hI257b := inv_dne hI224 wC hI257 en1_257 en2_257 en4_257
                      refine lv_goto (tgt := 285) hx hb dX14_sounds_260 (by decide) ?_
                      first
                        | have hfin := hI257b
                        | have hfin := hI282b
                        | have hfin := inv_dnw hI257b wC (iW_C hBC (iW_L hB199 i3 tt3 tx3 hbb.1 hbb.2 (m_ltC hBC i3 hbb.1 hbb.2 c237)))
                        | have hfin : Inv eda ia K g n S hw _ := hI257b
                      refine lv_iconst (v := 1) hx hb dX14_sounds_285 (by decide) ?_
                      exact sg_iret F hB hrt dX14_sounds_286 (by omega) (by omega) (⟨⟨_, rfl, Or.inl rfl⟩, hfin⟩)
                    · refine lv_bipush (v := 108) hx hb dX14_sounds_250 (by decide) ?_
                      refine lv_goto (tgt := 257) hx hb dX14_sounds_252 (by decide) ?_
                      refine sg_callV (ci := 19) F hB (m_ends l D cy hI224 x _ wC.1.1 wC.1.2 wC.2.1 wC.2.2.1 wC.2.2.2.1 hm1 _) (cwV 2 F.1.2.2.2.2 (mgV (mm_5 _ (List.mem_of_getElem? (i := 33) rfl)) (mm_5 _ (List.mem_of_getElem? (i := 34) rfl)) (mm_5 _ (List.mem_of_getElem? (i := 35) rfl)) (mm_3 _ (List.mem_of_getElem? (i := 23) rfl)) (mm_5 _ (List.mem_of_getElem? (i := 32) rfl))) rfl rfl rfl ⟨rfl, by decide, by decide, by decide +kernel⟩ ⟨Nat.le_of_ble_eq_true rfl, Nat.le_of_ble_eq_true rfl⟩) rfl rfl (by decide) rfl hl.1 rfl (Nat.le_of_ble_eq_true rfl) dX14_sounds_257 (Nat.le_trans (show _ ≤ 18 from by omega) (Nat.le_of_ble_eq_true rfl)) (Nat.add_le_add_right (Nat.le_trans (show _ ≤ 146 from by omega) (Nat.le_of_ble_eq_true rfl)) _) (inv_A hI224) (fun H locs v σ257 N hBn hX257 hP => ?_)
                      clear hB; have hB := hBn; clear hBn
                      refine W.widen (k := 18) (n := N) (show _ ≤ 18 from by omega) (Nat.le_refl _) ?_
                      have hBn := sgB_up (n2 := 146) hB (show _ ≤ 146 from by omega)
                      clear hB; have hB := hBn; clear hBn
                      obtain ⟨rfl, hI257, en1_257, en2_257, en3_257, en4_257⟩ := hP
                      have hI257b := inv_dne hI224 wC hI257 en1_257 en2_257 en4_257
                      refine lv_goto (tgt := 285) hx hb dX14_sounds_260 (by decide) ?_
                      first
                        | have hfin := hI257b
                        | have hfin := hI282b
                        | have hfin := inv_dnw hI257b wC (iW_C hBC (iW_L hB199 i3 tt3 tx3 hbb.1 hbb.2 (m_ltC hBC i3 hbb.1 hbb.2 c237)))
                        | have hfin : Inv eda ia K g n S hw _ := hI257b
                      refine lv_iconst (v := 1) hx hb dX14_sounds_285 (by decide) ?_
                      exact sg_iret F hB hrt dX14_sounds_286 (by omega) (by omega) (⟨⟨_, rfl, Or.inl rfl⟩, hfin⟩)
            · have hi4 := i_nle c92
              refine lv_aload_n hx hb dX14_sounds_95 rfl (lv_at hl 5 rfl) ?_
              refine gf_X14_300 F hB dX14_sounds_96 tx3 ?_
              refine lv_if_eq (tgt := 119) hx hb dX14_sounds_99 (by decide) (fun c99 => ?_) (fun c99 => ((c99 ((x03).trans hin)) : False).elim)
              obtain ⟨bt, ht0, tbt, nbt⟩ := inv_T hI3 t0 tt3
              obtain ⟨bt1, ht1, tbt1, nbt1⟩ := inv_T h t0 tt
              have ebt : bt = bt1 := Option.some.inj (ht0.symm.trans ((hzr.2.2.2.2.1 t0 0 (by rw [tt]; decide)).trans ht1))
              have nb3 : sgN σ3 bt = sgN σ bt := by rw [ebt]; exact tFr_N hzr.1 tbt1 (by decide)
              have iw5 := iw4 hin bt (by rw [ebt]; exact ht1)
              have eix : (sgI σ3 t0 2 + k9).toInt = (sgI σ t0 2).toInt + k9.toInt := by rw [d3]; exact m_addb (by omega) (by omega) (by omega) (by omega)
              refine lv_aload hx hb dX14_sounds_119 (lv_at hl 1 rfl) ?_
              refine gr_X14_369 F hB dX14_sounds_121 tt3 ht0 ?_
              refine lv_aload hx hb dX14_sounds_124 (lv_at hl 1 rfl) ?_
              refine gf_X14_284 F hB dX14_sounds_126 tt3 ?_
              refine lv_iload hx hb dX14_sounds_129 (lv_at hl 0 rfl) ?_
              refine lv_iadd hx hb dX14_sounds_131 ?_
              refine sg_iald hx hb F.2.1 hB.1 dX14_sounds_132 tbt (by omega) (by omega) (by omega) ?_
              refine lv_istore (lv' := [(8, .int _), (7, .int _), (6, .ref _), (5, .ref _), (4, .int _), (3, .int _), (2, .ref _), (1, .int _), (0, .ref _)]) hx hb dX14_sounds_133 hl (by decide) rfl (fun ls hl => ?_)
              refine lv_iload hx hb dX14_sounds_135 (lv_at hl 4 rfl) ?_
              refine lv_bipush (v := 32) hx hb dX14_sounds_137 (by decide) ?_
              refine lv_icmp_ne (tgt := 165) hx hb dX14_sounds_139 (by decide) (fun c139 => ?_) (fun c139 => ?_)
              · refine lv_iload hx hb dX14_sounds_165 (lv_at hl 4 rfl) ?_
                refine lv_bipush (v := 32) hx hb dX14_sounds_167 (by decide) ?_
                refine lv_icmp_ne (tgt := 185) hx hb dX14_sounds_169 (by decide) (fun c169 => ?_) (fun c169 => ?_)
                · refine lv_iinc (lv' := [(7, .int _), (8, .int _), (6, .ref _), (5, .ref _), (4, .int _), (3, .int _), (2, .ref _), (1, .int _), (0, .ref _)]) hx hb dX14_sounds_185 hl (k := 1) rfl rfl (by decide) rfl (fun ls hl => ?_)
                  refine lv_goto (tgt := 89) hx hb dX14_sounds_188 (by decide) ?_
                  have hi3 := i_nle c92
                  have e9 : (k9 + Int32.ofInt 1).toInt = k9.toInt + 1 := m_add1 (by omega) (by omega)
                  first
                    | exact ih89 _ (by subst hd89; rw [e9]; omega) _ _ _ _ _ _ _ _ hB (lv_sub hl [0, 2, 3, 4, 5, 6, 7, 8] rfl) hI181 ⟨by rw [e9]; omega, by rw [e9]; omega⟩ (by rw [e9, ada181, sL5]; omega) ⟨by rw [e9]; show kc + 1 + 1 ≤ _; omega, by rw [e9]; omega⟩ z181 rfl
                    | exact ih89 _ (by subst hd89; rw [e9]; omega) _ _ _ _ _ _ _ _ hB (lv_sub hl [0, 2, 3, 4, 5, 6, 7, 8] rfl) hI3 ⟨by rw [e9]; omega, by rw [e9]; omega⟩ (by rw [e9]; omega) ⟨by rw [e9]; omega, by rw [e9]; omega⟩ hzr rfl
                · refine lv_aload_n hx hb dX14_sounds_172 rfl (lv_at hl 6 rfl) ?_
                  refine gr_X14_320 F hB dX14_sounds_173 tx3 hle3 ?_
                  refine lv_iload hx hb dX14_sounds_176 (lv_at hl 0 rfl) ?_
                  refine sg_callS F hB (m_box l D cy _ _) (va_cwS 1 F.1.2.2.2.2 (mgS2 (mm_7 _ (List.mem_of_getElem? (i := 33) rfl)) (mm_7 _ (List.mem_of_getElem? (i := 34) rfl)) (mm_7 _ (List.mem_of_getElem? (i := 30) rfl)) (mm_7 _ (List.mem_of_getElem? (i := 25) rfl))) rfl rfl rfl ⟨by decide, by decide, by decide +kernel⟩ ⟨Nat.le_of_ble_eq_true rfl, Nat.le_of_ble_eq_true rfl⟩) rfl hl.1 rfl (Nat.le_of_ble_eq_true rfl) dX14_sounds_178 (by show _ ≤ 18; omega) (Nat.add_le_add_right (by omega) _)  (fun H locs v σ178 N hBn hX178 hP => ?_)
                  clear hB; have hB := hBn; clear hBn
                  obtain ⟨y178, rfl, hbx, hqt⟩ := hP
                  have ed5 := sg_eda F hB
                  have hI178 := inv_Qt hI3 hqt ed5
                  have tL5 : sgT σ178 le = 5 := (hqt.1 le (by rw [tle3]; decide)).1.trans tle3
                  have sL5 : sgSz σ178 le = sgSz σ3 le := sgSz_Qt hqt tle3
                  have z5 := zR_Qt hI3 hqt ed5 tl3
                  obtain ⟨ra181, za181, zb181⟩ := (inv_LS hI178).1 _ tL5 id
                  refine sg_callV (ci := 4) F hB (m_add l D cy za181 (fun j y h1 h2 => (inv_LS hI178).2.2.1 ra181 j y h1 h2) y178 (iEl_K (l0 := _) (g := g) (j := 0) (by unfold iEl; rw [rle]; exact hbx)) zb181 _) (cwV 1 F.1.2.2.2.2 (mgV (mm_3 _ (List.mem_of_getElem? (i := 9) rfl)) (mm_3 _ (List.mem_of_getElem? (i := 10) rfl)) (mm_3 _ (List.mem_of_getElem? (i := 11) rfl)) (mm_0 _ (List.mem_of_getElem? (i := 35) rfl)) (mm_2 _ (List.mem_of_getElem? (i := 29) rfl))) rfl rfl rfl ⟨rfl, by decide, by decide, by decide +kernel⟩ ⟨Nat.le_of_ble_eq_true rfl, Nat.le_of_ble_eq_true rfl⟩) rfl rfl (by decide) rfl hl.1 rfl (Nat.le_of_ble_eq_true rfl) dX14_sounds_181 (by show _ ≤ 18; omega) (Nat.add_le_add_right (by omega) _) tL5 (fun H locs v σ181 N hBn hX181 hP => ?_)
                  clear hB; have hB := hBn; clear hBn
                  obtain ⟨rfl, hAd181⟩ := hP
                  obtain ⟨hI181, ada181, adb181, adc181, add181, ade181, adf181, adg181, adh181⟩ := inv_ad hI178 tL5 za181 hAd181 (sg_eda F hB) (by unfold iEl; rw [rle]; exact hbx) (by rw [rle]; refine inv_cap ?_ (Or.inr rfl); rw [sL5]; omega) (Or.inl ⟨inv_nD hI178 (by rw [rle]; decide), rfl⟩) (nr7 rle (by decide))
                  have z181 : zR l1 σ σ181 := zR_tr hzr (zR_tr z5 (zR_l (l2 := le) add181 adf181 adg181 adh181 (tFr_T z5.1 tl3 (by decide)) nle))
                  refine lv_pop hx hb dX14_sounds_184 rfl ?_
                  refine lv_iinc (lv' := [(7, .int _), (8, .int _), (6, .ref _), (5, .ref _), (4, .int _), (3, .int _), (2, .ref _), (1, .int _), (0, .ref _)]) hx hb dX14_sounds_185 hl (k := 1) rfl rfl (by decide) rfl (fun ls hl => ?_)
                  refine lv_goto (tgt := 89) hx hb dX14_sounds_188 (by decide) ?_
                  have hi3 := i_nle c92
                  have e9 : (k9 + Int32.ofInt 1).toInt = k9.toInt + 1 := m_add1 (by omega) (by omega)
                  first
                    | exact ih89 _ (by subst hd89; rw [e9]; omega) _ _ _ _ _ _ _ _ hB (lv_sub hl [0, 2, 3, 4, 5, 6, 7, 8] rfl) hI181 ⟨by rw [e9]; omega, by rw [e9]; omega⟩ (by rw [e9, ada181, sL5]; omega) ⟨by rw [e9]; show kc + 1 + 1 ≤ _; omega, by rw [e9]; omega⟩ z181 rfl
                    | exact ih89 _ (by subst hd89; rw [e9]; omega) _ _ _ _ _ _ _ _ hB (lv_sub hl [0, 2, 3, 4, 5, 6, 7, 8] rfl) hI3 ⟨by rw [e9]; omega, by rw [e9]; omega⟩ (by rw [e9]; omega) ⟨by rw [e9]; omega, by rw [e9]; omega⟩ hzr rfl
              · refine lv_aload_n hx hb dX14_sounds_142 rfl (lv_at hl 6 rfl) ?_
                refine gf_X14_300 F hB dX14_sounds_143 tx3 ?_
                refine lv_if_eq (tgt := 165) hx hb dX14_sounds_146 (by decide) (fun c146 => ?_) (fun c146 => ((c146 ((x03).trans hin)) : False).elim)
                refine lv_iload hx hb dX14_sounds_165 (lv_at hl 4 rfl) ?_
                refine lv_bipush (v := 32) hx hb dX14_sounds_167 (by decide) ?_
                refine lv_icmp_ne (tgt := 185) hx hb dX14_sounds_169 (by decide) (fun c169 => ?_) (fun c169 => ?_)
                · refine lv_iinc (lv' := [(7, .int _), (8, .int _), (6, .ref _), (5, .ref _), (4, .int _), (3, .int _), (2, .ref _), (1, .int _), (0, .ref _)]) hx hb dX14_sounds_185 hl (k := 1) rfl rfl (by decide) rfl (fun ls hl => ?_)
                  refine lv_goto (tgt := 89) hx hb dX14_sounds_188 (by decide) ?_
                  have hi3 := i_nle c92
                  have e9 : (k9 + Int32.ofInt 1).toInt = k9.toInt + 1 := m_add1 (by omega) (by omega)
                  first
                    | exact ih89 _ (by subst hd89; rw [e9]; omega) _ _ _ _ _ _ _ _ hB (lv_sub hl [0, 2, 3, 4, 5, 6, 7, 8] rfl) hI181 ⟨by rw [e9]; omega, by rw [e9]; omega⟩ (by rw [e9, ada181, sL5]; omega) ⟨by rw [e9]; show kc + 1 + 1 ≤ _; omega, by rw [e9]; omega⟩ z181 rfl
                    | exact ih89 _ (by subst hd89; rw [e9]; omega) _ _ _ _ _ _ _ _ hB (lv_sub hl [0, 2, 3, 4, 5, 6, 7, 8] rfl) hI3 ⟨by rw [e9]; omega, by rw [e9]; omega⟩ (by rw [e9]; omega) ⟨by rw [e9]; omega, by rw [e9]; omega⟩ hzr rfl
                · refine lv_aload_n hx hb dX14_sounds_172 rfl (lv_at hl 6 rfl) ?_
                  refine gr_X14_320 F hB dX14_sounds_173 tx3 hle3 ?_
                  refine lv_iload hx hb dX14_sounds_176 (lv_at hl 0 rfl) ?_
                  refine sg_callS F hB (m_box l D cy _ _) (va_cwS 1 F.1.2.2.2.2 (mgS2 (mm_7 _ (List.mem_of_getElem? (i := 33) rfl)) (mm_7 _ (List.mem_of_getElem? (i := 34) rfl)) (mm_7 _ (List.mem_of_getElem? (i := 30) rfl)) (mm_7 _ (List.mem_of_getElem? (i := 25) rfl))) rfl rfl rfl ⟨by decide, by decide, by decide +kernel⟩ ⟨Nat.le_of_ble_eq_true rfl, Nat.le_of_ble_eq_true rfl⟩) rfl hl.1 rfl (Nat.le_of_ble_eq_true rfl) dX14_sounds_178 (by show _ ≤ 18; omega) (Nat.add_le_add_right (by omega) _)  (fun H locs v σ178 N hBn hX178 hP => ?_)
                  clear hB; have hB := hBn; clear hBn
                  obtain ⟨y178, rfl, hbx, hqt⟩ := hP
                  have ed5 := sg_eda F hB
                  have hI178 := inv_Qt hI3 hqt ed5
                  have tL5 : sgT σ178 le = 5 := (hqt.1 le (by rw [tle3]; decide)).1.trans tle3
                  have sL5 : sgSz σ178 le = sgSz σ3 le := sgSz_Qt hqt tle3
                  have z5 := zR_Qt hI3 hqt ed5 tl3
                  obtain ⟨ra181, za181, zb181⟩ := (inv_LS hI178).1 _ tL5 id
                  refine sg_callV (ci := 4) F hB (m_add l D cy za181 (fun j y h1 h2 => (inv_LS hI178).2.2.1 ra181 j y h1 h2) y178 (iEl_K (l0 := _) (g := g) (j := 0) (by unfold iEl; rw [rle]; exact hbx)) zb181 _) (cwV 1 F.1.2.2.2.2 (mgV (mm_3 _ (List.mem_of_getElem? (i := 9) rfl)) (mm_3 _ (List.mem_of_getElem? (i := 10) rfl)) (mm_3 _ (List.mem_of_getElem? (i := 11) rfl)) (mm_0 _ (List.mem_of_getElem? (i := 35) rfl)) (mm_2 _ (List.mem_of_getElem? (i := 29) rfl))) rfl rfl rfl ⟨rfl, by decide, by decide, by decide +kernel⟩ ⟨Nat.le_of_ble_eq_true rfl, Nat.le_of_ble_eq_true rfl⟩) rfl rfl (by decide) rfl hl.1 rfl (Nat.le_of_ble_eq_true rfl) dX14_sounds_181 (by show _ ≤ 18; omega) (Nat.add_le_add_right (by omega) _) tL5 (fun H locs v σ181 N hBn hX181 hP => ?_)
                  clear hB; have hB := hBn; clear hBn
                  obtain ⟨rfl, hAd181⟩ := hP
                  obtain ⟨hI181, ada181, adb181, adc181, add181, ade181, adf181, adg181, adh181⟩ := inv_ad hI178 tL5 za181 hAd181 (sg_eda F hB) (by unfold iEl; rw [rle]; exact hbx) (by rw [rle]; refine inv_cap ?_ (Or.inr rfl); rw [sL5]; omega) (Or.inl ⟨inv_nD hI178 (by rw [rle]; decide), rfl⟩) (nr7 rle (by decide))
                  have z181 : zR l1 σ σ181 := zR_tr hzr (zR_tr z5 (zR_l (l2 := le) add181 adf181 adg181 adh181 (tFr_T z5.1 tl3 (by decide)) nle))
                  refine lv_pop hx hb dX14_sounds_184 rfl ?_
                  refine lv_iinc (lv' := [(7, .int _), (8, .int _), (6, .ref _), (5, .ref _), (4, .int _), (3, .int _), (2, .ref _), (1, .int _), (0, .ref _)]) hx hb dX14_sounds_185 hl (k := 1) rfl rfl (by decide) rfl (fun ls hl => ?_)
                  refine lv_goto (tgt := 89) hx hb dX14_sounds_188 (by decide) ?_
                  have hi3 := i_nle c92
                  have e9 : (k9 + Int32.ofInt 1).toInt = k9.toInt + 1 := m_add1 (by omega) (by omega)
                  first
                    | exact ih89 _ (by subst hd89; rw [e9]; omega) _ _ _ _ _ _ _ _ hB (lv_sub hl [0, 2, 3, 4, 5, 6, 7, 8] rfl) hI181 ⟨by rw [e9]; omega, by rw [e9]; omega⟩ (by rw [e9, ada181, sL5]; omega) ⟨by rw [e9]; show kc + 1 + 1 ≤ _; omega, by rw [e9]; omega⟩ z181 rfl
                    | exact ih89 _ (by subst hd89; rw [e9]; omega) _ _ _ _ _ _ _ _ hB (lv_sub hl [0, 2, 3, 4, 5, 6, 7, 8] rfl) hI3 ⟨by rw [e9]; omega, by rw [e9]; omega⟩ (by rw [e9]; omega) ⟨by rw [e9]; omega, by rw [e9]; omega⟩ hzr rfl
          · refine lv_iconst (v := 1) hx hb dX14_sounds_77 (by decide) ?_
            refine lv_goto (tgt := 82) hx hb dX14_sounds_78 (by decide) ?_
            refine lv_iadd hx hb dX14_sounds_82 ?_
            refine pf_X14_366 F hB dX14_sounds_83 (inv_A h) (fun H locs hBn => ?_)
            clear hB; have hB := hBn; clear hBn
            have hI83 := inv_PIc (t := 20) hB h (inv_A h) (by unfold iCn; omega)
            have z83 := zPIB (l1 := l1) (t := 20) hB (inv_A h) (by decide) tl
            have hb0 := i_nle c48
            rw [m_i0] at hb0
            obtain ⟨kc, hkc⟩ : ∃ kc : Nat, kc = 0 := ⟨_, rfl⟩
            refine W.widen (k := kc) (n := N) (by omega) (Nat.le_refl _) ?_
            refine lv_iconst (v := 0) hx hb dX14_sounds_86 (by decide) ?_
            refine lv_istore (lv' := [(7, .int _), (6, .ref _), (5, .ref _), (0, .ref _), (1, .int _), (2, .ref _), (3, .int _), (4, .int _)]) hx hb dX14_sounds_87 hl (by decide) rfl (fun ls hl => ?_)
            have key89 : ∃ (σ3 : SG) (k9 : Int32) (nc : Nat), sgB D cy s σ σ3 H locs N nc ∧ lv_has ls 9 [(7, .int k9), (6, .ref t0), (5, .ref pp), (4, .int f0), (3, .int b), (2, .ref xe), (1, .int x), (0, .ref (kA K))] ∧ Inv eda ia K g n S hw σ3 ∧ (0 ≤ k9.toInt ∧ k9.toInt ≤ b.toInt) ∧ sgSz σ3 le ≤ sgSz σ le + k9.toInt.toNat ∧ (kc ≤ 2 * k9.toInt.toNat ∧ nc ≤ 16 * k9.toInt.toNat) ∧ zR l1 σ σ3 := ⟨_, _, _, hB, (lv_sub hl [0, 1, 2, 7, 6, 5, 4, 3] rfl), hI83, ⟨by decide, by rw [m_i0]; omega⟩, by rw [m_i0]; exact Nat.le_of_eq (sgSz_nk (by decide)), ⟨by omega, by omega⟩, z83⟩
            clear hB hl hkc
            obtain ⟨σ3, k9, nc, hB, hl, hI3, hi, hzl, hkn, hzr⟩ := key89
            obtain ⟨d89, hd89⟩ : ∃ d : Nat, d = (b.toInt - k9.toInt).toNat := ⟨_, rfl⟩
            induction d89 using Nat.strongRecOn generalizing H locs ls N σ3 k9 nc kc
            rename_i d89 ih89
            have tx3 : sgT σ3 xe = 17 := tFr_T hzr.1 txe (by decide)
            have tp3 : sgT σ3 pp = 18 := tFr_T hzr.1 tp (by decide)
            have tle3 : sgT σ3 le = 5 := tFr_T hzr.1 tle (by decide)
            have hle3 : sgR σ3 xe 3 = some le := (hzr.2.2.2.2.1 xe 3 (by rw [txe]; decide)).trans hle
            have tl3 : sgT σ3 l1 = 5 := tFr_T hzr.1 tl (by decide)
            have tt3 : sgT σ3 t0 = 19 := tFr_T hzr.1 tt (by decide)
            have d3 : sgI σ3 t0 2 = sgI σ t0 2 := hzr.2.1 t0 2 tt
            have x03 : sgI σ3 xe 0 = sgI σ xe 0 := hzr.2.2.2.1 xe 0 txe (by decide)
            refine lv_iload hx hb dX14_sounds_89 (lv_at hl 0 rfl) ?_
            refine lv_iload_n hx hb dX14_sounds_91 rfl (lv_at hl 4 rfl) ?_
            refine lv_icmp_ge (tgt := 191) hx hb dX14_sounds_92 (by decide) (fun c92 => ?_) (fun c92 => ?_)
            · have hi4 := i_le c92
              refine W.widen (k := 16) (n := N) (show kc ≤ 16 from by omega) (Nat.le_refl _) ?_
              have hBn := sgB_up (n2 := 128) hB (show nc ≤ 128 from by omega)
              clear hB; have hB := hBn; clear hBn
              refine lv_aload hx hb dX14_sounds_191 (lv_at hl 1 rfl) ?_
              refine lv_dup hx hb dX14_sounds_193 rfl ?_
              refine gf_X14_284 F hB dX14_sounds_194 tt3 ?_
              refine lv_iload_n hx hb dX14_sounds_197 rfl (lv_at hl 4 rfl) ?_
              refine lv_iadd hx hb dX14_sounds_198 ?_
              refine pf_X14_284 F hB dX14_sounds_199 tt3 (fun H locs hBn => ?_)
              clear hB; have hB := hBn; clear hBn
              have hI199 := inv_dnB hB hI3 tt3
              have w3 := wPp_z h wc hzr
              have wB := wPp_hB hB (wPp_PI w3 (Or.inr ⟨fun z => absurd (tt3.symm.trans z) (by decide), fun z => absurd (tt3.symm.trans z) (by decide)⟩) tp3 tl3)
              have hB199 := hB
              have i3 := iW_tr hzr.1 (inv_T h) tt (hzr.2.1 t0 1 tt) (hzr.2.1 t0 2 tt) x03 (hzr.2.2.2.2.1 t0 0 (by rw [tt]; decide)) ⟨iw1, iw2, iw3, iw4⟩
              refine lv_aload hx hb dX14_sounds_202 (lv_at hl 1 rfl) ?_
              refine lv_aload hx hb dX14_sounds_204 (lv_at hl 1 rfl) ?_
              refine gf_X14_371 F hB dX14_sounds_206 (by exact tt3) ?_
              refine lv_if_ne (tgt := 219) hx hb dX14_sounds_209 (by decide) (fun c209 => ?_) (fun c209 => ?_)
              · refine lv_iconst (v := 1) hx hb dX14_sounds_219 (by decide) ?_
                refine lv_goto (tgt := 224) hx hb dX14_sounds_220 (by decide) ?_
                refine pf_X14_371 F hB dX14_sounds_224 (by exact tt3) ⟨by decide, by decide⟩ (fun H locs hBn => ?_)
                clear hB; have hB := hBn; clear hBn
                have hI224 := inv_PIc (t := 19) hB hI199 (by exact tt3) (by unfold iCn; omega)
                have wC := wPp_hB4 hB (wPp_PI wB (Or.inr ⟨fun z => absurd (tt3.symm.trans z) (by decide), fun z => absurd (tt3.symm.trans z) (by decide)⟩) (by exact tp3) (by exact tl3))
                have hBC := hB
                refine lv_aload hx hb dX14_sounds_227 (lv_at hl 1 rfl) ?_
                refine gf_X14_284 F hB dX14_sounds_229 (by exact tt3) ?_
                refine lv_aload hx hb dX14_sounds_232 (lv_at hl 1 rfl) ?_
                refine gf_X14_338 F hB dX14_sounds_234 (by exact tt3) ?_
                refine lv_icmp_lt (tgt := 263) hx hb dX14_sounds_237 (by decide) (fun c237 => ?_) (fun c237 => ?_)
                · refine lv_aload_n hx hb dX14_sounds_263 rfl (lv_at hl 5 rfl) ?_
                  refine gf_X14_300 F hB dX14_sounds_264 (by exact tx3) ?_
                  refine lv_if_eq (tgt := 285) hx hb dX14_sounds_267 (by decide) (fun c267 => ?_) (fun c267 => ((c267 ((((sgI_nk (by decide)).trans (sgI_nk (by decide))).trans x03).trans hin)) : False).elim)
                  first
                    | have hfin := hI257b
                    | have hfin := hI282b
                    | have hfin := inv_dnw hI224 wC (iW_C hBC (iW_L hB199 i3 tt3 tx3 hbb.1 hbb.2 (m_ltC hBC i3 hbb.1 hbb.2 c237)))
                    | have hfin : Inv eda ia K g n S hw _ := hI224
                  refine lv_iconst (v := 1) hx hb dX14_sounds_285 (by decide) ?_
                  exact sg_iret F hB hrt dX14_sounds_286 (by omega) (by omega) (⟨⟨_, rfl, Or.inl rfl⟩, hfin⟩)
                · obtain ⟨m1, hm1⟩ := m_evm hB (K := K)
                  refine lv_aload_n hx hb dX14_sounds_240 rfl (lv_at hl 7 rfl) ?_
                  refine lv_iload_n hx hb dX14_sounds_241 rfl (lv_at hl 6 rfl) ?_
                  refine lv_aload hx hb dX14_sounds_242 (lv_at hl 1 rfl) ?_
                  refine gf_X14_371 F hB dX14_sounds_244 (by exact tt3) ?_
                  refine lv_if_eq (tgt := 255) hx hb dX14_sounds_247 (by decide) (fun c247 => ?_) (fun c247 => ?_)
                  · refine lv_bipush (v := 100) hx hb dX14_sounds_255 (by decide) ?_
                    refine sg_callV (ci := 19) F hB (m_ends l D cy hI224 x _ wC.1.1 wC.1.2 wC.2.1 wC.2.2.1 wC.2.2.2.1 hm1 _) (cwV 2 F.1.2.2.2.2 (mgV (mm_5 _ (List.mem_of_getElem? (i := 33) rfl)) (mm_5 _ (List.mem_of_getElem? (i := 34) rfl)) (mm_5 _ (List.mem_of_getElem? (i := 35) rfl)) (mm_3 _ (List.mem_of_getElem? (i := 23) rfl)) (mm_5 _ (List.mem_of_getElem? (i := 32) rfl))) rfl rfl rfl ⟨rfl, by decide, by decide, by decide +kernel⟩ ⟨Nat.le_of_ble_eq_true rfl, Nat.le_of_ble_eq_true rfl⟩) rfl rfl (by decide) rfl hl.1 rfl (Nat.le_of_ble_eq_true rfl) dX14_sounds_257 (Nat.le_trans (show _ ≤ 18 from by omega) (Nat.le_of_ble_eq_true rfl)) (Nat.add_le_add_right (Nat.le_trans (show _ ≤ 146 from by omega) (Nat.le_of_ble_eq_true rfl)) _) (inv_A hI224) (fun H locs v σ257 N hBn hX257 hP => ?_)
                    clear hB; have hB := hBn; clear hBn
                    refine W.widen (k := 18) (n := N) (show _ ≤ 18 from by omega) (Nat.le_refl _) ?_
                    have hBn := sgB_up (n2 := 146) hB (show _ ≤ 146 from by omega)
                    clear hB; have hB := hBn; clear hBn
                    obtain ⟨rfl, hI257, en1_257, en2_257, en3_257, en4_257⟩ := hP
                    have hI257b := inv_dne hI224 wC hI257 en1_257 en2_257 en4_257
                    refine lv_goto (tgt := 285) hx hb dX14_sounds_260 (by decide) ?_
                    first
                      | have hfin := hI257b
                      | have hfin := hI282b
                      | have hfin := inv_dnw hI257b wC (iW_C hBC (iW_L hB199 i3 tt3 tx3 hbb.1 hbb.2 (m_ltC hBC i3 hbb.1 hbb.2 c237)))
                      | have hfin : Inv eda ia K g n S hw _ := hI257b
                    refine lv_iconst (v := 1) hx hb dX14_sounds_285 (by decide) ?_
                    exact sg_iret F hB hrt dX14_sounds_286 (by omega) (by omega) (⟨⟨_, rfl, Or.inl rfl⟩, hfin⟩)
                  · refine lv_bipush (v := 108) hx hb dX14_sounds_250 (by decide) ?_
                    refine lv_goto (tgt := 257) hx hb dX14_sounds_252 (by decide) ?_
                    refine sg_callV (ci := 19) F hB (m_ends l D cy hI224 x _ wC.1.1 wC.1.2 wC.2.1 wC.2.2.1 wC.2.2.2.1 hm1 _) (cwV 2 F.1.2.2.2.2 (mgV (mm_5 _ (List.mem_of_getElem? (i := 33) rfl)) (mm_5 _ (List.mem_of_getElem? (i := 34) rfl)) (mm_5 _ (List.mem_of_getElem? (i := 35) rfl)) (mm_3 _ (List.mem_of_getElem? (i := 23) rfl)) (mm_5 _ (List.mem_of_getElem? (i := 32) rfl))) rfl rfl rfl ⟨rfl, by decide, by decide, by decide +kernel⟩ ⟨Nat.le_of_ble_eq_true rfl, Nat.le_of_ble_eq_true rfl⟩) rfl rfl (by decide) rfl hl.1 rfl (Nat.le_of_ble_eq_true rfl) dX14_sounds_257 (Nat.le_trans (show _ ≤ 18 from by omega) (Nat.le_of_ble_eq_true rfl)) (Nat.add_le_add_right (Nat.le_trans (show _ ≤ 146 from by omega) (Nat.le_of_ble_eq_true rfl)) _) (inv_A hI224) (fun H locs v σ257 N hBn hX257 hP => ?_)
                    clear hB; have hB := hBn; clear hBn
                    refine W.widen (k := 18) (n := N) (show _ ≤ 18 from by omega) (Nat.le_refl _) ?_
                    have hBn := sgB_up (n2 := 146) hB (show _ ≤ 146 from by omega)
                    clear hB; have hB := hBn; clear hBn
                    obtain ⟨rfl, hI257, en1_257, en2_257, en3_257, en4_257⟩ := hP
                    have hI257b := inv_dne hI224 wC hI257 en1_257 en2_257 en4_257
                    refine lv_goto (tgt := 285) hx hb dX14_sounds_260 (by decide) ?_
                    first
                      | have hfin := hI257b
                      | have hfin := hI282b
                      | have hfin := inv_dnw hI257b wC (iW_C hBC (iW_L hB199 i3 tt3 tx3 hbb.1 hbb.2 (m_ltC hBC i3 hbb.1 hbb.2 c237)))
                      | have hfin : Inv eda ia K g n S hw _ := hI257b
                    refine lv_iconst (v := 1) hx hb dX14_sounds_285 (by decide) ?_
                    exact sg_iret F hB hrt dX14_sounds_286 (by omega) (by omega) (⟨⟨_, rfl, Or.inl rfl⟩, hfin⟩)
              · refine lv_iload hx hb dX14_sounds_212 (lv_at hl 3 rfl) ?_
                refine lv_bipush (v := 32) hx hb dX14_sounds_214 (by decide) ?_
                refine lv_icmp_eq (tgt := 223) hx hb dX14_sounds_216 (by decide) (fun c216 => ?_) (fun c216 => ?_)
                · refine lv_iconst (v := 0) hx hb dX14_sounds_223 (by decide) ?_
                  refine pf_X14_371 F hB dX14_sounds_224 (by exact tt3) ⟨by decide, by decide⟩ (fun H locs hBn => ?_)
                  clear hB; have hB := hBn; clear hBn
                  have hI224 := inv_PIc (t := 19) hB hI199 (by exact tt3) (by unfold iCn; omega)
                  have wC := wPp_hB4 hB (wPp_PI wB (Or.inr ⟨fun z => absurd (tt3.symm.trans z) (by decide), fun z => absurd (tt3.symm.trans z) (by decide)⟩) (by exact tp3) (by exact tl3))
                  have hBC := hB
                  refine lv_aload hx hb dX14_sounds_227 (lv_at hl 1 rfl) ?_
                  refine gf_X14_284 F hB dX14_sounds_229 (by exact tt3) ?_
                  refine lv_aload hx hb dX14_sounds_232 (lv_at hl 1 rfl) ?_
                  refine gf_X14_338 F hB dX14_sounds_234 (by exact tt3) ?_
                  refine lv_icmp_lt (tgt := 263) hx hb dX14_sounds_237 (by decide) (fun c237 => ?_) (fun c237 => ?_)
                  · refine lv_aload_n hx hb dX14_sounds_263 rfl (lv_at hl 5 rfl) ?_
                    refine gf_X14_300 F hB dX14_sounds_264 (by exact tx3) ?_
                    refine lv_if_eq (tgt := 285) hx hb dX14_sounds_267 (by decide) (fun c267 => ?_) (fun c267 => ((c267 ((((sgI_nk (by decide)).trans (sgI_nk (by decide))).trans x03).trans hin)) : False).elim)
                    first
                      | have hfin := hI257b
                      | have hfin := hI282b
                      | have hfin := inv_dnw hI224 wC (iW_C hBC (iW_L hB199 i3 tt3 tx3 hbb.1 hbb.2 (m_ltC hBC i3 hbb.1 hbb.2 c237)))
                      | have hfin : Inv eda ia K g n S hw _ := hI224
                    refine lv_iconst (v := 1) hx hb dX14_sounds_285 (by decide) ?_
                    exact sg_iret F hB hrt dX14_sounds_286 (by omega) (by omega) (⟨⟨_, rfl, Or.inl rfl⟩, hfin⟩)
                  · obtain ⟨m1, hm1⟩ := m_evm hB (K := K)
                    refine lv_aload_n hx hb dX14_sounds_240 rfl (lv_at hl 7 rfl) ?_
                    refine lv_iload_n hx hb dX14_sounds_241 rfl (lv_at hl 6 rfl) ?_
                    refine lv_aload hx hb dX14_sounds_242 (lv_at hl 1 rfl) ?_
                    refine gf_X14_371 F hB dX14_sounds_244 (by exact tt3) ?_
                    refine lv_if_eq (tgt := 255) hx hb dX14_sounds_247 (by decide) (fun c247 => ?_) (fun c247 => ?_)
                    · refine lv_bipush (v := 100) hx hb dX14_sounds_255 (by decide) ?_
                      refine sg_callV (ci := 19) F hB (m_ends l D cy hI224 x _ wC.1.1 wC.1.2 wC.2.1 wC.2.2.1 wC.2.2.2.1 hm1 _) (cwV 2 F.1.2.2.2.2 (mgV (mm_5 _ (List.mem_of_getElem? (i := 33) rfl)) (mm_5 _ (List.mem_of_getElem? (i := 34) rfl)) (mm_5 _ (List.mem_of_getElem? (i := 35) rfl)) (mm_3 _ (List.mem_of_getElem? (i := 23) rfl)) (mm_5 _ (List.mem_of_getElem? (i := 32) rfl))) rfl rfl rfl ⟨rfl, by decide, by decide, by decide +kernel⟩ ⟨Nat.le_of_ble_eq_true rfl, Nat.le_of_ble_eq_true rfl⟩) rfl rfl (by decide) rfl hl.1 rfl (Nat.le_of_ble_eq_true rfl) dX14_sounds_257 (Nat.le_trans (show _ ≤ 18 from by omega) (Nat.le_of_ble_eq_true rfl)) (Nat.add_le_add_right (Nat.le_trans (show _ ≤ 146 from by omega) (Nat.le_of_ble_eq_true rfl)) _) (inv_A hI224) (fun H locs v σ257 N hBn hX257 hP => ?_)
                      clear hB; have hB := hBn; clear hBn
                      refine W.widen (k := 18) (n := N) (show _ ≤ 18 from by omega) (Nat.le_refl _) ?_
                      have hBn := sgB_up (n2 := 146) hB (show _ ≤ 146 from by omega)
                      clear hB; have hB := hBn; clear hBn
                      obtain ⟨rfl, hI257, en1_257, en2_257, en3_257, en4_257⟩ := hP
                      have hI257b := inv_dne hI224 wC hI257 en1_257 en2_257 en4_257
                      refine lv_goto (tgt := 285) hx hb dX14_sounds_260 (by decide) ?_
                      first
                        | have hfin := hI257b
                        | have hfin := hI282b
                        | have hfin := inv_dnw hI257b wC (iW_C hBC (iW_L hB199 i3 tt3 tx3 hbb.1 hbb.2 (m_ltC hBC i3 hbb.1 hbb.2 c237)))
                        | have hfin : Inv eda ia K g n S hw _ := hI257b
                      refine lv_iconst (v := 1) hx hb dX14_sounds_285 (by decide) ?_
                      exact sg_iret F hB hrt dX14_sounds_286 (by omega) (by omega) (⟨⟨_, rfl, Or.inl rfl⟩, hfin⟩)
                    · refine lv_bipush (v := 108) hx hb dX14_sounds_250 (by decide) ?_
                      refine lv_goto (tgt := 257) hx hb dX14_sounds_252 (by decide) ?_
                      refine sg_callV (ci := 19) F hB (m_ends l D cy hI224 x _ wC.1.1 wC.1.2 wC.2.1 wC.2.2.1 wC.2.2.2.1 hm1 _) (cwV 2 F.1.2.2.2.2 (mgV (mm_5 _ (List.mem_of_getElem? (i := 33) rfl)) (mm_5 _ (List.mem_of_getElem? (i := 34) rfl)) (mm_5 _ (List.mem_of_getElem? (i := 35) rfl)) (mm_3 _ (List.mem_of_getElem? (i := 23) rfl)) (mm_5 _ (List.mem_of_getElem? (i := 32) rfl))) rfl rfl rfl ⟨rfl, by decide, by decide, by decide +kernel⟩ ⟨Nat.le_of_ble_eq_true rfl, Nat.le_of_ble_eq_true rfl⟩) rfl rfl (by decide) rfl hl.1 rfl (Nat.le_of_ble_eq_true rfl) dX14_sounds_257 (Nat.le_trans (show _ ≤ 18 from by omega) (Nat.le_of_ble_eq_true rfl)) (Nat.add_le_add_right (Nat.le_trans (show _ ≤ 146 from by omega) (Nat.le_of_ble_eq_true rfl)) _) (inv_A hI224) (fun H locs v σ257 N hBn hX257 hP => ?_)
                      clear hB; have hB := hBn; clear hBn
                      refine W.widen (k := 18) (n := N) (show _ ≤ 18 from by omega) (Nat.le_refl _) ?_
                      have hBn := sgB_up (n2 := 146) hB (show _ ≤ 146 from by omega)
                      clear hB; have hB := hBn; clear hBn
                      obtain ⟨rfl, hI257, en1_257, en2_257, en3_257, en4_257⟩ := hP
                      have hI257b := inv_dne hI224 wC hI257 en1_257 en2_257 en4_257
                      refine lv_goto (tgt := 285) hx hb dX14_sounds_260 (by decide) ?_
                      first
                        | have hfin := hI257b
                        | have hfin := hI282b
                        | have hfin := inv_dnw hI257b wC (iW_C hBC (iW_L hB199 i3 tt3 tx3 hbb.1 hbb.2 (m_ltC hBC i3 hbb.1 hbb.2 c237)))
                        | have hfin : Inv eda ia K g n S hw _ := hI257b
                      refine lv_iconst (v := 1) hx hb dX14_sounds_285 (by decide) ?_
                      exact sg_iret F hB hrt dX14_sounds_286 (by omega) (by omega) (⟨⟨_, rfl, Or.inl rfl⟩, hfin⟩)
                · refine lv_iconst (v := 1) hx hb dX14_sounds_219 (by decide) ?_
                  refine lv_goto (tgt := 224) hx hb dX14_sounds_220 (by decide) ?_
                  refine pf_X14_371 F hB dX14_sounds_224 (by exact tt3) ⟨by decide, by decide⟩ (fun H locs hBn => ?_)
                  clear hB; have hB := hBn; clear hBn
                  have hI224 := inv_PIc (t := 19) hB hI199 (by exact tt3) (by unfold iCn; omega)
                  have wC := wPp_hB4 hB (wPp_PI wB (Or.inr ⟨fun z => absurd (tt3.symm.trans z) (by decide), fun z => absurd (tt3.symm.trans z) (by decide)⟩) (by exact tp3) (by exact tl3))
                  have hBC := hB
                  refine lv_aload hx hb dX14_sounds_227 (lv_at hl 1 rfl) ?_
                  refine gf_X14_284 F hB dX14_sounds_229 (by exact tt3) ?_
                  refine lv_aload hx hb dX14_sounds_232 (lv_at hl 1 rfl) ?_
                  refine gf_X14_338 F hB dX14_sounds_234 (by exact tt3) ?_
                  refine lv_icmp_lt (tgt := 263) hx hb dX14_sounds_237 (by decide) (fun c237 => ?_) (fun c237 => ?_)
                  · refine lv_aload_n hx hb dX14_sounds_263 rfl (lv_at hl 5 rfl) ?_
                    refine gf_X14_300 F hB dX14_sounds_264 (by exact tx3) ?_
                    refine lv_if_eq (tgt := 285) hx hb dX14_sounds_267 (by decide) (fun c267 => ?_) (fun c267 => ((c267 ((((sgI_nk (by decide)).trans (sgI_nk (by decide))).trans x03).trans hin)) : False).elim)
                    first
                      | have hfin := hI257b
                      | have hfin := hI282b
                      | have hfin := inv_dnw hI224 wC (iW_C hBC (iW_L hB199 i3 tt3 tx3 hbb.1 hbb.2 (m_ltC hBC i3 hbb.1 hbb.2 c237)))
                      | have hfin : Inv eda ia K g n S hw _ := hI224
                    refine lv_iconst (v := 1) hx hb dX14_sounds_285 (by decide) ?_
                    exact sg_iret F hB hrt dX14_sounds_286 (by omega) (by omega) (⟨⟨_, rfl, Or.inl rfl⟩, hfin⟩)
                  · obtain ⟨m1, hm1⟩ := m_evm hB (K := K)
                    refine lv_aload_n hx hb dX14_sounds_240 rfl (lv_at hl 7 rfl) ?_
                    refine lv_iload_n hx hb dX14_sounds_241 rfl (lv_at hl 6 rfl) ?_
                    refine lv_aload hx hb dX14_sounds_242 (lv_at hl 1 rfl) ?_
                    refine gf_X14_371 F hB dX14_sounds_244 (by exact tt3) ?_
                    refine lv_if_eq (tgt := 255) hx hb dX14_sounds_247 (by decide) (fun c247 => ?_) (fun c247 => ?_)
                    · refine lv_bipush (v := 100) hx hb dX14_sounds_255 (by decide) ?_
                      refine sg_callV (ci := 19) F hB (m_ends l D cy hI224 x _ wC.1.1 wC.1.2 wC.2.1 wC.2.2.1 wC.2.2.2.1 hm1 _) (cwV 2 F.1.2.2.2.2 (mgV (mm_5 _ (List.mem_of_getElem? (i := 33) rfl)) (mm_5 _ (List.mem_of_getElem? (i := 34) rfl)) (mm_5 _ (List.mem_of_getElem? (i := 35) rfl)) (mm_3 _ (List.mem_of_getElem? (i := 23) rfl)) (mm_5 _ (List.mem_of_getElem? (i := 32) rfl))) rfl rfl rfl ⟨rfl, by decide, by decide, by decide +kernel⟩ ⟨Nat.le_of_ble_eq_true rfl, Nat.le_of_ble_eq_true rfl⟩) rfl rfl (by decide) rfl hl.1 rfl (Nat.le_of_ble_eq_true rfl) dX14_sounds_257 (Nat.le_trans (show _ ≤ 18 from by omega) (Nat.le_of_ble_eq_true rfl)) (Nat.add_le_add_right (Nat.le_trans (show _ ≤ 146 from by omega) (Nat.le_of_ble_eq_true rfl)) _) (inv_A hI224) (fun H locs v σ257 N hBn hX257 hP => ?_)
                      clear hB; have hB := hBn; clear hBn
                      refine W.widen (k := 18) (n := N) (show _ ≤ 18 from by omega) (Nat.le_refl _) ?_
                      have hBn := sgB_up (n2 := 146) hB (show _ ≤ 146 from by omega)
                      clear hB; have hB := hBn; clear hBn
                      obtain ⟨rfl, hI257, en1_257, en2_257, en3_257, en4_257⟩ := hP
                      have hI257b := inv_dne hI224 wC hI257 en1_257 en2_257 en4_257
                      refine lv_goto (tgt := 285) hx hb dX14_sounds_260 (by decide) ?_
                      first
                        | have hfin := hI257b
                        | have hfin := hI282b
                        | have hfin := inv_dnw hI257b wC (iW_C hBC (iW_L hB199 i3 tt3 tx3 hbb.1 hbb.2 (m_ltC hBC i3 hbb.1 hbb.2 c237)))
                        | have hfin : Inv eda ia K g n S hw _ := hI257b
                      refine lv_iconst (v := 1) hx hb dX14_sounds_285 (by decide) ?_
                      exact sg_iret F hB hrt dX14_sounds_286 (by omega) (by omega) (⟨⟨_, rfl, Or.inl rfl⟩, hfin⟩)
                    · refine lv_bipush (v := 108) hx hb dX14_sounds_250 (by decide) ?_
                      refine lv_goto (tgt := 257) hx hb dX14_sounds_252 (by decide) ?_
                      refine sg_callV (ci := 19) F hB (m_ends l D cy hI224 x _ wC.1.1 wC.1.2 wC.2.1 wC.2.2.1 wC.2.2.2.1 hm1 _) (cwV 2 F.1.2.2.2.2 (mgV (mm_5 _ (List.mem_of_getElem? (i := 33) rfl)) (mm_5 _ (List.mem_of_getElem? (i := 34) rfl)) (mm_5 _ (List.mem_of_getElem? (i := 35) rfl)) (mm_3 _ (List.mem_of_getElem? (i := 23) rfl)) (mm_5 _ (List.mem_of_getElem? (i := 32) rfl))) rfl rfl rfl ⟨rfl, by decide, by decide, by decide +kernel⟩ ⟨Nat.le_of_ble_eq_true rfl, Nat.le_of_ble_eq_true rfl⟩) rfl rfl (by decide) rfl hl.1 rfl (Nat.le_of_ble_eq_true rfl) dX14_sounds_257 (Nat.le_trans (show _ ≤ 18 from by omega) (Nat.le_of_ble_eq_true rfl)) (Nat.add_le_add_right (Nat.le_trans (show _ ≤ 146 from by omega) (Nat.le_of_ble_eq_true rfl)) _) (inv_A hI224) (fun H locs v σ257 N hBn hX257 hP => ?_)
                      clear hB; have hB := hBn; clear hBn
                      refine W.widen (k := 18) (n := N) (show _ ≤ 18 from by omega) (Nat.le_refl _) ?_
                      have hBn := sgB_up (n2 := 146) hB (show _ ≤ 146 from by omega)
                      clear hB; have hB := hBn; clear hBn
                      obtain ⟨rfl, hI257, en1_257, en2_257, en3_257, en4_257⟩ := hP
                      have hI257b := inv_dne hI224 wC hI257 en1_257 en2_257 en4_257
                      refine lv_goto (tgt := 285) hx hb dX14_sounds_260 (by decide) ?_
                      first
                        | have hfin := hI257b
                        | have hfin := hI282b
                        | have hfin := inv_dnw hI257b wC (iW_C hBC (iW_L hB199 i3 tt3 tx3 hbb.1 hbb.2 (m_ltC hBC i3 hbb.1 hbb.2 c237)))
                        | have hfin : Inv eda ia K g n S hw _ := hI257b
                      refine lv_iconst (v := 1) hx hb dX14_sounds_285 (by decide) ?_
                      exact sg_iret F hB hrt dX14_sounds_286 (by omega) (by omega) (⟨⟨_, rfl, Or.inl rfl⟩, hfin⟩)
            · have hi4 := i_nle c92
              refine lv_aload_n hx hb dX14_sounds_95 rfl (lv_at hl 5 rfl) ?_
              refine gf_X14_300 F hB dX14_sounds_96 tx3 ?_
              refine lv_if_eq (tgt := 119) hx hb dX14_sounds_99 (by decide) (fun c99 => ?_) (fun c99 => ((c99 ((x03).trans hin)) : False).elim)
              obtain ⟨bt, ht0, tbt, nbt⟩ := inv_T hI3 t0 tt3
              obtain ⟨bt1, ht1, tbt1, nbt1⟩ := inv_T h t0 tt
              have ebt : bt = bt1 := Option.some.inj (ht0.symm.trans ((hzr.2.2.2.2.1 t0 0 (by rw [tt]; decide)).trans ht1))
              have nb3 : sgN σ3 bt = sgN σ bt := by rw [ebt]; exact tFr_N hzr.1 tbt1 (by decide)
              have iw5 := iw4 hin bt (by rw [ebt]; exact ht1)
              have eix : (sgI σ3 t0 2 + k9).toInt = (sgI σ t0 2).toInt + k9.toInt := by rw [d3]; exact m_addb (by omega) (by omega) (by omega) (by omega)
              refine lv_aload hx hb dX14_sounds_119 (lv_at hl 1 rfl) ?_
              refine gr_X14_369 F hB dX14_sounds_121 tt3 ht0 ?_
              refine lv_aload hx hb dX14_sounds_124 (lv_at hl 1 rfl) ?_
              refine gf_X14_284 F hB dX14_sounds_126 tt3 ?_
              refine lv_iload hx hb dX14_sounds_129 (lv_at hl 0 rfl) ?_
              refine lv_iadd hx hb dX14_sounds_131 ?_
              refine sg_iald hx hb F.2.1 hB.1 dX14_sounds_132 tbt (by omega) (by omega) (by omega) ?_
              refine lv_istore (lv' := [(8, .int _), (7, .int _), (6, .ref _), (5, .ref _), (4, .int _), (3, .int _), (2, .ref _), (1, .int _), (0, .ref _)]) hx hb dX14_sounds_133 hl (by decide) rfl (fun ls hl => ?_)
              refine lv_iload hx hb dX14_sounds_135 (lv_at hl 4 rfl) ?_
              refine lv_bipush (v := 32) hx hb dX14_sounds_137 (by decide) ?_
              refine lv_icmp_ne (tgt := 165) hx hb dX14_sounds_139 (by decide) (fun c139 => ?_) (fun c139 => ?_)
              · refine lv_iload hx hb dX14_sounds_165 (lv_at hl 4 rfl) ?_
                refine lv_bipush (v := 32) hx hb dX14_sounds_167 (by decide) ?_
                refine lv_icmp_ne (tgt := 185) hx hb dX14_sounds_169 (by decide) (fun c169 => ?_) (fun c169 => ?_)
                · refine lv_iinc (lv' := [(7, .int _), (8, .int _), (6, .ref _), (5, .ref _), (4, .int _), (3, .int _), (2, .ref _), (1, .int _), (0, .ref _)]) hx hb dX14_sounds_185 hl (k := 1) rfl rfl (by decide) rfl (fun ls hl => ?_)
                  refine lv_goto (tgt := 89) hx hb dX14_sounds_188 (by decide) ?_
                  have hi3 := i_nle c92
                  have e9 : (k9 + Int32.ofInt 1).toInt = k9.toInt + 1 := m_add1 (by omega) (by omega)
                  first
                    | exact ih89 _ (by subst hd89; rw [e9]; omega) _ _ _ _ _ _ _ _ hB (lv_sub hl [0, 2, 3, 4, 5, 6, 7, 8] rfl) hI181 ⟨by rw [e9]; omega, by rw [e9]; omega⟩ (by rw [e9, ada181, sL5]; omega) ⟨by rw [e9]; show kc + 1 + 1 ≤ _; omega, by rw [e9]; omega⟩ z181 rfl
                    | exact ih89 _ (by subst hd89; rw [e9]; omega) _ _ _ _ _ _ _ _ hB (lv_sub hl [0, 2, 3, 4, 5, 6, 7, 8] rfl) hI3 ⟨by rw [e9]; omega, by rw [e9]; omega⟩ (by rw [e9]; omega) ⟨by rw [e9]; omega, by rw [e9]; omega⟩ hzr rfl
                · refine lv_aload_n hx hb dX14_sounds_172 rfl (lv_at hl 6 rfl) ?_
                  refine gr_X14_320 F hB dX14_sounds_173 tx3 hle3 ?_
                  refine lv_iload hx hb dX14_sounds_176 (lv_at hl 0 rfl) ?_
                  refine sg_callS F hB (m_box l D cy _ _) (va_cwS 1 F.1.2.2.2.2 (mgS2 (mm_7 _ (List.mem_of_getElem? (i := 33) rfl)) (mm_7 _ (List.mem_of_getElem? (i := 34) rfl)) (mm_7 _ (List.mem_of_getElem? (i := 30) rfl)) (mm_7 _ (List.mem_of_getElem? (i := 25) rfl))) rfl rfl rfl ⟨by decide, by decide, by decide +kernel⟩ ⟨Nat.le_of_ble_eq_true rfl, Nat.le_of_ble_eq_true rfl⟩) rfl hl.1 rfl (Nat.le_of_ble_eq_true rfl) dX14_sounds_178 (by show _ ≤ 18; omega) (Nat.add_le_add_right (by omega) _)  (fun H locs v σ178 N hBn hX178 hP => ?_)
                  clear hB; have hB := hBn; clear hBn
                  obtain ⟨y178, rfl, hbx, hqt⟩ := hP
                  have ed5 := sg_eda F hB
                  have hI178 := inv_Qt hI3 hqt ed5
                  have tL5 : sgT σ178 le = 5 := (hqt.1 le (by rw [tle3]; decide)).1.trans tle3
                  have sL5 : sgSz σ178 le = sgSz σ3 le := sgSz_Qt hqt tle3
                  have z5 := zR_Qt hI3 hqt ed5 tl3
                  obtain ⟨ra181, za181, zb181⟩ := (inv_LS hI178).1 _ tL5 id
                  refine sg_callV (ci := 4) F hB (m_add l D cy za181 (fun j y h1 h2 => (inv_LS hI178).2.2.1 ra181 j y h1 h2) y178 (iEl_K (l0 := _) (g := g) (j := 0) (by unfold iEl; rw [rle]; exact hbx)) zb181 _) (cwV 1 F.1.2.2.2.2 (mgV (mm_3 _ (List.mem_of_getElem? (i := 9) rfl)) (mm_3 _ (List.mem_of_getElem? (i := 10) rfl)) (mm_3 _ (List.mem_of_getElem? (i := 11) rfl)) (mm_0 _ (List.mem_of_getElem? (i := 35) rfl)) (mm_2 _ (List.mem_of_getElem? (i := 29) rfl))) rfl rfl rfl ⟨rfl, by decide, by decide, by decide +kernel⟩ ⟨Nat.le_of_ble_eq_true rfl, Nat.le_of_ble_eq_true rfl⟩) rfl rfl (by decide) rfl hl.1 rfl (Nat.le_of_ble_eq_true rfl) dX14_sounds_181 (by show _ ≤ 18; omega) (Nat.add_le_add_right (by omega) _) tL5 (fun H locs v σ181 N hBn hX181 hP => ?_)
                  clear hB; have hB := hBn; clear hBn
                  obtain ⟨rfl, hAd181⟩ := hP
                  obtain ⟨hI181, ada181, adb181, adc181, add181, ade181, adf181, adg181, adh181⟩ := inv_ad hI178 tL5 za181 hAd181 (sg_eda F hB) (by unfold iEl; rw [rle]; exact hbx) (by rw [rle]; refine inv_cap ?_ (Or.inr rfl); rw [sL5]; omega) (Or.inl ⟨inv_nD hI178 (by rw [rle]; decide), rfl⟩) (nr7 rle (by decide))
                  have z181 : zR l1 σ σ181 := zR_tr hzr (zR_tr z5 (zR_l (l2 := le) add181 adf181 adg181 adh181 (tFr_T z5.1 tl3 (by decide)) nle))
                  refine lv_pop hx hb dX14_sounds_184 rfl ?_
                  refine lv_iinc (lv' := [(7, .int _), (8, .int _), (6, .ref _), (5, .ref _), (4, .int _), (3, .int _), (2, .ref _), (1, .int _), (0, .ref _)]) hx hb dX14_sounds_185 hl (k := 1) rfl rfl (by decide) rfl (fun ls hl => ?_)
                  refine lv_goto (tgt := 89) hx hb dX14_sounds_188 (by decide) ?_
                  have hi3 := i_nle c92
                  have e9 : (k9 + Int32.ofInt 1).toInt = k9.toInt + 1 := m_add1 (by omega) (by omega)
                  first
                    | exact ih89 _ (by subst hd89; rw [e9]; omega) _ _ _ _ _ _ _ _ hB (lv_sub hl [0, 2, 3, 4, 5, 6, 7, 8] rfl) hI181 ⟨by rw [e9]; omega, by rw [e9]; omega⟩ (by rw [e9, ada181, sL5]; omega) ⟨by rw [e9]; show kc + 1 + 1 ≤ _; omega, by rw [e9]; omega⟩ z181 rfl
                    | exact ih89 _ (by subst hd89; rw [e9]; omega) _ _ _ _ _ _ _ _ hB (lv_sub hl [0, 2, 3, 4, 5, 6, 7, 8] rfl) hI3 ⟨by rw [e9]; omega, by rw [e9]; omega⟩ (by rw [e9]; omega) ⟨by rw [e9]; omega, by rw [e9]; omega⟩ hzr rfl
              · refine lv_aload_n hx hb dX14_sounds_142 rfl (lv_at hl 6 rfl) ?_
                refine gf_X14_300 F hB dX14_sounds_143 tx3 ?_
                refine lv_if_eq (tgt := 165) hx hb dX14_sounds_146 (by decide) (fun c146 => ?_) (fun c146 => ((c146 ((x03).trans hin)) : False).elim)
                refine lv_iload hx hb dX14_sounds_165 (lv_at hl 4 rfl) ?_
                refine lv_bipush (v := 32) hx hb dX14_sounds_167 (by decide) ?_
                refine lv_icmp_ne (tgt := 185) hx hb dX14_sounds_169 (by decide) (fun c169 => ?_) (fun c169 => ?_)
                · refine lv_iinc (lv' := [(7, .int _), (8, .int _), (6, .ref _), (5, .ref _), (4, .int _), (3, .int _), (2, .ref _), (1, .int _), (0, .ref _)]) hx hb dX14_sounds_185 hl (k := 1) rfl rfl (by decide) rfl (fun ls hl => ?_)
                  refine lv_goto (tgt := 89) hx hb dX14_sounds_188 (by decide) ?_
                  have hi3 := i_nle c92
                  have e9 : (k9 + Int32.ofInt 1).toInt = k9.toInt + 1 := m_add1 (by omega) (by omega)
                  first
                    | exact ih89 _ (by subst hd89; rw [e9]; omega) _ _ _ _ _ _ _ _ hB (lv_sub hl [0, 2, 3, 4, 5, 6, 7, 8] rfl) hI181 ⟨by rw [e9]; omega, by rw [e9]; omega⟩ (by rw [e9, ada181, sL5]; omega) ⟨by rw [e9]; show kc + 1 + 1 ≤ _; omega, by rw [e9]; omega⟩ z181 rfl
                    | exact ih89 _ (by subst hd89; rw [e9]; omega) _ _ _ _ _ _ _ _ hB (lv_sub hl [0, 2, 3, 4, 5, 6, 7, 8] rfl) hI3 ⟨by rw [e9]; omega, by rw [e9]; omega⟩ (by rw [e9]; omega) ⟨by rw [e9]; omega, by rw [e9]; omega⟩ hzr rfl
                · refine lv_aload_n hx hb dX14_sounds_172 rfl (lv_at hl 6 rfl) ?_
                  refine gr_X14_320 F hB dX14_sounds_173 tx3 hle3 ?_
                  refine lv_iload hx hb dX14_sounds_176 (lv_at hl 0 rfl) ?_
                  refine sg_callS F hB (m_box l D cy _ _) (va_cwS 1 F.1.2.2.2.2 (mgS2 (mm_7 _ (List.mem_of_getElem? (i := 33) rfl)) (mm_7 _ (List.mem_of_getElem? (i := 34) rfl)) (mm_7 _ (List.mem_of_getElem? (i := 30) rfl)) (mm_7 _ (List.mem_of_getElem? (i := 25) rfl))) rfl rfl rfl ⟨by decide, by decide, by decide +kernel⟩ ⟨Nat.le_of_ble_eq_true rfl, Nat.le_of_ble_eq_true rfl⟩) rfl hl.1 rfl (Nat.le_of_ble_eq_true rfl) dX14_sounds_178 (by show _ ≤ 18; omega) (Nat.add_le_add_right (by omega) _)  (fun H locs v σ178 N hBn hX178 hP => ?_)
                  clear hB; have hB := hBn; clear hBn
                  obtain ⟨y178, rfl, hbx, hqt⟩ := hP
                  have ed5 := sg_eda F hB
                  have hI178 := inv_Qt hI3 hqt ed5
                  have tL5 : sgT σ178 le = 5 := (hqt.1 le (by rw [tle3]; decide)).1.trans tle3
                  have sL5 : sgSz σ178 le = sgSz σ3 le := sgSz_Qt hqt tle3
                  have z5 := zR_Qt hI3 hqt ed5 tl3
                  obtain ⟨ra181, za181, zb181⟩ := (inv_LS hI178).1 _ tL5 id
                  refine sg_callV (ci := 4) F hB (m_add l D cy za181 (fun j y h1 h2 => (inv_LS hI178).2.2.1 ra181 j y h1 h2) y178 (iEl_K (l0 := _) (g := g) (j := 0) (by unfold iEl; rw [rle]; exact hbx)) zb181 _) (cwV 1 F.1.2.2.2.2 (mgV (mm_3 _ (List.mem_of_getElem? (i := 9) rfl)) (mm_3 _ (List.mem_of_getElem? (i := 10) rfl)) (mm_3 _ (List.mem_of_getElem? (i := 11) rfl)) (mm_0 _ (List.mem_of_getElem? (i := 35) rfl)) (mm_2 _ (List.mem_of_getElem? (i := 29) rfl))) rfl rfl rfl ⟨rfl, by decide, by decide, by decide +kernel⟩ ⟨Nat.le_of_ble_eq_true rfl, Nat.le_of_ble_eq_true rfl⟩) rfl rfl (by decide) rfl hl.1 rfl (Nat.le_of_ble_eq_true rfl) dX14_sounds_181 (by show _ ≤ 18; omega) (Nat.add_le_add_right (by omega) _) tL5 (fun H locs v σ181 N hBn hX181 hP => ?_)
                  clear hB; have hB := hBn; clear hBn
                  obtain ⟨rfl, hAd181⟩ := hP
                  obtain ⟨hI181, ada181, adb181, adc181, add181, ade181, adf181, adg181, adh181⟩ := inv_ad hI178 tL5 za181 hAd181 (sg_eda F hB) (by unfold iEl; rw [rle]; exact hbx) (by rw [rle]; refine inv_cap ?_ (Or.inr rfl); rw [sL5]; omega) (Or.inl ⟨inv_nD hI178 (by rw [rle]; decide), rfl⟩) (nr7 rle (by decide))
                  have z181 : zR l1 σ σ181 := zR_tr hzr (zR_tr z5 (zR_l (l2 := le) add181 adf181 adg181 adh181 (tFr_T z5.1 tl3 (by decide)) nle))
                  refine lv_pop hx hb dX14_sounds_184 rfl ?_
                  refine lv_iinc (lv' := [(7, .int _), (8, .int _), (6, .ref _), (5, .ref _), (4, .int _), (3, .int _), (2, .ref _), (1, .int _), (0, .ref _)]) hx hb dX14_sounds_185 hl (k := 1) rfl rfl (by decide) rfl (fun ls hl => ?_)
                  refine lv_goto (tgt := 89) hx hb dX14_sounds_188 (by decide) ?_
                  have hi3 := i_nle c92
                  have e9 : (k9 + Int32.ofInt 1).toInt = k9.toInt + 1 := m_add1 (by omega) (by omega)
                  first
                    | exact ih89 _ (by subst hd89; rw [e9]; omega) _ _ _ _ _ _ _ _ hB (lv_sub hl [0, 2, 3, 4, 5, 6, 7, 8] rfl) hI181 ⟨by rw [e9]; omega, by rw [e9]; omega⟩ (by rw [e9, ada181, sL5]; omega) ⟨by rw [e9]; show kc + 1 + 1 ≤ _; omega, by rw [e9]; omega⟩ z181 rfl
                    | exact ih89 _ (by subst hd89; rw [e9]; omega) _ _ _ _ _ _ _ _ hB (lv_sub hl [0, 2, 3, 4, 5, 6, 7, 8] rfl) hI3 ⟨by rw [e9]; omega, by rw [e9]; omega⟩ (by rw [e9]; omega) ⟨by rw [e9]; omega, by rw [e9]; omega⟩ hzr rfl
  · refine lv_aload_n hx hb dX14_sounds_29 rfl (lv_at hl 4 rfl) ?_
    refine gf_X14_300 F hB dX14_sounds_30 txe ?_
    refine lv_if_eq (tgt := 47) hx hb dX14_sounds_33 (by decide) (fun c33 => ?_) (fun c33 => ?_)
    · refine lv_iload_n hx hb dX14_sounds_47 rfl (lv_at hl 5 rfl) ?_
      refine lv_if_le (tgt := 285) hx hb dX14_sounds_48 (by decide) (fun c48 => ?_) (fun c48 => ?_)
      · first
          | have hfin := hI257b
          | have hfin := hI282b
          | have hfin := inv_dnw h wC (iW_C hBC (iW_L hB199 i3 tt3 tx3 hbb.1 hbb.2 (m_ltC hBC i3 hbb.1 hbb.2 c237)))
          | have hfin : Inv eda ia K g n S hw _ := h
        refine lv_iconst (v := 1) hx hb dX14_sounds_285 (by decide) ?_
        exact sg_iret F hB hrt dX14_sounds_286 (by omega) (by omega) (⟨⟨_, rfl, Or.inl rfl⟩, hfin⟩)
      · refine lv_aload_n hx hb dX14_sounds_51 rfl (lv_at hl 2 rfl) ?_
        refine lv_dup hx hb dX14_sounds_52 rfl ?_
        refine gf_X14_366 F hB dX14_sounds_53 (inv_A h) ?_
        refine lv_iload hx hb dX14_sounds_56 (lv_at hl 6 rfl) ?_
        refine lv_bipush (v := 32) hx hb dX14_sounds_58 (by decide) ?_
        refine lv_icmp_eq (tgt := 77) hx hb dX14_sounds_60 (by decide) (fun c60 => ?_) (fun c60 => ?_)
        · refine lv_iconst (v := 1) hx hb dX14_sounds_77 (by decide) ?_
          refine lv_goto (tgt := 82) hx hb dX14_sounds_78 (by decide) ?_
          refine lv_iadd hx hb dX14_sounds_82 ?_
          refine pf_X14_366 F hB dX14_sounds_83 (inv_A h) (fun H locs hBn => ?_)
          clear hB; have hB := hBn; clear hBn
          have hI83 := inv_PIc (t := 20) hB h (inv_A h) (by unfold iCn; omega)
          have z83 := zPIB (l1 := l1) (t := 20) hB (inv_A h) (by decide) tl
          have hb0 := i_nle c48
          rw [m_i0] at hb0
          obtain ⟨kc, hkc⟩ : ∃ kc : Nat, kc = 0 := ⟨_, rfl⟩
          refine W.widen (k := kc) (n := N) (by omega) (Nat.le_refl _) ?_
          refine lv_iconst (v := 0) hx hb dX14_sounds_86 (by decide) ?_
          refine lv_istore (lv' := [(7, .int _), (6, .ref _), (5, .ref _), (0, .ref _), (1, .int _), (2, .ref _), (3, .int _), (4, .int _)]) hx hb dX14_sounds_87 hl (by decide) rfl (fun ls hl => ?_)
          have key89 : ∃ (σ3 : SG) (k9 : Int32) (nc : Nat), sgB D cy s σ σ3 H locs N nc ∧ lv_has ls 9 [(7, .int k9), (6, .ref t0), (5, .ref pp), (4, .int f0), (3, .int b), (2, .ref xe), (1, .int x), (0, .ref (kA K))] ∧ Inv eda ia K g n S hw σ3 ∧ (0 ≤ k9.toInt ∧ k9.toInt ≤ b.toInt) ∧ sgSz σ3 le ≤ sgSz σ le + k9.toInt.toNat ∧ (kc ≤ 2 * k9.toInt.toNat ∧ nc ≤ 16 * k9.toInt.toNat) ∧ zR l1 σ σ3 := ⟨_, _, _, hB, (lv_sub hl [0, 1, 2, 7, 6, 5, 4, 3] rfl), hI83, ⟨by decide, by rw [m_i0]; omega⟩, by rw [m_i0]; exact Nat.le_of_eq (sgSz_nk (by decide)), ⟨by omega, by omega⟩, z83⟩
          clear hB hl hkc
          obtain ⟨σ3, k9, nc, hB, hl, hI3, hi, hzl, hkn, hzr⟩ := key89
          obtain ⟨d89, hd89⟩ : ∃ d : Nat, d = (b.toInt - k9.toInt).toNat := ⟨_, rfl⟩
          induction d89 using Nat.strongRecOn generalizing H locs ls N σ3 k9 nc kc
          rename_i d89 ih89
          have tx3 : sgT σ3 xe = 17 := tFr_T hzr.1 txe (by decide)
          have tp3 : sgT σ3 pp = 18 := tFr_T hzr.1 tp (by decide)
          have tle3 : sgT σ3 le = 5 := tFr_T hzr.1 tle (by decide)
          have hle3 : sgR σ3 xe 3 = some le := (hzr.2.2.2.2.1 xe 3 (by rw [txe]; decide)).trans hle
          have tl3 : sgT σ3 l1 = 5 := tFr_T hzr.1 tl (by decide)
          have tt3 : sgT σ3 t0 = 19 := tFr_T hzr.1 tt (by decide)
          have d3 : sgI σ3 t0 2 = sgI σ t0 2 := hzr.2.1 t0 2 tt
          have x03 : sgI σ3 xe 0 = sgI σ xe 0 := hzr.2.2.2.1 xe 0 txe (by decide)
          refine lv_iload hx hb dX14_sounds_89 (lv_at hl 0 rfl) ?_
          refine lv_iload_n hx hb dX14_sounds_91 rfl (lv_at hl 4 rfl) ?_
          refine lv_icmp_ge (tgt := 191) hx hb dX14_sounds_92 (by decide) (fun c92 => ?_) (fun c92 => ?_)
          · have hi4 := i_le c92
            refine W.widen (k := 16) (n := N) (show kc ≤ 16 from by omega) (Nat.le_refl _) ?_
            have hBn := sgB_up (n2 := 128) hB (show nc ≤ 128 from by omega)
            clear hB; have hB := hBn; clear hBn
            refine lv_aload hx hb dX14_sounds_191 (lv_at hl 1 rfl) ?_
            refine lv_dup hx hb dX14_sounds_193 rfl ?_
            refine gf_X14_284 F hB dX14_sounds_194 tt3 ?_
            refine lv_iload_n hx hb dX14_sounds_197 rfl (lv_at hl 4 rfl) ?_
            refine lv_iadd hx hb dX14_sounds_198 ?_
            refine pf_X14_284 F hB dX14_sounds_199 tt3 (fun H locs hBn => ?_)
            clear hB; have hB := hBn; clear hBn
            have hI199 := inv_dnB hB hI3 tt3
            have w3 := wPp_z h wc hzr
            have wB := wPp_hB hB (wPp_PI w3 (Or.inr ⟨fun z => absurd (tt3.symm.trans z) (by decide), fun z => absurd (tt3.symm.trans z) (by decide)⟩) tp3 tl3)
            have hB199 := hB
            have i3 := iW_tr hzr.1 (inv_T h) tt (hzr.2.1 t0 1 tt) (hzr.2.1 t0 2 tt) x03 (hzr.2.2.2.2.1 t0 0 (by rw [tt]; decide)) ⟨iw1, iw2, iw3, iw4⟩
            refine lv_aload hx hb dX14_sounds_202 (lv_at hl 1 rfl) ?_
            refine lv_aload hx hb dX14_sounds_204 (lv_at hl 1 rfl) ?_
            refine gf_X14_371 F hB dX14_sounds_206 (by exact tt3) ?_
            refine lv_if_ne (tgt := 219) hx hb dX14_sounds_209 (by decide) (fun c209 => ?_) (fun c209 => ?_)
            · refine lv_iconst (v := 1) hx hb dX14_sounds_219 (by decide) ?_
              refine lv_goto (tgt := 224) hx hb dX14_sounds_220 (by decide) ?_
              refine pf_X14_371 F hB dX14_sounds_224 (by exact tt3) ⟨by decide, by decide⟩ (fun H locs hBn => ?_)
              clear hB; have hB := hBn; clear hBn
              have hI224 := inv_PIc (t := 19) hB hI199 (by exact tt3) (by unfold iCn; omega)
              have wC := wPp_hB4 hB (wPp_PI wB (Or.inr ⟨fun z => absurd (tt3.symm.trans z) (by decide), fun z => absurd (tt3.symm.trans z) (by decide)⟩) (by exact tp3) (by exact tl3))
              have hBC := hB
              refine lv_aload hx hb dX14_sounds_227 (lv_at hl 1 rfl) ?_
              refine gf_X14_284 F hB dX14_sounds_229 (by exact tt3) ?_
              refine lv_aload hx hb dX14_sounds_232 (lv_at hl 1 rfl) ?_
              refine gf_X14_338 F hB dX14_sounds_234 (by exact tt3) ?_
              refine lv_icmp_lt (tgt := 263) hx hb dX14_sounds_237 (by decide) (fun c237 => ?_) (fun c237 => ?_)
              · refine lv_aload_n hx hb dX14_sounds_263 rfl (lv_at hl 5 rfl) ?_
                refine gf_X14_300 F hB dX14_sounds_264 (by exact tx3) ?_
                refine lv_if_eq (tgt := 285) hx hb dX14_sounds_267 (by decide) (fun c267 => ?_) (fun c267 => ((c267 ((((sgI_nk (by decide)).trans (sgI_nk (by decide))).trans x03).trans hin)) : False).elim)
                first
                  | have hfin := hI257b
                  | have hfin := hI282b
                  | have hfin := inv_dnw hI224 wC (iW_C hBC (iW_L hB199 i3 tt3 tx3 hbb.1 hbb.2 (m_ltC hBC i3 hbb.1 hbb.2 c237)))
                  | have hfin : Inv eda ia K g n S hw _ := hI224
                refine lv_iconst (v := 1) hx hb dX14_sounds_285 (by decide) ?_
                exact sg_iret F hB hrt dX14_sounds_286 (by omega) (by omega) (⟨⟨_, rfl, Or.inl rfl⟩, hfin⟩)
              · obtain ⟨m1, hm1⟩ := m_evm hB (K := K)
                refine lv_aload_n hx hb dX14_sounds_240 rfl (lv_at hl 7 rfl) ?_
                refine lv_iload_n hx hb dX14_sounds_241 rfl (lv_at hl 6 rfl) ?_
                refine lv_aload hx hb dX14_sounds_242 (lv_at hl 1 rfl) ?_
                refine gf_X14_371 F hB dX14_sounds_244 (by exact tt3) ?_
                refine lv_if_eq (tgt := 255) hx hb dX14_sounds_247 (by decide) (fun c247 => ?_) (fun c247 => ?_)
                · refine lv_bipush (v := 100) hx hb dX14_sounds_255 (by decide) ?_
                  refine sg_callV (ci := 19) F hB (m_ends l D cy hI224 x _ wC.1.1 wC.1.2 wC.2.1 wC.2.2.1 wC.2.2.2.1 hm1 _) (cwV 2 F.1.2.2.2.2 (mgV (mm_5 _ (List.mem_of_getElem? (i := 33) rfl)) (mm_5 _ (List.mem_of_getElem? (i := 34) rfl)) (mm_5 _ (List.mem_of_getElem? (i := 35) rfl)) (mm_3 _ (List.mem_of_getElem? (i := 23) rfl)) (mm_5 _ (List.mem_of_getElem? (i := 32) rfl))) rfl rfl rfl ⟨rfl, by decide, by decide, by decide +kernel⟩ ⟨Nat.le_of_ble_eq_true rfl, Nat.le_of_ble_eq_true rfl⟩) rfl rfl (by decide) rfl hl.1 rfl (Nat.le_of_ble_eq_true rfl) dX14_sounds_257 (Nat.le_trans (show _ ≤ 18 from by omega) (Nat.le_of_ble_eq_true rfl)) (Nat.add_le_add_right (Nat.le_trans (show _ ≤ 146 from by omega) (Nat.le_of_ble_eq_true rfl)) _) (inv_A hI224) (fun H locs v σ257 N hBn hX257 hP => ?_)
                  clear hB; have hB := hBn; clear hBn
                  refine W.widen (k := 18) (n := N) (show _ ≤ 18 from by omega) (Nat.le_refl _) ?_
                  have hBn := sgB_up (n2 := 146) hB (show _ ≤ 146 from by omega)
                  clear hB; have hB := hBn; clear hBn
                  obtain ⟨rfl, hI257, en1_257, en2_257, en3_257, en4_257⟩ := hP
                  have hI257b := inv_dne hI224 wC hI257 en1_257 en2_257 en4_257
                  refine lv_goto (tgt := 285) hx hb dX14_sounds_260 (by decide) ?_
                  first
                    | have hfin := hI257b
                    | have hfin := hI282b
                    | have hfin := inv_dnw hI257b wC (iW_C hBC (iW_L hB199 i3 tt3 tx3 hbb.1 hbb.2 (m_ltC hBC i3 hbb.1 hbb.2 c237)))
                    | have hfin : Inv eda ia K g n S hw _ := hI257b
                  refine lv_iconst (v := 1) hx hb dX14_sounds_285 (by decide) ?_
                  exact sg_iret F hB hrt dX14_sounds_286 (by omega) (by omega) (⟨⟨_, rfl, Or.inl rfl⟩, hfin⟩)
                · refine lv_bipush (v := 108) hx hb dX14_sounds_250 (by decide) ?_
                  refine lv_goto (tgt := 257) hx hb dX14_sounds_252 (by decide) ?_
                  refine sg_callV (ci := 19) F hB (m_ends l D cy hI224 x _ wC.1.1 wC.1.2 wC.2.1 wC.2.2.1 wC.2.2.2.1 hm1 _) (cwV 2 F.1.2.2.2.2 (mgV (mm_5 _ (List.mem_of_getElem? (i := 33) rfl)) (mm_5 _ (List.mem_of_getElem? (i := 34) rfl)) (mm_5 _ (List.mem_of_getElem? (i := 35) rfl)) (mm_3 _ (List.mem_of_getElem? (i := 23) rfl)) (mm_5 _ (List.mem_of_getElem? (i := 32) rfl))) rfl rfl rfl ⟨rfl, by decide, by decide, by decide +kernel⟩ ⟨Nat.le_of_ble_eq_true rfl, Nat.le_of_ble_eq_true rfl⟩) rfl rfl (by decide) rfl hl.1 rfl (Nat.le_of_ble_eq_true rfl) dX14_sounds_257 (Nat.le_trans (show _ ≤ 18 from by omega) (Nat.le_of_ble_eq_true rfl)) (Nat.add_le_add_right (Nat.le_trans (show _ ≤ 146 from by omega) (Nat.le_of_ble_eq_true rfl)) _) (inv_A hI224) (fun H locs v σ257 N hBn hX257 hP => ?_)
                  clear hB; have hB := hBn; clear hBn
                  refine W.widen (k := 18) (n := N) (show _ ≤ 18 from by omega) (Nat.le_refl _) ?_
                  have hBn := sgB_up (n2 := 146) hB (show _ ≤ 146 from by omega)
                  clear hB; have hB := hBn; clear hBn
                  obtain ⟨rfl, hI257, en1_257, en2_257, en3_257, en4_257⟩ := hP
                  have hI257b := inv_dne hI224 wC hI257 en1_257 en2_257 en4_257
                  refine lv_goto (tgt := 285) hx hb dX14_sounds_260 (by decide) ?_
                  first
                    | have hfin := hI257b
                    | have hfin := hI282b
                    | have hfin := inv_dnw hI257b wC (iW_C hBC (iW_L hB199 i3 tt3 tx3 hbb.1 hbb.2 (m_ltC hBC i3 hbb.1 hbb.2 c237)))
                    | have hfin : Inv eda ia K g n S hw _ := hI257b
                  refine lv_iconst (v := 1) hx hb dX14_sounds_285 (by decide) ?_
                  exact sg_iret F hB hrt dX14_sounds_286 (by omega) (by omega) (⟨⟨_, rfl, Or.inl rfl⟩, hfin⟩)
            · refine lv_iload hx hb dX14_sounds_212 (lv_at hl 3 rfl) ?_
              refine lv_bipush (v := 32) hx hb dX14_sounds_214 (by decide) ?_
              refine lv_icmp_eq (tgt := 223) hx hb dX14_sounds_216 (by decide) (fun c216 => ?_) (fun c216 => ?_)
              · refine lv_iconst (v := 0) hx hb dX14_sounds_223 (by decide) ?_
                refine pf_X14_371 F hB dX14_sounds_224 (by exact tt3) ⟨by decide, by decide⟩ (fun H locs hBn => ?_)
                clear hB; have hB := hBn; clear hBn
                have hI224 := inv_PIc (t := 19) hB hI199 (by exact tt3) (by unfold iCn; omega)
                have wC := wPp_hB4 hB (wPp_PI wB (Or.inr ⟨fun z => absurd (tt3.symm.trans z) (by decide), fun z => absurd (tt3.symm.trans z) (by decide)⟩) (by exact tp3) (by exact tl3))
                have hBC := hB
                refine lv_aload hx hb dX14_sounds_227 (lv_at hl 1 rfl) ?_
                refine gf_X14_284 F hB dX14_sounds_229 (by exact tt3) ?_
                refine lv_aload hx hb dX14_sounds_232 (lv_at hl 1 rfl) ?_
                refine gf_X14_338 F hB dX14_sounds_234 (by exact tt3) ?_
                refine lv_icmp_lt (tgt := 263) hx hb dX14_sounds_237 (by decide) (fun c237 => ?_) (fun c237 => ?_)
                · refine lv_aload_n hx hb dX14_sounds_263 rfl (lv_at hl 5 rfl) ?_
                  refine gf_X14_300 F hB dX14_sounds_264 (by exact tx3) ?_
                  refine lv_if_eq (tgt := 285) hx hb dX14_sounds_267 (by decide) (fun c267 => ?_) (fun c267 => ((c267 ((((sgI_nk (by decide)).trans (sgI_nk (by decide))).trans x03).trans hin)) : False).elim)
                  first
                    | have hfin := hI257b
                    | have hfin := hI282b
                    | have hfin := inv_dnw hI224 wC (iW_C hBC (iW_L hB199 i3 tt3 tx3 hbb.1 hbb.2 (m_ltC hBC i3 hbb.1 hbb.2 c237)))
                    | have hfin : Inv eda ia K g n S hw _ := hI224
                  refine lv_iconst (v := 1) hx hb dX14_sounds_285 (by decide) ?_
                  exact sg_iret F hB hrt dX14_sounds_286 (by omega) (by omega) (⟨⟨_, rfl, Or.inl rfl⟩, hfin⟩)
                · obtain ⟨m1, hm1⟩ := m_evm hB (K := K)
                  refine lv_aload_n hx hb dX14_sounds_240 rfl (lv_at hl 7 rfl) ?_
                  refine lv_iload_n hx hb dX14_sounds_241 rfl (lv_at hl 6 rfl) ?_
                  refine lv_aload hx hb dX14_sounds_242 (lv_at hl 1 rfl) ?_
                  refine gf_X14_371 F hB dX14_sounds_244 (by exact tt3) ?_
                  refine lv_if_eq (tgt := 255) hx hb dX14_sounds_247 (by decide) (fun c247 => ?_) (fun c247 => ?_)
                  · refine lv_bipush (v := 100) hx hb dX14_sounds_255 (by decide) ?_
                    refine sg_callV (ci := 19) F hB (m_ends l D cy hI224 x _ wC.1.1 wC.1.2 wC.2.1 wC.2.2.1 wC.2.2.2.1 hm1 _) (cwV 2 F.1.2.2.2.2 (mgV (mm_5 _ (List.mem_of_getElem? (i := 33) rfl)) (mm_5 _ (List.mem_of_getElem? (i := 34) rfl)) (mm_5 _ (List.mem_of_getElem? (i := 35) rfl)) (mm_3 _ (List.mem_of_getElem? (i := 23) rfl)) (mm_5 _ (List.mem_of_getElem? (i := 32) rfl))) rfl rfl rfl ⟨rfl, by decide, by decide, by decide +kernel⟩ ⟨Nat.le_of_ble_eq_true rfl, Nat.le_of_ble_eq_true rfl⟩) rfl rfl (by decide) rfl hl.1 rfl (Nat.le_of_ble_eq_true rfl) dX14_sounds_257 (Nat.le_trans (show _ ≤ 18 from by omega) (Nat.le_of_ble_eq_true rfl)) (Nat.add_le_add_right (Nat.le_trans (show _ ≤ 146 from by omega) (Nat.le_of_ble_eq_true rfl)) _) (inv_A hI224) (fun H locs v σ257 N hBn hX257 hP => ?_)
                    clear hB; have hB := hBn; clear hBn
                    refine W.widen (k := 18) (n := N) (show _ ≤ 18 from by omega) (Nat.le_refl _) ?_
                    have hBn := sgB_up (n2 := 146) hB (show _ ≤ 146 from by omega)
                    clear hB; have hB := hBn; clear hBn
                    obtain ⟨rfl, hI257, en1_257, en2_257, en3_257, en4_257⟩ := hP
                    have hI257b := inv_dne hI224 wC hI257 en1_257 en2_257 en4_257
                    refine lv_goto (tgt := 285) hx hb dX14_sounds_260 (by decide) ?_
                    first
                      | have hfin := hI257b
                      | have hfin := hI282b
                      | have hfin := inv_dnw hI257b wC (iW_C hBC (iW_L hB199 i3 tt3 tx3 hbb.1 hbb.2 (m_ltC hBC i3 hbb.1 hbb.2 c237)))
                      | have hfin : Inv eda ia K g n S hw _ := hI257b
                    refine lv_iconst (v := 1) hx hb dX14_sounds_285 (by decide) ?_
                    exact sg_iret F hB hrt dX14_sounds_286 (by omega) (by omega) (⟨⟨_, rfl, Or.inl rfl⟩, hfin⟩)
                  · refine lv_bipush (v := 108) hx hb dX14_sounds_250 (by decide) ?_
                    refine lv_goto (tgt := 257) hx hb dX14_sounds_252 (by decide) ?_
                    refine sg_callV (ci := 19) F hB (m_ends l D cy hI224 x _ wC.1.1 wC.1.2 wC.2.1 wC.2.2.1 wC.2.2.2.1 hm1 _) (cwV 2 F.1.2.2.2.2 (mgV (mm_5 _ (List.mem_of_getElem? (i := 33) rfl)) (mm_5 _ (List.mem_of_getElem? (i := 34) rfl)) (mm_5 _ (List.mem_of_getElem? (i := 35) rfl)) (mm_3 _ (List.mem_of_getElem? (i := 23) rfl)) (mm_5 _ (List.mem_of_getElem? (i := 32) rfl))) rfl rfl rfl ⟨rfl, by decide, by decide, by decide +kernel⟩ ⟨Nat.le_of_ble_eq_true rfl, Nat.le_of_ble_eq_true rfl⟩) rfl rfl (by decide) rfl hl.1 rfl (Nat.le_of_ble_eq_true rfl) dX14_sounds_257 (Nat.le_trans (show _ ≤ 18 from by omega) (Nat.le_of_ble_eq_true rfl)) (Nat.add_le_add_right (Nat.le_trans (show _ ≤ 146 from by omega) (Nat.le_of_ble_eq_true rfl)) _) (inv_A hI224) (fun H locs v σ257 N hBn hX257 hP => ?_)
                    clear hB; have hB := hBn; clear hBn
                    refine W.widen (k := 18) (n := N) (show _ ≤ 18 from by omega) (Nat.le_refl _) ?_
                    have hBn := sgB_up (n2 := 146) hB (show _ ≤ 146 from by omega)
                    clear hB; have hB := hBn; clear hBn
                    obtain ⟨rfl, hI257, en1_257, en2_257, en3_257, en4_257⟩ := hP
                    have hI257b := inv_dne hI224 wC hI257 en1_257 en2_257 en4_257
                    refine lv_goto (tgt := 285) hx hb dX14_sounds_260 (by decide) ?_
                    first
                      | have hfin := hI257b
                      | have hfin := hI282b
                      | have hfin := inv_dnw hI257b wC (iW_C hBC (iW_L hB199 i3 tt3 tx3 hbb.1 hbb.2 (m_ltC hBC i3 hbb.1 hbb.2 c237)))
                      | have hfin : Inv eda ia K g n S hw _ := hI257b
                    refine lv_iconst (v := 1) hx hb dX14_sounds_285 (by decide) ?_
                    exact sg_iret F hB hrt dX14_sounds_286 (by omega) (by omega) (⟨⟨_, rfl, Or.inl rfl⟩, hfin⟩)
              · refine lv_iconst (v := 1) hx hb dX14_sounds_219 (by decide) ?_
                refine lv_goto (tgt := 224) hx hb dX14_sounds_220 (by decide) ?_
                refine pf_X14_371 F hB dX14_sounds_224 (by exact tt3) ⟨by decide, by decide⟩ (fun H locs hBn => ?_)
                clear hB; have hB := hBn; clear hBn
                have hI224 := inv_PIc (t := 19) hB hI199 (by exact tt3) (by unfold iCn; omega)
                have wC := wPp_hB4 hB (wPp_PI wB (Or.inr ⟨fun z => absurd (tt3.symm.trans z) (by decide), fun z => absurd (tt3.symm.trans z) (by decide)⟩) (by exact tp3) (by exact tl3))
                have hBC := hB
                refine lv_aload hx hb dX14_sounds_227 (lv_at hl 1 rfl) ?_
                refine gf_X14_284 F hB dX14_sounds_229 (by exact tt3) ?_
                refine lv_aload hx hb dX14_sounds_232 (lv_at hl 1 rfl) ?_
                refine gf_X14_338 F hB dX14_sounds_234 (by exact tt3) ?_
                refine lv_icmp_lt (tgt := 263) hx hb dX14_sounds_237 (by decide) (fun c237 => ?_) (fun c237 => ?_)
                · refine lv_aload_n hx hb dX14_sounds_263 rfl (lv_at hl 5 rfl) ?_
                  refine gf_X14_300 F hB dX14_sounds_264 (by exact tx3) ?_
                  refine lv_if_eq (tgt := 285) hx hb dX14_sounds_267 (by decide) (fun c267 => ?_) (fun c267 => ((c267 ((((sgI_nk (by decide)).trans (sgI_nk (by decide))).trans x03).trans hin)) : False).elim)
                  first
                    | have hfin := hI257b
                    | have hfin := hI282b
                    | have hfin := inv_dnw hI224 wC (iW_C hBC (iW_L hB199 i3 tt3 tx3 hbb.1 hbb.2 (m_ltC hBC i3 hbb.1 hbb.2 c237)))
                    | have hfin : Inv eda ia K g n S hw _ := hI224
                  refine lv_iconst (v := 1) hx hb dX14_sounds_285 (by decide) ?_
                  exact sg_iret F hB hrt dX14_sounds_286 (by omega) (by omega) (⟨⟨_, rfl, Or.inl rfl⟩, hfin⟩)
                · obtain ⟨m1, hm1⟩ := m_evm hB (K := K)
                  refine lv_aload_n hx hb dX14_sounds_240 rfl (lv_at hl 7 rfl) ?_
                  refine lv_iload_n hx hb dX14_sounds_241 rfl (lv_at hl 6 rfl) ?_
                  refine lv_aload hx hb dX14_sounds_242 (lv_at hl 1 rfl) ?_
                  refine gf_X14_371 F hB dX14_sounds_244 (by exact tt3) ?_
                  refine lv_if_eq (tgt := 255) hx hb dX14_sounds_247 (by decide) (fun c247 => ?_) (fun c247 => ?_)
                  · refine lv_bipush (v := 100) hx hb dX14_sounds_255 (by decide) ?_
                    refine sg_callV (ci := 19) F hB (m_ends l D cy hI224 x _ wC.1.1 wC.1.2 wC.2.1 wC.2.2.1 wC.2.2.2.1 hm1 _) (cwV 2 F.1.2.2.2.2 (mgV (mm_5 _ (List.mem_of_getElem? (i := 33) rfl)) (mm_5 _ (List.mem_of_getElem? (i := 34) rfl)) (mm_5 _ (List.mem_of_getElem? (i := 35) rfl)) (mm_3 _ (List.mem_of_getElem? (i := 23) rfl)) (mm_5 _ (List.mem_of_getElem? (i := 32) rfl))) rfl rfl rfl ⟨rfl, by decide, by decide, by decide +kernel⟩ ⟨Nat.le_of_ble_eq_true rfl, Nat.le_of_ble_eq_true rfl⟩) rfl rfl (by decide) rfl hl.1 rfl (Nat.le_of_ble_eq_true rfl) dX14_sounds_257 (Nat.le_trans (show _ ≤ 18 from by omega) (Nat.le_of_ble_eq_true rfl)) (Nat.add_le_add_right (Nat.le_trans (show _ ≤ 146 from by omega) (Nat.le_of_ble_eq_true rfl)) _) (inv_A hI224) (fun H locs v σ257 N hBn hX257 hP => ?_)
                    clear hB; have hB := hBn; clear hBn
                    refine W.widen (k := 18) (n := N) (show _ ≤ 18 from by omega) (Nat.le_refl _) ?_
                    have hBn := sgB_up (n2 := 146) hB (show _ ≤ 146 from by omega)
                    clear hB; have hB := hBn; clear hBn
                    obtain ⟨rfl, hI257, en1_257, en2_257, en3_257, en4_257⟩ := hP
                    have hI257b := inv_dne hI224 wC hI257 en1_257 en2_257 en4_257
                    refine lv_goto (tgt := 285) hx hb dX14_sounds_260 (by decide) ?_
                    first
                      | have hfin := hI257b
                      | have hfin := hI282b
                      | have hfin := inv_dnw hI257b wC (iW_C hBC (iW_L hB199 i3 tt3 tx3 hbb.1 hbb.2 (m_ltC hBC i3 hbb.1 hbb.2 c237)))
                      | have hfin : Inv eda ia K g n S hw _ := hI257b
                    refine lv_iconst (v := 1) hx hb dX14_sounds_285 (by decide) ?_
                    exact sg_iret F hB hrt dX14_sounds_286 (by omega) (by omega) (⟨⟨_, rfl, Or.inl rfl⟩, hfin⟩)
                  · refine lv_bipush (v := 108) hx hb dX14_sounds_250 (by decide) ?_
                    refine lv_goto (tgt := 257) hx hb dX14_sounds_252 (by decide) ?_
                    refine sg_callV (ci := 19) F hB (m_ends l D cy hI224 x _ wC.1.1 wC.1.2 wC.2.1 wC.2.2.1 wC.2.2.2.1 hm1 _) (cwV 2 F.1.2.2.2.2 (mgV (mm_5 _ (List.mem_of_getElem? (i := 33) rfl)) (mm_5 _ (List.mem_of_getElem? (i := 34) rfl)) (mm_5 _ (List.mem_of_getElem? (i := 35) rfl)) (mm_3 _ (List.mem_of_getElem? (i := 23) rfl)) (mm_5 _ (List.mem_of_getElem? (i := 32) rfl))) rfl rfl rfl ⟨rfl, by decide, by decide, by decide +kernel⟩ ⟨Nat.le_of_ble_eq_true rfl, Nat.le_of_ble_eq_true rfl⟩) rfl rfl (by decide) rfl hl.1 rfl (Nat.le_of_ble_eq_true rfl) dX14_sounds_257 (Nat.le_trans (show _ ≤ 18 from by omega) (Nat.le_of_ble_eq_true rfl)) (Nat.add_le_add_right (Nat.le_trans (show _ ≤ 146 from by omega) (Nat.le_of_ble_eq_true rfl)) _) (inv_A hI224) (fun H locs v σ257 N hBn hX257 hP => ?_)
                    clear hB; have hB := hBn; clear hBn
                    refine W.widen (k := 18) (n := N) (show _ ≤ 18 from by omega) (Nat.le_refl _) ?_
                    have hBn := sgB_up (n2 := 146) hB (show _ ≤ 146 from by omega)
                    clear hB; have hB := hBn; clear hBn
                    obtain ⟨rfl, hI257, en1_257, en2_257, en3_257, en4_257⟩ := hP
                    have hI257b := inv_dne hI224 wC hI257 en1_257 en2_257 en4_257
                    refine lv_goto (tgt := 285) hx hb dX14_sounds_260 (by decide) ?_
                    first
                      | have hfin := hI257b
                      | have hfin := hI282b
                      | have hfin := inv_dnw hI257b wC (iW_C hBC (iW_L hB199 i3 tt3 tx3 hbb.1 hbb.2 (m_ltC hBC i3 hbb.1 hbb.2 c237)))
                      | have hfin : Inv eda ia K g n S hw _ := hI257b
                    refine lv_iconst (v := 1) hx hb dX14_sounds_285 (by decide) ?_
                    exact sg_iret F hB hrt dX14_sounds_286 (by omega) (by omega) (⟨⟨_, rfl, Or.inl rfl⟩, hfin⟩)
          · have hi4 := i_nle c92
            refine lv_aload_n hx hb dX14_sounds_95 rfl (lv_at hl 5 rfl) ?_
            refine gf_X14_300 F hB dX14_sounds_96 tx3 ?_
            refine lv_if_eq (tgt := 119) hx hb dX14_sounds_99 (by decide) (fun c99 => ?_) (fun c99 => ((c99 ((x03).trans hin)) : False).elim)
            obtain ⟨bt, ht0, tbt, nbt⟩ := inv_T hI3 t0 tt3
            obtain ⟨bt1, ht1, tbt1, nbt1⟩ := inv_T h t0 tt
            have ebt : bt = bt1 := Option.some.inj (ht0.symm.trans ((hzr.2.2.2.2.1 t0 0 (by rw [tt]; decide)).trans ht1))
            have nb3 : sgN σ3 bt = sgN σ bt := by rw [ebt]; exact tFr_N hzr.1 tbt1 (by decide)
            have iw5 := iw4 hin bt (by rw [ebt]; exact ht1)
            have eix : (sgI σ3 t0 2 + k9).toInt = (sgI σ t0 2).toInt + k9.toInt := by rw [d3]; exact m_addb (by omega) (by omega) (by omega) (by omega)
            refine lv_aload hx hb dX14_sounds_119 (lv_at hl 1 rfl) ?_
            refine gr_X14_369 F hB dX14_sounds_121 tt3 ht0 ?_
            refine lv_aload hx hb dX14_sounds_124 (lv_at hl 1 rfl) ?_
            refine gf_X14_284 F hB dX14_sounds_126 tt3 ?_
            refine lv_iload hx hb dX14_sounds_129 (lv_at hl 0 rfl) ?_
            refine lv_iadd hx hb dX14_sounds_131 ?_
            refine sg_iald hx hb F.2.1 hB.1 dX14_sounds_132 tbt (by omega) (by omega) (by omega) ?_
            refine lv_istore (lv' := [(8, .int _), (7, .int _), (6, .ref _), (5, .ref _), (4, .int _), (3, .int _), (2, .ref _), (1, .int _), (0, .ref _)]) hx hb dX14_sounds_133 hl (by decide) rfl (fun ls hl => ?_)
            refine lv_iload hx hb dX14_sounds_135 (lv_at hl 4 rfl) ?_
            refine lv_bipush (v := 32) hx hb dX14_sounds_137 (by decide) ?_
            refine lv_icmp_ne (tgt := 165) hx hb dX14_sounds_139 (by decide) (fun c139 => ?_) (fun c139 => ?_)
            · refine lv_iload hx hb dX14_sounds_165 (lv_at hl 4 rfl) ?_
              refine lv_bipush (v := 32) hx hb dX14_sounds_167 (by decide) ?_
              refine lv_icmp_ne (tgt := 185) hx hb dX14_sounds_169 (by decide) (fun c169 => ?_) (fun c169 => ?_)
              · refine lv_iinc (lv' := [(7, .int _), (8, .int _), (6, .ref _), (5, .ref _), (4, .int _), (3, .int _), (2, .ref _), (1, .int _), (0, .ref _)]) hx hb dX14_sounds_185 hl (k := 1) rfl rfl (by decide) rfl (fun ls hl => ?_)
                refine lv_goto (tgt := 89) hx hb dX14_sounds_188 (by decide) ?_
                have hi3 := i_nle c92
                have e9 : (k9 + Int32.ofInt 1).toInt = k9.toInt + 1 := m_add1 (by omega) (by omega)
                first
                  | exact ih89 _ (by subst hd89; rw [e9]; omega) _ _ _ _ _ _ _ _ hB (lv_sub hl [0, 2, 3, 4, 5, 6, 7, 8] rfl) hI181 ⟨by rw [e9]; omega, by rw [e9]; omega⟩ (by rw [e9, ada181, sL5]; omega) ⟨by rw [e9]; show kc + 1 + 1 ≤ _; omega, by rw [e9]; omega⟩ z181 rfl
                  | exact ih89 _ (by subst hd89; rw [e9]; omega) _ _ _ _ _ _ _ _ hB (lv_sub hl [0, 2, 3, 4, 5, 6, 7, 8] rfl) hI3 ⟨by rw [e9]; omega, by rw [e9]; omega⟩ (by rw [e9]; omega) ⟨by rw [e9]; omega, by rw [e9]; omega⟩ hzr rfl
              · refine lv_aload_n hx hb dX14_sounds_172 rfl (lv_at hl 6 rfl) ?_
                refine gr_X14_320 F hB dX14_sounds_173 tx3 hle3 ?_
                refine lv_iload hx hb dX14_sounds_176 (lv_at hl 0 rfl) ?_
                refine sg_callS F hB (m_box l D cy _ _) (va_cwS 1 F.1.2.2.2.2 (mgS2 (mm_7 _ (List.mem_of_getElem? (i := 33) rfl)) (mm_7 _ (List.mem_of_getElem? (i := 34) rfl)) (mm_7 _ (List.mem_of_getElem? (i := 30) rfl)) (mm_7 _ (List.mem_of_getElem? (i := 25) rfl))) rfl rfl rfl ⟨by decide, by decide, by decide +kernel⟩ ⟨Nat.le_of_ble_eq_true rfl, Nat.le_of_ble_eq_true rfl⟩) rfl hl.1 rfl (Nat.le_of_ble_eq_true rfl) dX14_sounds_178 (by show _ ≤ 18; omega) (Nat.add_le_add_right (by omega) _)  (fun H locs v σ178 N hBn hX178 hP => ?_)
                clear hB; have hB := hBn; clear hBn
                obtain ⟨y178, rfl, hbx, hqt⟩ := hP
                have ed5 := sg_eda F hB
                have hI178 := inv_Qt hI3 hqt ed5
                have tL5 : sgT σ178 le = 5 := (hqt.1 le (by rw [tle3]; decide)).1.trans tle3
                have sL5 : sgSz σ178 le = sgSz σ3 le := sgSz_Qt hqt tle3
                have z5 := zR_Qt hI3 hqt ed5 tl3
                obtain ⟨ra181, za181, zb181⟩ := (inv_LS hI178).1 _ tL5 id
                refine sg_callV (ci := 4) F hB (m_add l D cy za181 (fun j y h1 h2 => (inv_LS hI178).2.2.1 ra181 j y h1 h2) y178 (iEl_K (l0 := _) (g := g) (j := 0) (by unfold iEl; rw [rle]; exact hbx)) zb181 _) (cwV 1 F.1.2.2.2.2 (mgV (mm_3 _ (List.mem_of_getElem? (i := 9) rfl)) (mm_3 _ (List.mem_of_getElem? (i := 10) rfl)) (mm_3 _ (List.mem_of_getElem? (i := 11) rfl)) (mm_0 _ (List.mem_of_getElem? (i := 35) rfl)) (mm_2 _ (List.mem_of_getElem? (i := 29) rfl))) rfl rfl rfl ⟨rfl, by decide, by decide, by decide +kernel⟩ ⟨Nat.le_of_ble_eq_true rfl, Nat.le_of_ble_eq_true rfl⟩) rfl rfl (by decide) rfl hl.1 rfl (Nat.le_of_ble_eq_true rfl) dX14_sounds_181 (by show _ ≤ 18; omega) (Nat.add_le_add_right (by omega) _) tL5 (fun H locs v σ181 N hBn hX181 hP => ?_)
                clear hB; have hB := hBn; clear hBn
                obtain ⟨rfl, hAd181⟩ := hP
                obtain ⟨hI181, ada181, adb181, adc181, add181, ade181, adf181, adg181, adh181⟩ := inv_ad hI178 tL5 za181 hAd181 (sg_eda F hB) (by unfold iEl; rw [rle]; exact hbx) (by rw [rle]; refine inv_cap ?_ (Or.inr rfl); rw [sL5]; omega) (Or.inl ⟨inv_nD hI178 (by rw [rle]; decide), rfl⟩) (nr7 rle (by decide))
                have z181 : zR l1 σ σ181 := zR_tr hzr (zR_tr z5 (zR_l (l2 := le) add181 adf181 adg181 adh181 (tFr_T z5.1 tl3 (by decide)) nle))
                refine lv_pop hx hb dX14_sounds_184 rfl ?_
                refine lv_iinc (lv' := [(7, .int _), (8, .int _), (6, .ref _), (5, .ref _), (4, .int _), (3, .int _), (2, .ref _), (1, .int _), (0, .ref _)]) hx hb dX14_sounds_185 hl (k := 1) rfl rfl (by decide) rfl (fun ls hl => ?_)
                refine lv_goto (tgt := 89) hx hb dX14_sounds_188 (by decide) ?_
                have hi3 := i_nle c92
                have e9 : (k9 + Int32.ofInt 1).toInt = k9.toInt + 1 := m_add1 (by omega) (by omega)
                first
                  | exact ih89 _ (by subst hd89; rw [e9]; omega) _ _ _ _ _ _ _ _ hB (lv_sub hl [0, 2, 3, 4, 5, 6, 7, 8] rfl) hI181 ⟨by rw [e9]; omega, by rw [e9]; omega⟩ (by rw [e9, ada181, sL5]; omega) ⟨by rw [e9]; show kc + 1 + 1 ≤ _; omega, by rw [e9]; omega⟩ z181 rfl
                  | exact ih89 _ (by subst hd89; rw [e9]; omega) _ _ _ _ _ _ _ _ hB (lv_sub hl [0, 2, 3, 4, 5, 6, 7, 8] rfl) hI3 ⟨by rw [e9]; omega, by rw [e9]; omega⟩ (by rw [e9]; omega) ⟨by rw [e9]; omega, by rw [e9]; omega⟩ hzr rfl
            · refine lv_aload_n hx hb dX14_sounds_142 rfl (lv_at hl 6 rfl) ?_
              refine gf_X14_300 F hB dX14_sounds_143 tx3 ?_
              refine lv_if_eq (tgt := 165) hx hb dX14_sounds_146 (by decide) (fun c146 => ?_) (fun c146 => ((c146 ((x03).trans hin)) : False).elim)
              refine lv_iload hx hb dX14_sounds_165 (lv_at hl 4 rfl) ?_
              refine lv_bipush (v := 32) hx hb dX14_sounds_167 (by decide) ?_
              refine lv_icmp_ne (tgt := 185) hx hb dX14_sounds_169 (by decide) (fun c169 => ?_) (fun c169 => ?_)
              · refine lv_iinc (lv' := [(7, .int _), (8, .int _), (6, .ref _), (5, .ref _), (4, .int _), (3, .int _), (2, .ref _), (1, .int _), (0, .ref _)]) hx hb dX14_sounds_185 hl (k := 1) rfl rfl (by decide) rfl (fun ls hl => ?_)
                refine lv_goto (tgt := 89) hx hb dX14_sounds_188 (by decide) ?_
                have hi3 := i_nle c92
                have e9 : (k9 + Int32.ofInt 1).toInt = k9.toInt + 1 := m_add1 (by omega) (by omega)
                first
                  | exact ih89 _ (by subst hd89; rw [e9]; omega) _ _ _ _ _ _ _ _ hB (lv_sub hl [0, 2, 3, 4, 5, 6, 7, 8] rfl) hI181 ⟨by rw [e9]; omega, by rw [e9]; omega⟩ (by rw [e9, ada181, sL5]; omega) ⟨by rw [e9]; show kc + 1 + 1 ≤ _; omega, by rw [e9]; omega⟩ z181 rfl
                  | exact ih89 _ (by subst hd89; rw [e9]; omega) _ _ _ _ _ _ _ _ hB (lv_sub hl [0, 2, 3, 4, 5, 6, 7, 8] rfl) hI3 ⟨by rw [e9]; omega, by rw [e9]; omega⟩ (by rw [e9]; omega) ⟨by rw [e9]; omega, by rw [e9]; omega⟩ hzr rfl
              · refine lv_aload_n hx hb dX14_sounds_172 rfl (lv_at hl 6 rfl) ?_
                refine gr_X14_320 F hB dX14_sounds_173 tx3 hle3 ?_
                refine lv_iload hx hb dX14_sounds_176 (lv_at hl 0 rfl) ?_
                refine sg_callS F hB (m_box l D cy _ _) (va_cwS 1 F.1.2.2.2.2 (mgS2 (mm_7 _ (List.mem_of_getElem? (i := 33) rfl)) (mm_7 _ (List.mem_of_getElem? (i := 34) rfl)) (mm_7 _ (List.mem_of_getElem? (i := 30) rfl)) (mm_7 _ (List.mem_of_getElem? (i := 25) rfl))) rfl rfl rfl ⟨by decide, by decide, by decide +kernel⟩ ⟨Nat.le_of_ble_eq_true rfl, Nat.le_of_ble_eq_true rfl⟩) rfl hl.1 rfl (Nat.le_of_ble_eq_true rfl) dX14_sounds_178 (by show _ ≤ 18; omega) (Nat.add_le_add_right (by omega) _)  (fun H locs v σ178 N hBn hX178 hP => ?_)
                clear hB; have hB := hBn; clear hBn
                obtain ⟨y178, rfl, hbx, hqt⟩ := hP
                have ed5 := sg_eda F hB
                have hI178 := inv_Qt hI3 hqt ed5
                have tL5 : sgT σ178 le = 5 := (hqt.1 le (by rw [tle3]; decide)).1.trans tle3
                have sL5 : sgSz σ178 le = sgSz σ3 le := sgSz_Qt hqt tle3
                have z5 := zR_Qt hI3 hqt ed5 tl3
                obtain ⟨ra181, za181, zb181⟩ := (inv_LS hI178).1 _ tL5 id
                refine sg_callV (ci := 4) F hB (m_add l D cy za181 (fun j y h1 h2 => (inv_LS hI178).2.2.1 ra181 j y h1 h2) y178 (iEl_K (l0 := _) (g := g) (j := 0) (by unfold iEl; rw [rle]; exact hbx)) zb181 _) (cwV 1 F.1.2.2.2.2 (mgV (mm_3 _ (List.mem_of_getElem? (i := 9) rfl)) (mm_3 _ (List.mem_of_getElem? (i := 10) rfl)) (mm_3 _ (List.mem_of_getElem? (i := 11) rfl)) (mm_0 _ (List.mem_of_getElem? (i := 35) rfl)) (mm_2 _ (List.mem_of_getElem? (i := 29) rfl))) rfl rfl rfl ⟨rfl, by decide, by decide, by decide +kernel⟩ ⟨Nat.le_of_ble_eq_true rfl, Nat.le_of_ble_eq_true rfl⟩) rfl rfl (by decide) rfl hl.1 rfl (Nat.le_of_ble_eq_true rfl) dX14_sounds_181 (by show _ ≤ 18; omega) (Nat.add_le_add_right (by omega) _) tL5 (fun H locs v σ181 N hBn hX181 hP => ?_)
                clear hB; have hB := hBn; clear hBn
                obtain ⟨rfl, hAd181⟩ := hP
                obtain ⟨hI181, ada181, adb181, adc181, add181, ade181, adf181, adg181, adh181⟩ := inv_ad hI178 tL5 za181 hAd181 (sg_eda F hB) (by unfold iEl; rw [rle]; exact hbx) (by rw [rle]; refine inv_cap ?_ (Or.inr rfl); rw [sL5]; omega) (Or.inl ⟨inv_nD hI178 (by rw [rle]; decide), rfl⟩) (nr7 rle (by decide))
                have z181 : zR l1 σ σ181 := zR_tr hzr (zR_tr z5 (zR_l (l2 := le) add181 adf181 adg181 adh181 (tFr_T z5.1 tl3 (by decide)) nle))
                refine lv_pop hx hb dX14_sounds_184 rfl ?_
                refine lv_iinc (lv' := [(7, .int _), (8, .int _), (6, .ref _), (5, .ref _), (4, .int _), (3, .int _), (2, .ref _), (1, .int _), (0, .ref _)]) hx hb dX14_sounds_185 hl (k := 1) rfl rfl (by decide) rfl (fun ls hl => ?_)
                refine lv_goto (tgt := 89) hx hb dX14_sounds_188 (by decide) ?_
                have hi3 := i_nle c92
                have e9 : (k9 + Int32.ofInt 1).toInt = k9.toInt + 1 := m_add1 (by omega) (by omega)
                first
                  | exact ih89 _ (by subst hd89; rw [e9]; omega) _ _ _ _ _ _ _ _ hB (lv_sub hl [0, 2, 3, 4, 5, 6, 7, 8] rfl) hI181 ⟨by rw [e9]; omega, by rw [e9]; omega⟩ (by rw [e9, ada181, sL5]; omega) ⟨by rw [e9]; show kc + 1 + 1 ≤ _; omega, by rw [e9]; omega⟩ z181 rfl
                  | exact ih89 _ (by subst hd89; rw [e9]; omega) _ _ _ _ _ _ _ _ hB (lv_sub hl [0, 2, 3, 4, 5, 6, 7, 8] rfl) hI3 ⟨by rw [e9]; omega, by rw [e9]; omega⟩ (by rw [e9]; omega) ⟨by rw [e9]; omega, by rw [e9]; omega⟩ hzr rfl
        · refine lv_iload hx hb dX14_sounds_63 (lv_at hl 6 rfl) ?_
          refine lv_bipush (v := 100) hx hb dX14_sounds_65 (by decide) ?_
          refine lv_icmp_eq (tgt := 77) hx hb dX14_sounds_67 (by decide) (fun c67 => ?_) (fun c67 => ?_)
          · refine lv_iconst (v := 1) hx hb dX14_sounds_77 (by decide) ?_
            refine lv_goto (tgt := 82) hx hb dX14_sounds_78 (by decide) ?_
            refine lv_iadd hx hb dX14_sounds_82 ?_
            refine pf_X14_366 F hB dX14_sounds_83 (inv_A h) (fun H locs hBn => ?_)
            clear hB; have hB := hBn; clear hBn
            have hI83 := inv_PIc (t := 20) hB h (inv_A h) (by unfold iCn; omega)
            have z83 := zPIB (l1 := l1) (t := 20) hB (inv_A h) (by decide) tl
            have hb0 := i_nle c48
            rw [m_i0] at hb0
            obtain ⟨kc, hkc⟩ : ∃ kc : Nat, kc = 0 := ⟨_, rfl⟩
            refine W.widen (k := kc) (n := N) (by omega) (Nat.le_refl _) ?_
            refine lv_iconst (v := 0) hx hb dX14_sounds_86 (by decide) ?_
            refine lv_istore (lv' := [(7, .int _), (6, .ref _), (5, .ref _), (0, .ref _), (1, .int _), (2, .ref _), (3, .int _), (4, .int _)]) hx hb dX14_sounds_87 hl (by decide) rfl (fun ls hl => ?_)
            have key89 : ∃ (σ3 : SG) (k9 : Int32) (nc : Nat), sgB D cy s σ σ3 H locs N nc ∧ lv_has ls 9 [(7, .int k9), (6, .ref t0), (5, .ref pp), (4, .int f0), (3, .int b), (2, .ref xe), (1, .int x), (0, .ref (kA K))] ∧ Inv eda ia K g n S hw σ3 ∧ (0 ≤ k9.toInt ∧ k9.toInt ≤ b.toInt) ∧ sgSz σ3 le ≤ sgSz σ le + k9.toInt.toNat ∧ (kc ≤ 2 * k9.toInt.toNat ∧ nc ≤ 16 * k9.toInt.toNat) ∧ zR l1 σ σ3 := ⟨_, _, _, hB, (lv_sub hl [0, 1, 2, 7, 6, 5, 4, 3] rfl), hI83, ⟨by decide, by rw [m_i0]; omega⟩, by rw [m_i0]; exact Nat.le_of_eq (sgSz_nk (by decide)), ⟨by omega, by omega⟩, z83⟩
            clear hB hl hkc
            obtain ⟨σ3, k9, nc, hB, hl, hI3, hi, hzl, hkn, hzr⟩ := key89
            obtain ⟨d89, hd89⟩ : ∃ d : Nat, d = (b.toInt - k9.toInt).toNat := ⟨_, rfl⟩
            induction d89 using Nat.strongRecOn generalizing H locs ls N σ3 k9 nc kc
            rename_i d89 ih89
            have tx3 : sgT σ3 xe = 17 := tFr_T hzr.1 txe (by decide)
            have tp3 : sgT σ3 pp = 18 := tFr_T hzr.1 tp (by decide)
            have tle3 : sgT σ3 le = 5 := tFr_T hzr.1 tle (by decide)
            have hle3 : sgR σ3 xe 3 = some le := (hzr.2.2.2.2.1 xe 3 (by rw [txe]; decide)).trans hle
            have tl3 : sgT σ3 l1 = 5 := tFr_T hzr.1 tl (by decide)
            have tt3 : sgT σ3 t0 = 19 := tFr_T hzr.1 tt (by decide)
            have d3 : sgI σ3 t0 2 = sgI σ t0 2 := hzr.2.1 t0 2 tt
            have x03 : sgI σ3 xe 0 = sgI σ xe 0 := hzr.2.2.2.1 xe 0 txe (by decide)
            refine lv_iload hx hb dX14_sounds_89 (lv_at hl 0 rfl) ?_
            refine lv_iload_n hx hb dX14_sounds_91 rfl (lv_at hl 4 rfl) ?_
            refine lv_icmp_ge (tgt := 191) hx hb dX14_sounds_92 (by decide) (fun c92 => ?_) (fun c92 => ?_)
            · have hi4 := i_le c92
              refine W.widen (k := 16) (n := N) (show kc ≤ 16 from by omega) (Nat.le_refl _) ?_
              have hBn := sgB_up (n2 := 128) hB (show nc ≤ 128 from by omega)
              clear hB; have hB := hBn; clear hBn
              refine lv_aload hx hb dX14_sounds_191 (lv_at hl 1 rfl) ?_
              refine lv_dup hx hb dX14_sounds_193 rfl ?_
              refine gf_X14_284 F hB dX14_sounds_194 tt3 ?_
              refine lv_iload_n hx hb dX14_sounds_197 rfl (lv_at hl 4 rfl) ?_
              refine lv_iadd hx hb dX14_sounds_198 ?_
              refine pf_X14_284 F hB dX14_sounds_199 tt3 (fun H locs hBn => ?_)
              clear hB; have hB := hBn; clear hBn
              have hI199 := inv_dnB hB hI3 tt3
              have w3 := wPp_z h wc hzr
              have wB := wPp_hB hB (wPp_PI w3 (Or.inr ⟨fun z => absurd (tt3.symm.trans z) (by decide), fun z => absurd (tt3.symm.trans z) (by decide)⟩) tp3 tl3)
              have hB199 := hB
              have i3 := iW_tr hzr.1 (inv_T h) tt (hzr.2.1 t0 1 tt) (hzr.2.1 t0 2 tt) x03 (hzr.2.2.2.2.1 t0 0 (by rw [tt]; decide)) ⟨iw1, iw2, iw3, iw4⟩
              refine lv_aload hx hb dX14_sounds_202 (lv_at hl 1 rfl) ?_
              refine lv_aload hx hb dX14_sounds_204 (lv_at hl 1 rfl) ?_
              refine gf_X14_371 F hB dX14_sounds_206 (by exact tt3) ?_
              refine lv_if_ne (tgt := 219) hx hb dX14_sounds_209 (by decide) (fun c209 => ?_) (fun c209 => ?_)
              · refine lv_iconst (v := 1) hx hb dX14_sounds_219 (by decide) ?_
                refine lv_goto (tgt := 224) hx hb dX14_sounds_220 (by decide) ?_
                refine pf_X14_371 F hB dX14_sounds_224 (by exact tt3) ⟨by decide, by decide⟩ (fun H locs hBn => ?_)
                clear hB; have hB := hBn; clear hBn
                have hI224 := inv_PIc (t := 19) hB hI199 (by exact tt3) (by unfold iCn; omega)
                have wC := wPp_hB4 hB (wPp_PI wB (Or.inr ⟨fun z => absurd (tt3.symm.trans z) (by decide), fun z => absurd (tt3.symm.trans z) (by decide)⟩) (by exact tp3) (by exact tl3))
                have hBC := hB
                refine lv_aload hx hb dX14_sounds_227 (lv_at hl 1 rfl) ?_
                refine gf_X14_284 F hB dX14_sounds_229 (by exact tt3) ?_
                refine lv_aload hx hb dX14_sounds_232 (lv_at hl 1 rfl) ?_
                refine gf_X14_338 F hB dX14_sounds_234 (by exact tt3) ?_
                refine lv_icmp_lt (tgt := 263) hx hb dX14_sounds_237 (by decide) (fun c237 => ?_) (fun c237 => ?_)
                · refine lv_aload_n hx hb dX14_sounds_263 rfl (lv_at hl 5 rfl) ?_
                  refine gf_X14_300 F hB dX14_sounds_264 (by exact tx3) ?_
                  refine lv_if_eq (tgt := 285) hx hb dX14_sounds_267 (by decide) (fun c267 => ?_) (fun c267 => ((c267 ((((sgI_nk (by decide)).trans (sgI_nk (by decide))).trans x03).trans hin)) : False).elim)
                  first
                    | have hfin := hI257b
                    | have hfin := hI282b
                    | have hfin := inv_dnw hI224 wC (iW_C hBC (iW_L hB199 i3 tt3 tx3 hbb.1 hbb.2 (m_ltC hBC i3 hbb.1 hbb.2 c237)))
                    | have hfin : Inv eda ia K g n S hw _ := hI224
                  refine lv_iconst (v := 1) hx hb dX14_sounds_285 (by decide) ?_
                  exact sg_iret F hB hrt dX14_sounds_286 (by omega) (by omega) (⟨⟨_, rfl, Or.inl rfl⟩, hfin⟩)
                · obtain ⟨m1, hm1⟩ := m_evm hB (K := K)
                  refine lv_aload_n hx hb dX14_sounds_240 rfl (lv_at hl 7 rfl) ?_
                  refine lv_iload_n hx hb dX14_sounds_241 rfl (lv_at hl 6 rfl) ?_
                  refine lv_aload hx hb dX14_sounds_242 (lv_at hl 1 rfl) ?_
                  refine gf_X14_371 F hB dX14_sounds_244 (by exact tt3) ?_
                  refine lv_if_eq (tgt := 255) hx hb dX14_sounds_247 (by decide) (fun c247 => ?_) (fun c247 => ?_)
                  · refine lv_bipush (v := 100) hx hb dX14_sounds_255 (by decide) ?_
                    refine sg_callV (ci := 19) F hB (m_ends l D cy hI224 x _ wC.1.1 wC.1.2 wC.2.1 wC.2.2.1 wC.2.2.2.1 hm1 _) (cwV 2 F.1.2.2.2.2 (mgV (mm_5 _ (List.mem_of_getElem? (i := 33) rfl)) (mm_5 _ (List.mem_of_getElem? (i := 34) rfl)) (mm_5 _ (List.mem_of_getElem? (i := 35) rfl)) (mm_3 _ (List.mem_of_getElem? (i := 23) rfl)) (mm_5 _ (List.mem_of_getElem? (i := 32) rfl))) rfl rfl rfl ⟨rfl, by decide, by decide, by decide +kernel⟩ ⟨Nat.le_of_ble_eq_true rfl, Nat.le_of_ble_eq_true rfl⟩) rfl rfl (by decide) rfl hl.1 rfl (Nat.le_of_ble_eq_true rfl) dX14_sounds_257 (Nat.le_trans (show _ ≤ 18 from by omega) (Nat.le_of_ble_eq_true rfl)) (Nat.add_le_add_right (Nat.le_trans (show _ ≤ 146 from by omega) (Nat.le_of_ble_eq_true rfl)) _) (inv_A hI224) (fun H locs v σ257 N hBn hX257 hP => ?_)
                    clear hB; have hB := hBn; clear hBn
                    refine W.widen (k := 18) (n := N) (show _ ≤ 18 from by omega) (Nat.le_refl _) ?_
                    have hBn := sgB_up (n2 := 146) hB (show _ ≤ 146 from by omega)
                    clear hB; have hB := hBn; clear hBn
                    obtain ⟨rfl, hI257, en1_257, en2_257, en3_257, en4_257⟩ := hP
                    have hI257b := inv_dne hI224 wC hI257 en1_257 en2_257 en4_257
                    refine lv_goto (tgt := 285) hx hb dX14_sounds_260 (by decide) ?_
                    first
                      | have hfin := hI257b
                      | have hfin := hI282b
                      | have hfin := inv_dnw hI257b wC (iW_C hBC (iW_L hB199 i3 tt3 tx3 hbb.1 hbb.2 (m_ltC hBC i3 hbb.1 hbb.2 c237)))
                      | have hfin : Inv eda ia K g n S hw _ := hI257b
                    refine lv_iconst (v := 1) hx hb dX14_sounds_285 (by decide) ?_
                    exact sg_iret F hB hrt dX14_sounds_286 (by omega) (by omega) (⟨⟨_, rfl, Or.inl rfl⟩, hfin⟩)
                  · refine lv_bipush (v := 108) hx hb dX14_sounds_250 (by decide) ?_
                    refine lv_goto (tgt := 257) hx hb dX14_sounds_252 (by decide) ?_
                    refine sg_callV (ci := 19) F hB (m_ends l D cy hI224 x _ wC.1.1 wC.1.2 wC.2.1 wC.2.2.1 wC.2.2.2.1 hm1 _) (cwV 2 F.1.2.2.2.2 (mgV (mm_5 _ (List.mem_of_getElem? (i := 33) rfl)) (mm_5 _ (List.mem_of_getElem? (i := 34) rfl)) (mm_5 _ (List.mem_of_getElem? (i := 35) rfl)) (mm_3 _ (List.mem_of_getElem? (i := 23) rfl)) (mm_5 _ (List.mem_of_getElem? (i := 32) rfl))) rfl rfl rfl ⟨rfl, by decide, by decide, by decide +kernel⟩ ⟨Nat.le_of_ble_eq_true rfl, Nat.le_of_ble_eq_true rfl⟩) rfl rfl (by decide) rfl hl.1 rfl (Nat.le_of_ble_eq_true rfl) dX14_sounds_257 (Nat.le_trans (show _ ≤ 18 from by omega) (Nat.le_of_ble_eq_true rfl)) (Nat.add_le_add_right (Nat.le_trans (show _ ≤ 146 from by omega) (Nat.le_of_ble_eq_true rfl)) _) (inv_A hI224) (fun H locs v σ257 N hBn hX257 hP => ?_)
                    clear hB; have hB := hBn; clear hBn
                    refine W.widen (k := 18) (n := N) (show _ ≤ 18 from by omega) (Nat.le_refl _) ?_
                    have hBn := sgB_up (n2 := 146) hB (show _ ≤ 146 from by omega)
                    clear hB; have hB := hBn; clear hBn
                    obtain ⟨rfl, hI257, en1_257, en2_257, en3_257, en4_257⟩ := hP
                    have hI257b := inv_dne hI224 wC hI257 en1_257 en2_257 en4_257
                    refine lv_goto (tgt := 285) hx hb dX14_sounds_260 (by decide) ?_
                    first
                      | have hfin := hI257b
                      | have hfin := hI282b
                      | have hfin := inv_dnw hI257b wC (iW_C hBC (iW_L hB199 i3 tt3 tx3 hbb.1 hbb.2 (m_ltC hBC i3 hbb.1 hbb.2 c237)))
                      | have hfin : Inv eda ia K g n S hw _ := hI257b
                    refine lv_iconst (v := 1) hx hb dX14_sounds_285 (by decide) ?_
                    exact sg_iret F hB hrt dX14_sounds_286 (by omega) (by omega) (⟨⟨_, rfl, Or.inl rfl⟩, hfin⟩)
              · refine lv_iload hx hb dX14_sounds_212 (lv_at hl 3 rfl) ?_
                refine lv_bipush (v := 32) hx hb dX14_sounds_214 (by decide) ?_
                refine lv_icmp_eq (tgt := 223) hx hb dX14_sounds_216 (by decide) (fun c216 => ?_) (fun c216 => ?_)
                · refine lv_iconst (v := 0) hx hb dX14_sounds_223 (by decide) ?_
                  refine pf_X14_371 F hB dX14_sounds_224 (by exact tt3) ⟨by decide, by decide⟩ (fun H locs hBn => ?_)
                  clear hB; have hB := hBn; clear hBn
                  have hI224 := inv_PIc (t := 19) hB hI199 (by exact tt3) (by unfold iCn; omega)
                  have wC := wPp_hB4 hB (wPp_PI wB (Or.inr ⟨fun z => absurd (tt3.symm.trans z) (by decide), fun z => absurd (tt3.symm.trans z) (by decide)⟩) (by exact tp3) (by exact tl3))
                  have hBC := hB
                  refine lv_aload hx hb dX14_sounds_227 (lv_at hl 1 rfl) ?_
                  refine gf_X14_284 F hB dX14_sounds_229 (by exact tt3) ?_
                  refine lv_aload hx hb dX14_sounds_232 (lv_at hl 1 rfl) ?_
                  refine gf_X14_338 F hB dX14_sounds_234 (by exact tt3) ?_
                  refine lv_icmp_lt (tgt := 263) hx hb dX14_sounds_237 (by decide) (fun c237 => ?_) (fun c237 => ?_)
                  · refine lv_aload_n hx hb dX14_sounds_263 rfl (lv_at hl 5 rfl) ?_
                    refine gf_X14_300 F hB dX14_sounds_264 (by exact tx3) ?_
                    refine lv_if_eq (tgt := 285) hx hb dX14_sounds_267 (by decide) (fun c267 => ?_) (fun c267 => ((c267 ((((sgI_nk (by decide)).trans (sgI_nk (by decide))).trans x03).trans hin)) : False).elim)
                    first
                      | have hfin := hI257b
                      | have hfin := hI282b
                      | have hfin := inv_dnw hI224 wC (iW_C hBC (iW_L hB199 i3 tt3 tx3 hbb.1 hbb.2 (m_ltC hBC i3 hbb.1 hbb.2 c237)))
                      | have hfin : Inv eda ia K g n S hw _ := hI224
                    refine lv_iconst (v := 1) hx hb dX14_sounds_285 (by decide) ?_
                    exact sg_iret F hB hrt dX14_sounds_286 (by omega) (by omega) (⟨⟨_, rfl, Or.inl rfl⟩, hfin⟩)
                  · obtain ⟨m1, hm1⟩ := m_evm hB (K := K)
                    refine lv_aload_n hx hb dX14_sounds_240 rfl (lv_at hl 7 rfl) ?_
                    refine lv_iload_n hx hb dX14_sounds_241 rfl (lv_at hl 6 rfl) ?_
                    refine lv_aload hx hb dX14_sounds_242 (lv_at hl 1 rfl) ?_
                    refine gf_X14_371 F hB dX14_sounds_244 (by exact tt3) ?_
                    refine lv_if_eq (tgt := 255) hx hb dX14_sounds_247 (by decide) (fun c247 => ?_) (fun c247 => ?_)
                    · refine lv_bipush (v := 100) hx hb dX14_sounds_255 (by decide) ?_
                      refine sg_callV (ci := 19) F hB (m_ends l D cy hI224 x _ wC.1.1 wC.1.2 wC.2.1 wC.2.2.1 wC.2.2.2.1 hm1 _) (cwV 2 F.1.2.2.2.2 (mgV (mm_5 _ (List.mem_of_getElem? (i := 33) rfl)) (mm_5 _ (List.mem_of_getElem? (i := 34) rfl)) (mm_5 _ (List.mem_of_getElem? (i := 35) rfl)) (mm_3 _ (List.mem_of_getElem? (i := 23) rfl)) (mm_5 _ (List.mem_of_getElem? (i := 32) rfl))) rfl rfl rfl ⟨rfl, by decide, by decide, by decide +kernel⟩ ⟨Nat.le_of_ble_eq_true rfl, Nat.le_of_ble_eq_true rfl⟩) rfl rfl (by decide) rfl hl.1 rfl (Nat.le_of_ble_eq_true rfl) dX14_sounds_257 (Nat.le_trans (show _ ≤ 18 from by omega) (Nat.le_of_ble_eq_true rfl)) (Nat.add_le_add_right (Nat.le_trans (show _ ≤ 146 from by omega) (Nat.le_of_ble_eq_true rfl)) _) (inv_A hI224) (fun H locs v σ257 N hBn hX257 hP => ?_)
                      clear hB; have hB := hBn; clear hBn
                      refine W.widen (k := 18) (n := N) (show _ ≤ 18 from by omega) (Nat.le_refl _) ?_
                      have hBn := sgB_up (n2 := 146) hB (show _ ≤ 146 from by omega)
                      clear hB; have hB := hBn; clear hBn
                      obtain ⟨rfl, hI257, en1_257, en2_257, en3_257, en4_257⟩ := hP
                      have hI257b := inv_dne hI224 wC hI257 en1_257 en2_257 en4_257
                      refine lv_goto (tgt := 285) hx hb dX14_sounds_260 (by decide) ?_
                      first
                        | have hfin := hI257b
                        | have hfin := hI282b
                        | have hfin := inv_dnw hI257b wC (iW_C hBC (iW_L hB199 i3 tt3 tx3 hbb.1 hbb.2 (m_ltC hBC i3 hbb.1 hbb.2 c237)))
                        | have hfin : Inv eda ia K g n S hw _ := hI257b
                      refine lv_iconst (v := 1) hx hb dX14_sounds_285 (by decide) ?_
                      exact sg_iret F hB hrt dX14_sounds_286 (by omega) (by omega) (⟨⟨_, rfl, Or.inl rfl⟩, hfin⟩)
                    · refine lv_bipush (v := 108) hx hb dX14_sounds_250 (by decide) ?_
                      refine lv_goto (tgt := 257) hx hb dX14_sounds_252 (by decide) ?_
                      refine sg_callV (ci := 19) F hB (m_ends l D cy hI224 x _ wC.1.1 wC.1.2 wC.2.1 wC.2.2.1 wC.2.2.2.1 hm1 _) (cwV 2 F.1.2.2.2.2 (mgV (mm_5 _ (List.mem_of_getElem? (i := 33) rfl)) (mm_5 _ (List.mem_of_getElem? (i := 34) rfl)) (mm_5 _ (List.mem_of_getElem? (i := 35) rfl)) (mm_3 _ (List.mem_of_getElem? (i := 23) rfl)) (mm_5 _ (List.mem_of_getElem? (i := 32) rfl))) rfl rfl rfl ⟨rfl, by decide, by decide, by decide +kernel⟩ ⟨Nat.le_of_ble_eq_true rfl, Nat.le_of_ble_eq_true rfl⟩) rfl rfl (by decide) rfl hl.1 rfl (Nat.le_of_ble_eq_true rfl) dX14_sounds_257 (Nat.le_trans (show _ ≤ 18 from by omega) (Nat.le_of_ble_eq_true rfl)) (Nat.add_le_add_right (Nat.le_trans (show _ ≤ 146 from by omega) (Nat.le_of_ble_eq_true rfl)) _) (inv_A hI224) (fun H locs v σ257 N hBn hX257 hP => ?_)
                      clear hB; have hB := hBn; clear hBn
                      refine W.widen (k := 18) (n := N) (show _ ≤ 18 from by omega) (Nat.le_refl _) ?_
                      have hBn := sgB_up (n2 := 146) hB (show _ ≤ 146 from by omega)
                      clear hB; have hB := hBn; clear hBn
                      obtain ⟨rfl, hI257, en1_257, en2_257, en3_257, en4_257⟩ := hP
                      have hI257b := inv_dne hI224 wC hI257 en1_257 en2_257 en4_257
                      refine lv_goto (tgt := 285) hx hb dX14_sounds_260 (by decide) ?_
                      first
                        | have hfin := hI257b
                        | have hfin := hI282b
                        | have hfin := inv_dnw hI257b wC (iW_C hBC (iW_L hB199 i3 tt3 tx3 hbb.1 hbb.2 (m_ltC hBC i3 hbb.1 hbb.2 c237)))
                        | have hfin : Inv eda ia K g n S hw _ := hI257b
                      refine lv_iconst (v := 1) hx hb dX14_sounds_285 (by decide) ?_
                      exact sg_iret F hB hrt dX14_sounds_286 (by omega) (by omega) (⟨⟨_, rfl, Or.inl rfl⟩, hfin⟩)
                · refine lv_iconst (v := 1) hx hb dX14_sounds_219 (by decide) ?_
                  refine lv_goto (tgt := 224) hx hb dX14_sounds_220 (by decide) ?_
                  refine pf_X14_371 F hB dX14_sounds_224 (by exact tt3) ⟨by decide, by decide⟩ (fun H locs hBn => ?_)
                  clear hB; have hB := hBn; clear hBn
                  have hI224 := inv_PIc (t := 19) hB hI199 (by exact tt3) (by unfold iCn; omega)
                  have wC := wPp_hB4 hB (wPp_PI wB (Or.inr ⟨fun z => absurd (tt3.symm.trans z) (by decide), fun z => absurd (tt3.symm.trans z) (by decide)⟩) (by exact tp3) (by exact tl3))
                  have hBC := hB
                  refine lv_aload hx hb dX14_sounds_227 (lv_at hl 1 rfl) ?_
                  refine gf_X14_284 F hB dX14_sounds_229 (by exact tt3) ?_
                  refine lv_aload hx hb dX14_sounds_232 (lv_at hl 1 rfl) ?_
                  refine gf_X14_338 F hB dX14_sounds_234 (by exact tt3) ?_
                  refine lv_icmp_lt (tgt := 263) hx hb dX14_sounds_237 (by decide) (fun c237 => ?_) (fun c237 => ?_)
                  · refine lv_aload_n hx hb dX14_sounds_263 rfl (lv_at hl 5 rfl) ?_
                    refine gf_X14_300 F hB dX14_sounds_264 (by exact tx3) ?_
                    refine lv_if_eq (tgt := 285) hx hb dX14_sounds_267 (by decide) (fun c267 => ?_) (fun c267 => ((c267 ((((sgI_nk (by decide)).trans (sgI_nk (by decide))).trans x03).trans hin)) : False).elim)
                    first
                      | have hfin := hI257b
                      | have hfin := hI282b
                      | have hfin := inv_dnw hI224 wC (iW_C hBC (iW_L hB199 i3 tt3 tx3 hbb.1 hbb.2 (m_ltC hBC i3 hbb.1 hbb.2 c237)))
                      | have hfin : Inv eda ia K g n S hw _ := hI224
                    refine lv_iconst (v := 1) hx hb dX14_sounds_285 (by decide) ?_
                    exact sg_iret F hB hrt dX14_sounds_286 (by omega) (by omega) (⟨⟨_, rfl, Or.inl rfl⟩, hfin⟩)
                  · obtain ⟨m1, hm1⟩ := m_evm hB (K := K)
                    refine lv_aload_n hx hb dX14_sounds_240 rfl (lv_at hl 7 rfl) ?_
                    refine lv_iload_n hx hb dX14_sounds_241 rfl (lv_at hl 6 rfl) ?_
                    refine lv_aload hx hb dX14_sounds_242 (lv_at hl 1 rfl) ?_
                    refine gf_X14_371 F hB dX14_sounds_244 (by exact tt3) ?_
                    refine lv_if_eq (tgt := 255) hx hb dX14_sounds_247 (by decide) (fun c247 => ?_) (fun c247 => ?_)
                    · refine lv_bipush (v := 100) hx hb dX14_sounds_255 (by decide) ?_
                      refine sg_callV (ci := 19) F hB (m_ends l D cy hI224 x _ wC.1.1 wC.1.2 wC.2.1 wC.2.2.1 wC.2.2.2.1 hm1 _) (cwV 2 F.1.2.2.2.2 (mgV (mm_5 _ (List.mem_of_getElem? (i := 33) rfl)) (mm_5 _ (List.mem_of_getElem? (i := 34) rfl)) (mm_5 _ (List.mem_of_getElem? (i := 35) rfl)) (mm_3 _ (List.mem_of_getElem? (i := 23) rfl)) (mm_5 _ (List.mem_of_getElem? (i := 32) rfl))) rfl rfl rfl ⟨rfl, by decide, by decide, by decide +kernel⟩ ⟨Nat.le_of_ble_eq_true rfl, Nat.le_of_ble_eq_true rfl⟩) rfl rfl (by decide) rfl hl.1 rfl (Nat.le_of_ble_eq_true rfl) dX14_sounds_257 (Nat.le_trans (show _ ≤ 18 from by omega) (Nat.le_of_ble_eq_true rfl)) (Nat.add_le_add_right (Nat.le_trans (show _ ≤ 146 from by omega) (Nat.le_of_ble_eq_true rfl)) _) (inv_A hI224) (fun H locs v σ257 N hBn hX257 hP => ?_)
                      clear hB; have hB := hBn; clear hBn
                      refine W.widen (k := 18) (n := N) (show _ ≤ 18 from by omega) (Nat.le_refl _) ?_
                      have hBn := sgB_up (n2 := 146) hB (show _ ≤ 146 from by omega)
                      clear hB; have hB := hBn; clear hBn
                      obtain ⟨rfl, hI257, en1_257, en2_257, en3_257, en4_257⟩ := hP
                      have hI257b := inv_dne hI224 wC hI257 en1_257 en2_257 en4_257
                      refine lv_goto (tgt := 285) hx hb dX14_sounds_260 (by decide) ?_
                      first
                        | have hfin := hI257b
                        | have hfin := hI282b
                        | have hfin := inv_dnw hI257b wC (iW_C hBC (iW_L hB199 i3 tt3 tx3 hbb.1 hbb.2 (m_ltC hBC i3 hbb.1 hbb.2 c237)))
                        | have hfin : Inv eda ia K g n S hw _ := hI257b
                      refine lv_iconst (v := 1) hx hb dX14_sounds_285 (by decide) ?_
                      exact sg_iret F hB hrt dX14_sounds_286 (by omega) (by omega) (⟨⟨_, rfl, Or.inl rfl⟩, hfin⟩)
                    · refine lv_bipush (v := 108) hx hb dX14_sounds_250 (by decide) ?_
                      refine lv_goto (tgt := 257) hx hb dX14_sounds_252 (by decide) ?_
                      refine sg_callV (ci := 19) F hB (m_ends l D cy hI224 x _ wC.1.1 wC.1.2 wC.2.1 wC.2.2.1 wC.2.2.2.1 hm1 _) (cwV 2 F.1.2.2.2.2 (mgV (mm_5 _ (List.mem_of_getElem? (i := 33) rfl)) (mm_5 _ (List.mem_of_getElem? (i := 34) rfl)) (mm_5 _ (List.mem_of_getElem? (i := 35) rfl)) (mm_3 _ (List.mem_of_getElem? (i := 23) rfl)) (mm_5 _ (List.mem_of_getElem? (i := 32) rfl))) rfl rfl rfl ⟨rfl, by decide, by decide, by decide +kernel⟩ ⟨Nat.le_of_ble_eq_true rfl, Nat.le_of_ble_eq_true rfl⟩) rfl rfl (by decide) rfl hl.1 rfl (Nat.le_of_ble_eq_true rfl) dX14_sounds_257 (Nat.le_trans (show _ ≤ 18 from by omega) (Nat.le_of_ble_eq_true rfl)) (Nat.add_le_add_right (Nat.le_trans (show _ ≤ 146 from by omega) (Nat.le_of_ble_eq_true rfl)) _) (inv_A hI224) (fun H locs v σ257 N hBn hX257 hP => ?_)
                      clear hB; have hB := hBn; clear hBn
                      refine W.widen (k := 18) (n := N) (show _ ≤ 18 from by omega) (Nat.le_refl _) ?_
                      have hBn := sgB_up (n2 := 146) hB (show _ ≤ 146 from by omega)
                      clear hB; have hB := hBn; clear hBn
                      obtain ⟨rfl, hI257, en1_257, en2_257, en3_257, en4_257⟩ := hP
                      have hI257b := inv_dne hI224 wC hI257 en1_257 en2_257 en4_257
                      refine lv_goto (tgt := 285) hx hb dX14_sounds_260 (by decide) ?_
                      first
                        | have hfin := hI257b
                        | have hfin := hI282b
                        | have hfin := inv_dnw hI257b wC (iW_C hBC (iW_L hB199 i3 tt3 tx3 hbb.1 hbb.2 (m_ltC hBC i3 hbb.1 hbb.2 c237)))
                        | have hfin : Inv eda ia K g n S hw _ := hI257b
                      refine lv_iconst (v := 1) hx hb dX14_sounds_285 (by decide) ?_
                      exact sg_iret F hB hrt dX14_sounds_286 (by omega) (by omega) (⟨⟨_, rfl, Or.inl rfl⟩, hfin⟩)
            · have hi4 := i_nle c92
              refine lv_aload_n hx hb dX14_sounds_95 rfl (lv_at hl 5 rfl) ?_
              refine gf_X14_300 F hB dX14_sounds_96 tx3 ?_
              refine lv_if_eq (tgt := 119) hx hb dX14_sounds_99 (by decide) (fun c99 => ?_) (fun c99 => ((c99 ((x03).trans hin)) : False).elim)
              obtain ⟨bt, ht0, tbt, nbt⟩ := inv_T hI3 t0 tt3
              obtain ⟨bt1, ht1, tbt1, nbt1⟩ := inv_T h t0 tt
              have ebt : bt = bt1 := Option.some.inj (ht0.symm.trans ((hzr.2.2.2.2.1 t0 0 (by rw [tt]; decide)).trans ht1))
              have nb3 : sgN σ3 bt = sgN σ bt := by rw [ebt]; exact tFr_N hzr.1 tbt1 (by decide)
              have iw5 := iw4 hin bt (by rw [ebt]; exact ht1)
              have eix : (sgI σ3 t0 2 + k9).toInt = (sgI σ t0 2).toInt + k9.toInt := by rw [d3]; exact m_addb (by omega) (by omega) (by omega) (by omega)
              refine lv_aload hx hb dX14_sounds_119 (lv_at hl 1 rfl) ?_
              refine gr_X14_369 F hB dX14_sounds_121 tt3 ht0 ?_
              refine lv_aload hx hb dX14_sounds_124 (lv_at hl 1 rfl) ?_
              refine gf_X14_284 F hB dX14_sounds_126 tt3 ?_
              refine lv_iload hx hb dX14_sounds_129 (lv_at hl 0 rfl) ?_
              refine lv_iadd hx hb dX14_sounds_131 ?_
              refine sg_iald hx hb F.2.1 hB.1 dX14_sounds_132 tbt (by omega) (by omega) (by omega) ?_
              refine lv_istore (lv' := [(8, .int _), (7, .int _), (6, .ref _), (5, .ref _), (4, .int _), (3, .int _), (2, .ref _), (1, .int _), (0, .ref _)]) hx hb dX14_sounds_133 hl (by decide) rfl (fun ls hl => ?_)
              refine lv_iload hx hb dX14_sounds_135 (lv_at hl 4 rfl) ?_
              refine lv_bipush (v := 32) hx hb dX14_sounds_137 (by decide) ?_
              refine lv_icmp_ne (tgt := 165) hx hb dX14_sounds_139 (by decide) (fun c139 => ?_) (fun c139 => ?_)
              · refine lv_iload hx hb dX14_sounds_165 (lv_at hl 4 rfl) ?_
                refine lv_bipush (v := 32) hx hb dX14_sounds_167 (by decide) ?_
                refine lv_icmp_ne (tgt := 185) hx hb dX14_sounds_169 (by decide) (fun c169 => ?_) (fun c169 => ?_)
                · refine lv_iinc (lv' := [(7, .int _), (8, .int _), (6, .ref _), (5, .ref _), (4, .int _), (3, .int _), (2, .ref _), (1, .int _), (0, .ref _)]) hx hb dX14_sounds_185 hl (k := 1) rfl rfl (by decide) rfl (fun ls hl => ?_)
                  refine lv_goto (tgt := 89) hx hb dX14_sounds_188 (by decide) ?_
                  have hi3 := i_nle c92
                  have e9 : (k9 + Int32.ofInt 1).toInt = k9.toInt + 1 := m_add1 (by omega) (by omega)
                  first
                    | exact ih89 _ (by subst hd89; rw [e9]; omega) _ _ _ _ _ _ _ _ hB (lv_sub hl [0, 2, 3, 4, 5, 6, 7, 8] rfl) hI181 ⟨by rw [e9]; omega, by rw [e9]; omega⟩ (by rw [e9, ada181, sL5]; omega) ⟨by rw [e9]; show kc + 1 + 1 ≤ _; omega, by rw [e9]; omega⟩ z181 rfl
                    | exact ih89 _ (by subst hd89; rw [e9]; omega) _ _ _ _ _ _ _ _ hB (lv_sub hl [0, 2, 3, 4, 5, 6, 7, 8] rfl) hI3 ⟨by rw [e9]; omega, by rw [e9]; omega⟩ (by rw [e9]; omega) ⟨by rw [e9]; omega, by rw [e9]; omega⟩ hzr rfl
                · refine lv_aload_n hx hb dX14_sounds_172 rfl (lv_at hl 6 rfl) ?_
                  refine gr_X14_320 F hB dX14_sounds_173 tx3 hle3 ?_
                  refine lv_iload hx hb dX14_sounds_176 (lv_at hl 0 rfl) ?_
                  refine sg_callS F hB (m_box l D cy _ _) (va_cwS 1 F.1.2.2.2.2 (mgS2 (mm_7 _ (List.mem_of_getElem? (i := 33) rfl)) (mm_7 _ (List.mem_of_getElem? (i := 34) rfl)) (mm_7 _ (List.mem_of_getElem? (i := 30) rfl)) (mm_7 _ (List.mem_of_getElem? (i := 25) rfl))) rfl rfl rfl ⟨by decide, by decide, by decide +kernel⟩ ⟨Nat.le_of_ble_eq_true rfl, Nat.le_of_ble_eq_true rfl⟩) rfl hl.1 rfl (Nat.le_of_ble_eq_true rfl) dX14_sounds_178 (by show _ ≤ 18; omega) (Nat.add_le_add_right (by omega) _)  (fun H locs v σ178 N hBn hX178 hP => ?_)
                  clear hB; have hB := hBn; clear hBn
                  obtain ⟨y178, rfl, hbx, hqt⟩ := hP
                  have ed5 := sg_eda F hB
                  have hI178 := inv_Qt hI3 hqt ed5
                  have tL5 : sgT σ178 le = 5 := (hqt.1 le (by rw [tle3]; decide)).1.trans tle3
                  have sL5 : sgSz σ178 le = sgSz σ3 le := sgSz_Qt hqt tle3
                  have z5 := zR_Qt hI3 hqt ed5 tl3
                  obtain ⟨ra181, za181, zb181⟩ := (inv_LS hI178).1 _ tL5 id
                  refine sg_callV (ci := 4) F hB (m_add l D cy za181 (fun j y h1 h2 => (inv_LS hI178).2.2.1 ra181 j y h1 h2) y178 (iEl_K (l0 := _) (g := g) (j := 0) (by unfold iEl; rw [rle]; exact hbx)) zb181 _) (cwV 1 F.1.2.2.2.2 (mgV (mm_3 _ (List.mem_of_getElem? (i := 9) rfl)) (mm_3 _ (List.mem_of_getElem? (i := 10) rfl)) (mm_3 _ (List.mem_of_getElem? (i := 11) rfl)) (mm_0 _ (List.mem_of_getElem? (i := 35) rfl)) (mm_2 _ (List.mem_of_getElem? (i := 29) rfl))) rfl rfl rfl ⟨rfl, by decide, by decide, by decide +kernel⟩ ⟨Nat.le_of_ble_eq_true rfl, Nat.le_of_ble_eq_true rfl⟩) rfl rfl (by decide) rfl hl.1 rfl (Nat.le_of_ble_eq_true rfl) dX14_sounds_181 (by show _ ≤ 18; omega) (Nat.add_le_add_right (by omega) _) tL5 (fun H locs v σ181 N hBn hX181 hP => ?_)
                  clear hB; have hB := hBn; clear hBn
                  obtain ⟨rfl, hAd181⟩ := hP
                  obtain ⟨hI181, ada181, adb181, adc181, add181, ade181, adf181, adg181, adh181⟩ := inv_ad hI178 tL5 za181 hAd181 (sg_eda F hB) (by unfold iEl; rw [rle]; exact hbx) (by rw [rle]; refine inv_cap ?_ (Or.inr rfl); rw [sL5]; omega) (Or.inl ⟨inv_nD hI178 (by rw [rle]; decide), rfl⟩) (nr7 rle (by decide))
                  have z181 : zR l1 σ σ181 := zR_tr hzr (zR_tr z5 (zR_l (l2 := le) add181 adf181 adg181 adh181 (tFr_T z5.1 tl3 (by decide)) nle))
                  refine lv_pop hx hb dX14_sounds_184 rfl ?_
                  refine lv_iinc (lv' := [(7, .int _), (8, .int _), (6, .ref _), (5, .ref _), (4, .int _), (3, .int _), (2, .ref _), (1, .int _), (0, .ref _)]) hx hb dX14_sounds_185 hl (k := 1) rfl rfl (by decide) rfl (fun ls hl => ?_)
                  refine lv_goto (tgt := 89) hx hb dX14_sounds_188 (by decide) ?_
                  have hi3 := i_nle c92
                  have e9 : (k9 + Int32.ofInt 1).toInt = k9.toInt + 1 := m_add1 (by omega) (by omega)
                  first
                    | exact ih89 _ (by subst hd89; rw [e9]; omega) _ _ _ _ _ _ _ _ hB (lv_sub hl [0, 2, 3, 4, 5, 6, 7, 8] rfl) hI181 ⟨by rw [e9]; omega, by rw [e9]; omega⟩ (by rw [e9, ada181, sL5]; omega) ⟨by rw [e9]; show kc + 1 + 1 ≤ _; omega, by rw [e9]; omega⟩ z181 rfl
                    | exact ih89 _ (by subst hd89; rw [e9]; omega) _ _ _ _ _ _ _ _ hB (lv_sub hl [0, 2, 3, 4, 5, 6, 7, 8] rfl) hI3 ⟨by rw [e9]; omega, by rw [e9]; omega⟩ (by rw [e9]; omega) ⟨by rw [e9]; omega, by rw [e9]; omega⟩ hzr rfl
              · refine lv_aload_n hx hb dX14_sounds_142 rfl (lv_at hl 6 rfl) ?_
                refine gf_X14_300 F hB dX14_sounds_143 tx3 ?_
                refine lv_if_eq (tgt := 165) hx hb dX14_sounds_146 (by decide) (fun c146 => ?_) (fun c146 => ((c146 ((x03).trans hin)) : False).elim)
                refine lv_iload hx hb dX14_sounds_165 (lv_at hl 4 rfl) ?_
                refine lv_bipush (v := 32) hx hb dX14_sounds_167 (by decide) ?_
                refine lv_icmp_ne (tgt := 185) hx hb dX14_sounds_169 (by decide) (fun c169 => ?_) (fun c169 => ?_)
                · refine lv_iinc (lv' := [(7, .int _), (8, .int _), (6, .ref _), (5, .ref _), (4, .int _), (3, .int _), (2, .ref _), (1, .int _), (0, .ref _)]) hx hb dX14_sounds_185 hl (k := 1) rfl rfl (by decide) rfl (fun ls hl => ?_)
                  refine lv_goto (tgt := 89) hx hb dX14_sounds_188 (by decide) ?_
                  have hi3 := i_nle c92
                  have e9 : (k9 + Int32.ofInt 1).toInt = k9.toInt + 1 := m_add1 (by omega) (by omega)
                  first
                    | exact ih89 _ (by subst hd89; rw [e9]; omega) _ _ _ _ _ _ _ _ hB (lv_sub hl [0, 2, 3, 4, 5, 6, 7, 8] rfl) hI181 ⟨by rw [e9]; omega, by rw [e9]; omega⟩ (by rw [e9, ada181, sL5]; omega) ⟨by rw [e9]; show kc + 1 + 1 ≤ _; omega, by rw [e9]; omega⟩ z181 rfl
                    | exact ih89 _ (by subst hd89; rw [e9]; omega) _ _ _ _ _ _ _ _ hB (lv_sub hl [0, 2, 3, 4, 5, 6, 7, 8] rfl) hI3 ⟨by rw [e9]; omega, by rw [e9]; omega⟩ (by rw [e9]; omega) ⟨by rw [e9]; omega, by rw [e9]; omega⟩ hzr rfl
                · refine lv_aload_n hx hb dX14_sounds_172 rfl (lv_at hl 6 rfl) ?_
                  refine gr_X14_320 F hB dX14_sounds_173 tx3 hle3 ?_
                  refine lv_iload hx hb dX14_sounds_176 (lv_at hl 0 rfl) ?_
                  refine sg_callS F hB (m_box l D cy _ _) (va_cwS 1 F.1.2.2.2.2 (mgS2 (mm_7 _ (List.mem_of_getElem? (i := 33) rfl)) (mm_7 _ (List.mem_of_getElem? (i := 34) rfl)) (mm_7 _ (List.mem_of_getElem? (i := 30) rfl)) (mm_7 _ (List.mem_of_getElem? (i := 25) rfl))) rfl rfl rfl ⟨by decide, by decide, by decide +kernel⟩ ⟨Nat.le_of_ble_eq_true rfl, Nat.le_of_ble_eq_true rfl⟩) rfl hl.1 rfl (Nat.le_of_ble_eq_true rfl) dX14_sounds_178 (by show _ ≤ 18; omega) (Nat.add_le_add_right (by omega) _)  (fun H locs v σ178 N hBn hX178 hP => ?_)
                  clear hB; have hB := hBn; clear hBn
                  obtain ⟨y178, rfl, hbx, hqt⟩ := hP
                  have ed5 := sg_eda F hB
                  have hI178 := inv_Qt hI3 hqt ed5
                  have tL5 : sgT σ178 le = 5 := (hqt.1 le (by rw [tle3]; decide)).1.trans tle3
                  have sL5 : sgSz σ178 le = sgSz σ3 le := sgSz_Qt hqt tle3
                  have z5 := zR_Qt hI3 hqt ed5 tl3
                  obtain ⟨ra181, za181, zb181⟩ := (inv_LS hI178).1 _ tL5 id
                  refine sg_callV (ci := 4) F hB (m_add l D cy za181 (fun j y h1 h2 => (inv_LS hI178).2.2.1 ra181 j y h1 h2) y178 (iEl_K (l0 := _) (g := g) (j := 0) (by unfold iEl; rw [rle]; exact hbx)) zb181 _) (cwV 1 F.1.2.2.2.2 (mgV (mm_3 _ (List.mem_of_getElem? (i := 9) rfl)) (mm_3 _ (List.mem_of_getElem? (i := 10) rfl)) (mm_3 _ (List.mem_of_getElem? (i := 11) rfl)) (mm_0 _ (List.mem_of_getElem? (i := 35) rfl)) (mm_2 _ (List.mem_of_getElem? (i := 29) rfl))) rfl rfl rfl ⟨rfl, by decide, by decide, by decide +kernel⟩ ⟨Nat.le_of_ble_eq_true rfl, Nat.le_of_ble_eq_true rfl⟩) rfl rfl (by decide) rfl hl.1 rfl (Nat.le_of_ble_eq_true rfl) dX14_sounds_181 (by show _ ≤ 18; omega) (Nat.add_le_add_right (by omega) _) tL5 (fun H locs v σ181 N hBn hX181 hP => ?_)
                  clear hB; have hB := hBn; clear hBn
                  obtain ⟨rfl, hAd181⟩ := hP
                  obtain ⟨hI181, ada181, adb181, adc181, add181, ade181, adf181, adg181, adh181⟩ := inv_ad hI178 tL5 za181 hAd181 (sg_eda F hB) (by unfold iEl; rw [rle]; exact hbx) (by rw [rle]; refine inv_cap ?_ (Or.inr rfl); rw [sL5]; omega) (Or.inl ⟨inv_nD hI178 (by rw [rle]; decide), rfl⟩) (nr7 rle (by decide))
                  have z181 : zR l1 σ σ181 := zR_tr hzr (zR_tr z5 (zR_l (l2 := le) add181 adf181 adg181 adh181 (tFr_T z5.1 tl3 (by decide)) nle))
                  refine lv_pop hx hb dX14_sounds_184 rfl ?_
                  refine lv_iinc (lv' := [(7, .int _), (8, .int _), (6, .ref _), (5, .ref _), (4, .int _), (3, .int _), (2, .ref _), (1, .int _), (0, .ref _)]) hx hb dX14_sounds_185 hl (k := 1) rfl rfl (by decide) rfl (fun ls hl => ?_)
                  refine lv_goto (tgt := 89) hx hb dX14_sounds_188 (by decide) ?_
                  have hi3 := i_nle c92
                  have e9 : (k9 + Int32.ofInt 1).toInt = k9.toInt + 1 := m_add1 (by omega) (by omega)
                  first
                    | exact ih89 _ (by subst hd89; rw [e9]; omega) _ _ _ _ _ _ _ _ hB (lv_sub hl [0, 2, 3, 4, 5, 6, 7, 8] rfl) hI181 ⟨by rw [e9]; omega, by rw [e9]; omega⟩ (by rw [e9, ada181, sL5]; omega) ⟨by rw [e9]; show kc + 1 + 1 ≤ _; omega, by rw [e9]; omega⟩ z181 rfl
                    | exact ih89 _ (by subst hd89; rw [e9]; omega) _ _ _ _ _ _ _ _ hB (lv_sub hl [0, 2, 3, 4, 5, 6, 7, 8] rfl) hI3 ⟨by rw [e9]; omega, by rw [e9]; omega⟩ (by rw [e9]; omega) ⟨by rw [e9]; omega, by rw [e9]; omega⟩ hzr rfl
          · refine lv_iload hx hb dX14_sounds_70 (lv_at hl 6 rfl) ?_
            refine lv_bipush (v := 97) hx hb dX14_sounds_72 (by decide) ?_
            refine lv_icmp_ne (tgt := 81) hx hb dX14_sounds_74 (by decide) (fun c74 => ?_) (fun c74 => ?_)
            · refine lv_iconst (v := 0) hx hb dX14_sounds_81 (by decide) ?_
              refine lv_iadd hx hb dX14_sounds_82 ?_
              refine pf_X14_366 F hB dX14_sounds_83 (inv_A h) (fun H locs hBn => ?_)
              clear hB; have hB := hBn; clear hBn
              have hI83 := inv_PIc (t := 20) hB h (inv_A h) (by unfold iCn; omega)
              have z83 := zPIB (l1 := l1) (t := 20) hB (inv_A h) (by decide) tl
              have hb0 := i_nle c48
              rw [m_i0] at hb0
              obtain ⟨kc, hkc⟩ : ∃ kc : Nat, kc = 0 := ⟨_, rfl⟩
              refine W.widen (k := kc) (n := N) (by omega) (Nat.le_refl _) ?_
              refine lv_iconst (v := 0) hx hb dX14_sounds_86 (by decide) ?_
              refine lv_istore (lv' := [(7, .int _), (6, .ref _), (5, .ref _), (0, .ref _), (1, .int _), (2, .ref _), (3, .int _), (4, .int _)]) hx hb dX14_sounds_87 hl (by decide) rfl (fun ls hl => ?_)
              have key89 : ∃ (σ3 : SG) (k9 : Int32) (nc : Nat), sgB D cy s σ σ3 H locs N nc ∧ lv_has ls 9 [(7, .int k9), (6, .ref t0), (5, .ref pp), (4, .int f0), (3, .int b), (2, .ref xe), (1, .int x), (0, .ref (kA K))] ∧ Inv eda ia K g n S hw σ3 ∧ (0 ≤ k9.toInt ∧ k9.toInt ≤ b.toInt) ∧ sgSz σ3 le ≤ sgSz σ le + k9.toInt.toNat ∧ (kc ≤ 2 * k9.toInt.toNat ∧ nc ≤ 16 * k9.toInt.toNat) ∧ zR l1 σ σ3 := ⟨_, _, _, hB, (lv_sub hl [0, 1, 2, 7, 6, 5, 4, 3] rfl), hI83, ⟨by decide, by rw [m_i0]; omega⟩, by rw [m_i0]; exact Nat.le_of_eq (sgSz_nk (by decide)), ⟨by omega, by omega⟩, z83⟩
              clear hB hl hkc
              obtain ⟨σ3, k9, nc, hB, hl, hI3, hi, hzl, hkn, hzr⟩ := key89
              obtain ⟨d89, hd89⟩ : ∃ d : Nat, d = (b.toInt - k9.toInt).toNat := ⟨_, rfl⟩
              induction d89 using Nat.strongRecOn generalizing H locs ls N σ3 k9 nc kc
              rename_i d89 ih89
              have tx3 : sgT σ3 xe = 17 := tFr_T hzr.1 txe (by decide)
              have tp3 : sgT σ3 pp = 18 := tFr_T hzr.1 tp (by decide)
              have tle3 : sgT σ3 le = 5 := tFr_T hzr.1 tle (by decide)
              have hle3 : sgR σ3 xe 3 = some le := (hzr.2.2.2.2.1 xe 3 (by rw [txe]; decide)).trans hle
              have tl3 : sgT σ3 l1 = 5 := tFr_T hzr.1 tl (by decide)
              have tt3 : sgT σ3 t0 = 19 := tFr_T hzr.1 tt (by decide)
              have d3 : sgI σ3 t0 2 = sgI σ t0 2 := hzr.2.1 t0 2 tt
              have x03 : sgI σ3 xe 0 = sgI σ xe 0 := hzr.2.2.2.1 xe 0 txe (by decide)
              refine lv_iload hx hb dX14_sounds_89 (lv_at hl 0 rfl) ?_
              refine lv_iload_n hx hb dX14_sounds_91 rfl (lv_at hl 4 rfl) ?_
              refine lv_icmp_ge (tgt := 191) hx hb dX14_sounds_92 (by decide) (fun c92 => ?_) (fun c92 => ?_)
              · have hi4 := i_le c92
                refine W.widen (k := 16) (n := N) (show kc ≤ 16 from by omega) (Nat.le_refl _) ?_
                have hBn := sgB_up (n2 := 128) hB (show nc ≤ 128 from by omega)
                clear hB; have hB := hBn; clear hBn
                refine lv_aload hx hb dX14_sounds_191 (lv_at hl 1 rfl) ?_
                refine lv_dup hx hb dX14_sounds_193 rfl ?_
                refine gf_X14_284 F hB dX14_sounds_194 tt3 ?_
                refine lv_iload_n hx hb dX14_sounds_197 rfl (lv_at hl 4 rfl) ?_
                refine lv_iadd hx hb dX14_sounds_198 ?_
                refine pf_X14_284 F hB dX14_sounds_199 tt3 (fun H locs hBn => ?_)
                clear hB; have hB := hBn; clear hBn
                have hI199 := inv_dnB hB hI3 tt3
                have w3 := wPp_z h wc hzr
                have wB := wPp_hB hB (wPp_PI w3 (Or.inr ⟨fun z => absurd (tt3.symm.trans z) (by decide), fun z => absurd (tt3.symm.trans z) (by decide)⟩) tp3 tl3)
                have hB199 := hB
                have i3 := iW_tr hzr.1 (inv_T h) tt (hzr.2.1 t0 1 tt) (hzr.2.1 t0 2 tt) x03 (hzr.2.2.2.2.1 t0 0 (by rw [tt]; decide)) ⟨iw1, iw2, iw3, iw4⟩
                refine lv_aload hx hb dX14_sounds_202 (lv_at hl 1 rfl) ?_
                refine lv_aload hx hb dX14_sounds_204 (lv_at hl 1 rfl) ?_
                refine gf_X14_371 F hB dX14_sounds_206 (by exact tt3) ?_
                refine lv_if_ne (tgt := 219) hx hb dX14_sounds_209 (by decide) (fun c209 => ?_) (fun c209 => ?_)
                · refine lv_iconst (v := 1) hx hb dX14_sounds_219 (by decide) ?_
                  refine lv_goto (tgt := 224) hx hb dX14_sounds_220 (by decide) ?_
                  refine pf_X14_371 F hB dX14_sounds_224 (by exact tt3) ⟨by decide, by decide⟩ (fun H locs hBn => ?_)
                  clear hB; have hB := hBn; clear hBn
                  have hI224 := inv_PIc (t := 19) hB hI199 (by exact tt3) (by unfold iCn; omega)
                  have wC := wPp_hB4 hB (wPp_PI wB (Or.inr ⟨fun z => absurd (tt3.symm.trans z) (by decide), fun z => absurd (tt3.symm.trans z) (by decide)⟩) (by exact tp3) (by exact tl3))
                  have hBC := hB
                  refine lv_aload hx hb dX14_sounds_227 (lv_at hl 1 rfl) ?_
                  refine gf_X14_284 F hB dX14_sounds_229 (by exact tt3) ?_
                  refine lv_aload hx hb dX14_sounds_232 (lv_at hl 1 rfl) ?_
                  refine gf_X14_338 F hB dX14_sounds_234 (by exact tt3) ?_
                  refine lv_icmp_lt (tgt := 263) hx hb dX14_sounds_237 (by decide) (fun c237 => ?_) (fun c237 => ?_)
                  · refine lv_aload_n hx hb dX14_sounds_263 rfl (lv_at hl 5 rfl) ?_
                    refine gf_X14_300 F hB dX14_sounds_264 (by exact tx3) ?_
                    refine lv_if_eq (tgt := 285) hx hb dX14_sounds_267 (by decide) (fun c267 => ?_) (fun c267 => ((c267 ((((sgI_nk (by decide)).trans (sgI_nk (by decide))).trans x03).trans hin)) : False).elim)
                    first
                      | have hfin := hI257b
                      | have hfin := hI282b
                      | have hfin := inv_dnw hI224 wC (iW_C hBC (iW_L hB199 i3 tt3 tx3 hbb.1 hbb.2 (m_ltC hBC i3 hbb.1 hbb.2 c237)))
                      | have hfin : Inv eda ia K g n S hw _ := hI224
                    refine lv_iconst (v := 1) hx hb dX14_sounds_285 (by decide) ?_
                    exact sg_iret F hB hrt dX14_sounds_286 (by omega) (by omega) (⟨⟨_, rfl, Or.inl rfl⟩, hfin⟩)
                  · obtain ⟨m1, hm1⟩ := m_evm hB (K := K)
                    refine lv_aload_n hx hb dX14_sounds_240 rfl (lv_at hl 7 rfl) ?_
                    refine lv_iload_n hx hb dX14_sounds_241 rfl (lv_at hl 6 rfl) ?_
                    refine lv_aload hx hb dX14_sounds_242 (lv_at hl 1 rfl) ?_
                    refine gf_X14_371 F hB dX14_sounds_244 (by exact tt3) ?_
                    refine lv_if_eq (tgt := 255) hx hb dX14_sounds_247 (by decide) (fun c247 => ?_) (fun c247 => ?_)
                    · refine lv_bipush (v := 100) hx hb dX14_sounds_255 (by decide) ?_
                      refine sg_callV (ci := 19) F hB (m_ends l D cy hI224 x _ wC.1.1 wC.1.2 wC.2.1 wC.2.2.1 wC.2.2.2.1 hm1 _) (cwV 2 F.1.2.2.2.2 (mgV (mm_5 _ (List.mem_of_getElem? (i := 33) rfl)) (mm_5 _ (List.mem_of_getElem? (i := 34) rfl)) (mm_5 _ (List.mem_of_getElem? (i := 35) rfl)) (mm_3 _ (List.mem_of_getElem? (i := 23) rfl)) (mm_5 _ (List.mem_of_getElem? (i := 32) rfl))) rfl rfl rfl ⟨rfl, by decide, by decide, by decide +kernel⟩ ⟨Nat.le_of_ble_eq_true rfl, Nat.le_of_ble_eq_true rfl⟩) rfl rfl (by decide) rfl hl.1 rfl (Nat.le_of_ble_eq_true rfl) dX14_sounds_257 (Nat.le_trans (show _ ≤ 18 from by omega) (Nat.le_of_ble_eq_true rfl)) (Nat.add_le_add_right (Nat.le_trans (show _ ≤ 146 from by omega) (Nat.le_of_ble_eq_true rfl)) _) (inv_A hI224) (fun H locs v σ257 N hBn hX257 hP => ?_)
                      clear hB; have hB := hBn; clear hBn
                      refine W.widen (k := 18) (n := N) (show _ ≤ 18 from by omega) (Nat.le_refl _) ?_
                      have hBn := sgB_up (n2 := 146) hB (show _ ≤ 146 from by omega)
                      clear hB; have hB := hBn; clear hBn
                      obtain ⟨rfl, hI257, en1_257, en2_257, en3_257, en4_257⟩ := hP
                      have hI257b := inv_dne hI224 wC hI257 en1_257 en2_257 en4_257
                      refine lv_goto (tgt := 285) hx hb dX14_sounds_260 (by decide) ?_
                      first
                        | have hfin := hI257b
                        | have hfin := hI282b
                        | have hfin := inv_dnw hI257b wC (iW_C hBC (iW_L hB199 i3 tt3 tx3 hbb.1 hbb.2 (m_ltC hBC i3 hbb.1 hbb.2 c237)))
                        | have hfin : Inv eda ia K g n S hw _ := hI257b
                      refine lv_iconst (v := 1) hx hb dX14_sounds_285 (by decide) ?_
                      exact sg_iret F hB hrt dX14_sounds_286 (by omega) (by omega) (⟨⟨_, rfl, Or.inl rfl⟩, hfin⟩)
                    · refine lv_bipush (v := 108) hx hb dX14_sounds_250 (by decide) ?_
                      refine lv_goto (tgt := 257) hx hb dX14_sounds_252 (by decide) ?_
                      refine sg_callV (ci := 19) F hB (m_ends l D cy hI224 x _ wC.1.1 wC.1.2 wC.2.1 wC.2.2.1 wC.2.2.2.1 hm1 _) (cwV 2 F.1.2.2.2.2 (mgV (mm_5 _ (List.mem_of_getElem? (i := 33) rfl)) (mm_5 _ (List.mem_of_getElem? (i := 34) rfl)) (mm_5 _ (List.mem_of_getElem? (i := 35) rfl)) (mm_3 _ (List.mem_of_getElem? (i := 23) rfl)) (mm_5 _ (List.mem_of_getElem? (i := 32) rfl))) rfl rfl rfl ⟨rfl, by decide, by decide, by decide +kernel⟩ ⟨Nat.le_of_ble_eq_true rfl, Nat.le_of_ble_eq_true rfl⟩) rfl rfl (by decide) rfl hl.1 rfl (Nat.le_of_ble_eq_true rfl) dX14_sounds_257 (Nat.le_trans (show _ ≤ 18 from by omega) (Nat.le_of_ble_eq_true rfl)) (Nat.add_le_add_right (Nat.le_trans (show _ ≤ 146 from by omega) (Nat.le_of_ble_eq_true rfl)) _) (inv_A hI224) (fun H locs v σ257 N hBn hX257 hP => ?_)
                      clear hB; have hB := hBn; clear hBn
                      refine W.widen (k := 18) (n := N) (show _ ≤ 18 from by omega) (Nat.le_refl _) ?_
                      have hBn := sgB_up (n2 := 146) hB (show _ ≤ 146 from by omega)
                      clear hB; have hB := hBn; clear hBn
                      obtain ⟨rfl, hI257, en1_257, en2_257, en3_257, en4_257⟩ := hP
                      have hI257b := inv_dne hI224 wC hI257 en1_257 en2_257 en4_257
                      refine lv_goto (tgt := 285) hx hb dX14_sounds_260 (by decide) ?_
                      first
                        | have hfin := hI257b
                        | have hfin := hI282b
                        | have hfin := inv_dnw hI257b wC (iW_C hBC (iW_L hB199 i3 tt3 tx3 hbb.1 hbb.2 (m_ltC hBC i3 hbb.1 hbb.2 c237)))
                        | have hfin : Inv eda ia K g n S hw _ := hI257b
                      refine lv_iconst (v := 1) hx hb dX14_sounds_285 (by decide) ?_
                      exact sg_iret F hB hrt dX14_sounds_286 (by omega) (by omega) (⟨⟨_, rfl, Or.inl rfl⟩, hfin⟩)
                · refine lv_iload hx hb dX14_sounds_212 (lv_at hl 3 rfl) ?_
                  refine lv_bipush (v := 32) hx hb dX14_sounds_214 (by decide) ?_
                  refine lv_icmp_eq (tgt := 223) hx hb dX14_sounds_216 (by decide) (fun c216 => ?_) (fun c216 => ?_)
                  · refine lv_iconst (v := 0) hx hb dX14_sounds_223 (by decide) ?_
                    refine pf_X14_371 F hB dX14_sounds_224 (by exact tt3) ⟨by decide, by decide⟩ (fun H locs hBn => ?_)
                    clear hB; have hB := hBn; clear hBn
                    have hI224 := inv_PIc (t := 19) hB hI199 (by exact tt3) (by unfold iCn; omega)
                    have wC := wPp_hB4 hB (wPp_PI wB (Or.inr ⟨fun z => absurd (tt3.symm.trans z) (by decide), fun z => absurd (tt3.symm.trans z) (by decide)⟩) (by exact tp3) (by exact tl3))
                    have hBC := hB
                    refine lv_aload hx hb dX14_sounds_227 (lv_at hl 1 rfl) ?_
                    refine gf_X14_284 F hB dX14_sounds_229 (by exact tt3) ?_
                    refine lv_aload hx hb dX14_sounds_232 (lv_at hl 1 rfl) ?_
                    refine gf_X14_338 F hB dX14_sounds_234 (by exact tt3) ?_
                    refine lv_icmp_lt (tgt := 263) hx hb dX14_sounds_237 (by decide) (fun c237 => ?_) (fun c237 => ?_)
                    · refine lv_aload_n hx hb dX14_sounds_263 rfl (lv_at hl 5 rfl) ?_
                      refine gf_X14_300 F hB dX14_sounds_264 (by exact tx3) ?_
                      refine lv_if_eq (tgt := 285) hx hb dX14_sounds_267 (by decide) (fun c267 => ?_) (fun c267 => ((c267 ((((sgI_nk (by decide)).trans (sgI_nk (by decide))).trans x03).trans hin)) : False).elim)
                      first
                        | have hfin := hI257b
                        | have hfin := hI282b
                        | have hfin := inv_dnw hI224 wC (iW_C hBC (iW_L hB199 i3 tt3 tx3 hbb.1 hbb.2 (m_ltC hBC i3 hbb.1 hbb.2 c237)))
                        | have hfin : Inv eda ia K g n S hw _ := hI224
                      refine lv_iconst (v := 1) hx hb dX14_sounds_285 (by decide) ?_
                      exact sg_iret F hB hrt dX14_sounds_286 (by omega) (by omega) (⟨⟨_, rfl, Or.inl rfl⟩, hfin⟩)
                    · obtain ⟨m1, hm1⟩ := m_evm hB (K := K)
                      refine lv_aload_n hx hb dX14_sounds_240 rfl (lv_at hl 7 rfl) ?_
                      refine lv_iload_n hx hb dX14_sounds_241 rfl (lv_at hl 6 rfl) ?_
                      refine lv_aload hx hb dX14_sounds_242 (lv_at hl 1 rfl) ?_
                      refine gf_X14_371 F hB dX14_sounds_244 (by exact tt3) ?_
                      refine lv_if_eq (tgt := 255) hx hb dX14_sounds_247 (by decide) (fun c247 => ?_) (fun c247 => ?_)
                      · refine lv_bipush (v := 100) hx hb dX14_sounds_255 (by decide) ?_
                        refine sg_callV (ci := 19) F hB (m_ends l D cy hI224 x _ wC.1.1 wC.1.2 wC.2.1 wC.2.2.1 wC.2.2.2.1 hm1 _) (cwV 2 F.1.2.2.2.2 (mgV (mm_5 _ (List.mem_of_getElem? (i := 33) rfl)) (mm_5 _ (List.mem_of_getElem? (i := 34) rfl)) (mm_5 _ (List.mem_of_getElem? (i := 35) rfl)) (mm_3 _ (List.mem_of_getElem? (i := 23) rfl)) (mm_5 _ (List.mem_of_getElem? (i := 32) rfl))) rfl rfl rfl ⟨rfl, by decide, by decide, by decide +kernel⟩ ⟨Nat.le_of_ble_eq_true rfl, Nat.le_of_ble_eq_true rfl⟩) rfl rfl (by decide) rfl hl.1 rfl (Nat.le_of_ble_eq_true rfl) dX14_sounds_257 (Nat.le_trans (show _ ≤ 18 from by omega) (Nat.le_of_ble_eq_true rfl)) (Nat.add_le_add_right (Nat.le_trans (show _ ≤ 146 from by omega) (Nat.le_of_ble_eq_true rfl)) _) (inv_A hI224) (fun H locs v σ257 N hBn hX257 hP => ?_)
                        clear hB; have hB := hBn; clear hBn
                        refine W.widen (k := 18) (n := N) (show _ ≤ 18 from by omega) (Nat.le_refl _) ?_
                        have hBn := sgB_up (n2 := 146) hB (show _ ≤ 146 from by omega)
                        clear hB; have hB := hBn; clear hBn
                        obtain ⟨rfl, hI257, en1_257, en2_257, en3_257, en4_257⟩ := hP
                        have hI257b := inv_dne hI224 wC hI257 en1_257 en2_257 en4_257
                        refine lv_goto (tgt := 285) hx hb dX14_sounds_260 (by decide) ?_
                        first
                          | have hfin := hI257b
                          | have hfin := hI282b
                          | have hfin := inv_dnw hI257b wC (iW_C hBC (iW_L hB199 i3 tt3 tx3 hbb.1 hbb.2 (m_ltC hBC i3 hbb.1 hbb.2 c237)))
                          | have hfin : Inv eda ia K g n S hw _ := hI257b
                        refine lv_iconst (v := 1) hx hb dX14_sounds_285 (by decide) ?_
                        exact sg_iret F hB hrt dX14_sounds_286 (by omega) (by omega) (⟨⟨_, rfl, Or.inl rfl⟩, hfin⟩)
                      · refine lv_bipush (v := 108) hx hb dX14_sounds_250 (by decide) ?_
                        refine lv_goto (tgt := 257) hx hb dX14_sounds_252 (by decide) ?_
                        refine sg_callV (ci := 19) F hB (m_ends l D cy hI224 x _ wC.1.1 wC.1.2 wC.2.1 wC.2.2.1 wC.2.2.2.1 hm1 _) (cwV 2 F.1.2.2.2.2 (mgV (mm_5 _ (List.mem_of_getElem? (i := 33) rfl)) (mm_5 _ (List.mem_of_getElem? (i := 34) rfl)) (mm_5 _ (List.mem_of_getElem? (i := 35) rfl)) (mm_3 _ (List.mem_of_getElem? (i := 23) rfl)) (mm_5 _ (List.mem_of_getElem? (i := 32) rfl))) rfl rfl rfl ⟨rfl, by decide, by decide, by decide +kernel⟩ ⟨Nat.le_of_ble_eq_true rfl, Nat.le_of_ble_eq_true rfl⟩) rfl rfl (by decide) rfl hl.1 rfl (Nat.le_of_ble_eq_true rfl) dX14_sounds_257 (Nat.le_trans (show _ ≤ 18 from by omega) (Nat.le_of_ble_eq_true rfl)) (Nat.add_le_add_right (Nat.le_trans (show _ ≤ 146 from by omega) (Nat.le_of_ble_eq_true rfl)) _) (inv_A hI224) (fun H locs v σ257 N hBn hX257 hP => ?_)
                        clear hB; have hB := hBn; clear hBn
                        refine W.widen (k := 18) (n := N) (show _ ≤ 18 from by omega) (Nat.le_refl _) ?_
                        have hBn := sgB_up (n2 := 146) hB (show _ ≤ 146 from by omega)
                        clear hB; have hB := hBn; clear hBn
                        obtain ⟨rfl, hI257, en1_257, en2_257, en3_257, en4_257⟩ := hP
                        have hI257b := inv_dne hI224 wC hI257 en1_257 en2_257 en4_257
                        refine lv_goto (tgt := 285) hx hb dX14_sounds_260 (by decide) ?_
                        first
                          | have hfin := hI257b
                          | have hfin := hI282b
                          | have hfin := inv_dnw hI257b wC (iW_C hBC (iW_L hB199 i3 tt3 tx3 hbb.1 hbb.2 (m_ltC hBC i3 hbb.1 hbb.2 c237)))
                          | have hfin : Inv eda ia K g n S hw _ := hI257b
                        refine lv_iconst (v := 1) hx hb dX14_sounds_285 (by decide) ?_
                        exact sg_iret F hB hrt dX14_sounds_286 (by omega) (by omega) (⟨⟨_, rfl, Or.inl rfl⟩, hfin⟩)
                  · refine lv_iconst (v := 1) hx hb dX14_sounds_219 (by decide) ?_
                    refine lv_goto (tgt := 224) hx hb dX14_sounds_220 (by decide) ?_
                    refine pf_X14_371 F hB dX14_sounds_224 (by exact tt3) ⟨by decide, by decide⟩ (fun H locs hBn => ?_)
                    clear hB; have hB := hBn; clear hBn
                    have hI224 := inv_PIc (t := 19) hB hI199 (by exact tt3) (by unfold iCn; omega)
                    have wC := wPp_hB4 hB (wPp_PI wB (Or.inr ⟨fun z => absurd (tt3.symm.trans z) (by decide), fun z => absurd (tt3.symm.trans z) (by decide)⟩) (by exact tp3) (by exact tl3))
                    have hBC := hB
                    refine lv_aload hx hb dX14_sounds_227 (lv_at hl 1 rfl) ?_
                    refine gf_X14_284 F hB dX14_sounds_229 (by exact tt3) ?_
                    refine lv_aload hx hb dX14_sounds_232 (lv_at hl 1 rfl) ?_
                    refine gf_X14_338 F hB dX14_sounds_234 (by exact tt3) ?_
                    refine lv_icmp_lt (tgt := 263) hx hb dX14_sounds_237 (by decide) (fun c237 => ?_) (fun c237 => ?_)
                    · refine lv_aload_n hx hb dX14_sounds_263 rfl (lv_at hl 5 rfl) ?_
                      refine gf_X14_300 F hB dX14_sounds_264 (by exact tx3) ?_
                      refine lv_if_eq (tgt := 285) hx hb dX14_sounds_267 (by decide) (fun c267 => ?_) (fun c267 => ((c267 ((((sgI_nk (by decide)).trans (sgI_nk (by decide))).trans x03).trans hin)) : False).elim)
                      first
                        | have hfin := hI257b
                        | have hfin := hI282b
                        | have hfin := inv_dnw hI224 wC (iW_C hBC (iW_L hB199 i3 tt3 tx3 hbb.1 hbb.2 (m_ltC hBC i3 hbb.1 hbb.2 c237)))
                        | have hfin : Inv eda ia K g n S hw _ := hI224
                      refine lv_iconst (v := 1) hx hb dX14_sounds_285 (by decide) ?_
                      exact sg_iret F hB hrt dX14_sounds_286 (by omega) (by omega) (⟨⟨_, rfl, Or.inl rfl⟩, hfin⟩)
                    · obtain ⟨m1, hm1⟩ := m_evm hB (K := K)
                      refine lv_aload_n hx hb dX14_sounds_240 rfl (lv_at hl 7 rfl) ?_
                      refine lv_iload_n hx hb dX14_sounds_241 rfl (lv_at hl 6 rfl) ?_
                      refine lv_aload hx hb dX14_sounds_242 (lv_at hl 1 rfl) ?_
                      refine gf_X14_371 F hB dX14_sounds_244 (by exact tt3) ?_
                      refine lv_if_eq (tgt := 255) hx hb dX14_sounds_247 (by decide) (fun c247 => ?_) (fun c247 => ?_)
                      · refine lv_bipush (v := 100) hx hb dX14_sounds_255 (by decide) ?_
                        refine sg_callV (ci := 19) F hB (m_ends l D cy hI224 x _ wC.1.1 wC.1.2 wC.2.1 wC.2.2.1 wC.2.2.2.1 hm1 _) (cwV 2 F.1.2.2.2.2 (mgV (mm_5 _ (List.mem_of_getElem? (i := 33) rfl)) (mm_5 _ (List.mem_of_getElem? (i := 34) rfl)) (mm_5 _ (List.mem_of_getElem? (i := 35) rfl)) (mm_3 _ (List.mem_of_getElem? (i := 23) rfl)) (mm_5 _ (List.mem_of_getElem? (i := 32) rfl))) rfl rfl rfl ⟨rfl, by decide, by decide, by decide +kernel⟩ ⟨Nat.le_of_ble_eq_true rfl, Nat.le_of_ble_eq_true rfl⟩) rfl rfl (by decide) rfl hl.1 rfl (Nat.le_of_ble_eq_true rfl) dX14_sounds_257 (Nat.le_trans (show _ ≤ 18 from by omega) (Nat.le_of_ble_eq_true rfl)) (Nat.add_le_add_right (Nat.le_trans (show _ ≤ 146 from by omega) (Nat.le_of_ble_eq_true rfl)) _) (inv_A hI224) (fun H locs v σ257 N hBn hX257 hP => ?_)
                        clear hB; have hB := hBn; clear hBn
                        refine W.widen (k := 18) (n := N) (show _ ≤ 18 from by omega) (Nat.le_refl _) ?_
                        have hBn := sgB_up (n2 := 146) hB (show _ ≤ 146 from by omega)
                        clear hB; have hB := hBn; clear hBn
                        obtain ⟨rfl, hI257, en1_257, en2_257, en3_257, en4_257⟩ := hP
                        have hI257b := inv_dne hI224 wC hI257 en1_257 en2_257 en4_257
                        refine lv_goto (tgt := 285) hx hb dX14_sounds_260 (by decide) ?_
                        first
                          | have hfin := hI257b
                          | have hfin := hI282b
                          | have hfin := inv_dnw hI257b wC (iW_C hBC (iW_L hB199 i3 tt3 tx3 hbb.1 hbb.2 (m_ltC hBC i3 hbb.1 hbb.2 c237)))
                          | have hfin : Inv eda ia K g n S hw _ := hI257b
                        refine lv_iconst (v := 1) hx hb dX14_sounds_285 (by decide) ?_
                        exact sg_iret F hB hrt dX14_sounds_286 (by omega) (by omega) (⟨⟨_, rfl, Or.inl rfl⟩, hfin⟩)
                      · refine lv_bipush (v := 108) hx hb dX14_sounds_250 (by decide) ?_
                        refine lv_goto (tgt := 257) hx hb dX14_sounds_252 (by decide) ?_
                        refine sg_callV (ci := 19) F hB (m_ends l D cy hI224 x _ wC.1.1 wC.1.2 wC.2.1 wC.2.2.1 wC.2.2.2.1 hm1 _) (cwV 2 F.1.2.2.2.2 (mgV (mm_5 _ (List.mem_of_getElem? (i := 33) rfl)) (mm_5 _ (List.mem_of_getElem? (i := 34) rfl)) (mm_5 _ (List.mem_of_getElem? (i := 35) rfl)) (mm_3 _ (List.mem_of_getElem? (i := 23) rfl)) (mm_5 _ (List.mem_of_getElem? (i := 32) rfl))) rfl rfl rfl ⟨rfl, by decide, by decide, by decide +kernel⟩ ⟨Nat.le_of_ble_eq_true rfl, Nat.le_of_ble_eq_true rfl⟩) rfl rfl (by decide) rfl hl.1 rfl (Nat.le_of_ble_eq_true rfl) dX14_sounds_257 (Nat.le_trans (show _ ≤ 18 from by omega) (Nat.le_of_ble_eq_true rfl)) (Nat.add_le_add_right (Nat.le_trans (show _ ≤ 146 from by omega) (Nat.le_of_ble_eq_true rfl)) _) (inv_A hI224) (fun H locs v σ257 N hBn hX257 hP => ?_)
                        clear hB; have hB := hBn; clear hBn
                        refine W.widen (k := 18) (n := N) (show _ ≤ 18 from by omega) (Nat.le_refl _) ?_
                        have hBn := sgB_up (n2 := 146) hB (show _ ≤ 146 from by omega)
                        clear hB; have hB := hBn; clear hBn
                        obtain ⟨rfl, hI257, en1_257, en2_257, en3_257, en4_257⟩ := hP
                        have hI257b := inv_dne hI224 wC hI257 en1_257 en2_257 en4_257
                        refine lv_goto (tgt := 285) hx hb dX14_sounds_260 (by decide) ?_
                        first
                          | have hfin := hI257b
                          | have hfin := hI282b
                          | have hfin := inv_dnw hI257b wC (iW_C hBC (iW_L hB199 i3 tt3 tx3 hbb.1 hbb.2 (m_ltC hBC i3 hbb.1 hbb.2 c237)))
                          | have hfin : Inv eda ia K g n S hw _ := hI257b
                        refine lv_iconst (v := 1) hx hb dX14_sounds_285 (by decide) ?_
                        exact sg_iret F hB hrt dX14_sounds_286 (by omega) (by omega) (⟨⟨_, rfl, Or.inl rfl⟩, hfin⟩)
              · have hi4 := i_nle c92
                refine lv_aload_n hx hb dX14_sounds_95 rfl (lv_at hl 5 rfl) ?_
                refine gf_X14_300 F hB dX14_sounds_96 tx3 ?_
                refine lv_if_eq (tgt := 119) hx hb dX14_sounds_99 (by decide) (fun c99 => ?_) (fun c99 => ((c99 ((x03).trans hin)) : False).elim)
                obtain ⟨bt, ht0, tbt, nbt⟩ := inv_T hI3 t0 tt3
                obtain ⟨bt1, ht1, tbt1, nbt1⟩ := inv_T h t0 tt
                have ebt : bt = bt1 := Option.some.inj (ht0.symm.trans ((hzr.2.2.2.2.1 t0 0 (by rw [tt]; decide)).trans ht1))
                have nb3 : sgN σ3 bt = sgN σ bt := by rw [ebt]; exact tFr_N hzr.1 tbt1 (by decide)
                have iw5 := iw4 hin bt (by rw [ebt]; exact ht1)
                have eix : (sgI σ3 t0 2 + k9).toInt = (sgI σ t0 2).toInt + k9.toInt := by rw [d3]; exact m_addb (by omega) (by omega) (by omega) (by omega)
                refine lv_aload hx hb dX14_sounds_119 (lv_at hl 1 rfl) ?_
                refine gr_X14_369 F hB dX14_sounds_121 tt3 ht0 ?_
                refine lv_aload hx hb dX14_sounds_124 (lv_at hl 1 rfl) ?_
                refine gf_X14_284 F hB dX14_sounds_126 tt3 ?_
                refine lv_iload hx hb dX14_sounds_129 (lv_at hl 0 rfl) ?_
                refine lv_iadd hx hb dX14_sounds_131 ?_
                refine sg_iald hx hb F.2.1 hB.1 dX14_sounds_132 tbt (by omega) (by omega) (by omega) ?_
                refine lv_istore (lv' := [(8, .int _), (7, .int _), (6, .ref _), (5, .ref _), (4, .int _), (3, .int _), (2, .ref _), (1, .int _), (0, .ref _)]) hx hb dX14_sounds_133 hl (by decide) rfl (fun ls hl => ?_)
                refine lv_iload hx hb dX14_sounds_135 (lv_at hl 4 rfl) ?_
                refine lv_bipush (v := 32) hx hb dX14_sounds_137 (by decide) ?_
                refine lv_icmp_ne (tgt := 165) hx hb dX14_sounds_139 (by decide) (fun c139 => ?_) (fun c139 => ?_)
                · refine lv_iload hx hb dX14_sounds_165 (lv_at hl 4 rfl) ?_
                  refine lv_bipush (v := 32) hx hb dX14_sounds_167 (by decide) ?_
                  refine lv_icmp_ne (tgt := 185) hx hb dX14_sounds_169 (by decide) (fun c169 => ?_) (fun c169 => ?_)
                  · refine lv_iinc (lv' := [(7, .int _), (8, .int _), (6, .ref _), (5, .ref _), (4, .int _), (3, .int _), (2, .ref _), (1, .int _), (0, .ref _)]) hx hb dX14_sounds_185 hl (k := 1) rfl rfl (by decide) rfl (fun ls hl => ?_)
                    refine lv_goto (tgt := 89) hx hb dX14_sounds_188 (by decide) ?_
                    have hi3 := i_nle c92
                    have e9 : (k9 + Int32.ofInt 1).toInt = k9.toInt + 1 := m_add1 (by omega) (by omega)
                    first
                      | exact ih89 _ (by subst hd89; rw [e9]; omega) _ _ _ _ _ _ _ _ hB (lv_sub hl [0, 2, 3, 4, 5, 6, 7, 8] rfl) hI181 ⟨by rw [e9]; omega, by rw [e9]; omega⟩ (by rw [e9, ada181, sL5]; omega) ⟨by rw [e9]; show kc + 1 + 1 ≤ _; omega, by rw [e9]; omega⟩ z181 rfl
                      | exact ih89 _ (by subst hd89; rw [e9]; omega) _ _ _ _ _ _ _ _ hB (lv_sub hl [0, 2, 3, 4, 5, 6, 7, 8] rfl) hI3 ⟨by rw [e9]; omega, by rw [e9]; omega⟩ (by rw [e9]; omega) ⟨by rw [e9]; omega, by rw [e9]; omega⟩ hzr rfl
                  · refine lv_aload_n hx hb dX14_sounds_172 rfl (lv_at hl 6 rfl) ?_
                    refine gr_X14_320 F hB dX14_sounds_173 tx3 hle3 ?_
                    refine lv_iload hx hb dX14_sounds_176 (lv_at hl 0 rfl) ?_
                    refine sg_callS F hB (m_box l D cy _ _) (va_cwS 1 F.1.2.2.2.2 (mgS2 (mm_7 _ (List.mem_of_getElem? (i := 33) rfl)) (mm_7 _ (List.mem_of_getElem? (i := 34) rfl)) (mm_7 _ (List.mem_of_getElem? (i := 30) rfl)) (mm_7 _ (List.mem_of_getElem? (i := 25) rfl))) rfl rfl rfl ⟨by decide, by decide, by decide +kernel⟩ ⟨Nat.le_of_ble_eq_true rfl, Nat.le_of_ble_eq_true rfl⟩) rfl hl.1 rfl (Nat.le_of_ble_eq_true rfl) dX14_sounds_178 (by show _ ≤ 18; omega) (Nat.add_le_add_right (by omega) _)  (fun H locs v σ178 N hBn hX178 hP => ?_)
                    clear hB; have hB := hBn; clear hBn
                    obtain ⟨y178, rfl, hbx, hqt⟩ := hP
                    have ed5 := sg_eda F hB
                    have hI178 := inv_Qt hI3 hqt ed5
                    have tL5 : sgT σ178 le = 5 := (hqt.1 le (by rw [tle3]; decide)).1.trans tle3
                    have sL5 : sgSz σ178 le = sgSz σ3 le := sgSz_Qt hqt tle3
                    have z5 := zR_Qt hI3 hqt ed5 tl3
                    obtain ⟨ra181, za181, zb181⟩ := (inv_LS hI178).1 _ tL5 id
                    refine sg_callV (ci := 4) F hB (m_add l D cy za181 (fun j y h1 h2 => (inv_LS hI178).2.2.1 ra181 j y h1 h2) y178 (iEl_K (l0 := _) (g := g) (j := 0) (by unfold iEl; rw [rle]; exact hbx)) zb181 _) (cwV 1 F.1.2.2.2.2 (mgV (mm_3 _ (List.mem_of_getElem? (i := 9) rfl)) (mm_3 _ (List.mem_of_getElem? (i := 10) rfl)) (mm_3 _ (List.mem_of_getElem? (i := 11) rfl)) (mm_0 _ (List.mem_of_getElem? (i := 35) rfl)) (mm_2 _ (List.mem_of_getElem? (i := 29) rfl))) rfl rfl rfl ⟨rfl, by decide, by decide, by decide +kernel⟩ ⟨Nat.le_of_ble_eq_true rfl, Nat.le_of_ble_eq_true rfl⟩) rfl rfl (by decide) rfl hl.1 rfl (Nat.le_of_ble_eq_true rfl) dX14_sounds_181 (by show _ ≤ 18; omega) (Nat.add_le_add_right (by omega) _) tL5 (fun H locs v σ181 N hBn hX181 hP => ?_)
                    clear hB; have hB := hBn; clear hBn
                    obtain ⟨rfl, hAd181⟩ := hP
                    obtain ⟨hI181, ada181, adb181, adc181, add181, ade181, adf181, adg181, adh181⟩ := inv_ad hI178 tL5 za181 hAd181 (sg_eda F hB) (by unfold iEl; rw [rle]; exact hbx) (by rw [rle]; refine inv_cap ?_ (Or.inr rfl); rw [sL5]; omega) (Or.inl ⟨inv_nD hI178 (by rw [rle]; decide), rfl⟩) (nr7 rle (by decide))
                    have z181 : zR l1 σ σ181 := zR_tr hzr (zR_tr z5 (zR_l (l2 := le) add181 adf181 adg181 adh181 (tFr_T z5.1 tl3 (by decide)) nle))
                    refine lv_pop hx hb dX14_sounds_184 rfl ?_
                    refine lv_iinc (lv' := [(7, .int _), (8, .int _), (6, .ref _), (5, .ref _), (4, .int _), (3, .int _), (2, .ref _), (1, .int _), (0, .ref _)]) hx hb dX14_sounds_185 hl (k := 1) rfl rfl (by decide) rfl (fun ls hl => ?_)
                    refine lv_goto (tgt := 89) hx hb dX14_sounds_188 (by decide) ?_
                    have hi3 := i_nle c92
                    have e9 : (k9 + Int32.ofInt 1).toInt = k9.toInt + 1 := m_add1 (by omega) (by omega)
                    first
                      | exact ih89 _ (by subst hd89; rw [e9]; omega) _ _ _ _ _ _ _ _ hB (lv_sub hl [0, 2, 3, 4, 5, 6, 7, 8] rfl) hI181 ⟨by rw [e9]; omega, by rw [e9]; omega⟩ (by rw [e9, ada181, sL5]; omega) ⟨by rw [e9]; show kc + 1 + 1 ≤ _; omega, by rw [e9]; omega⟩ z181 rfl
                      | exact ih89 _ (by subst hd89; rw [e9]; omega) _ _ _ _ _ _ _ _ hB (lv_sub hl [0, 2, 3, 4, 5, 6, 7, 8] rfl) hI3 ⟨by rw [e9]; omega, by rw [e9]; omega⟩ (by rw [e9]; omega) ⟨by rw [e9]; omega, by rw [e9]; omega⟩ hzr rfl
                · refine lv_aload_n hx hb dX14_sounds_142 rfl (lv_at hl 6 rfl) ?_
                  refine gf_X14_300 F hB dX14_sounds_143 tx3 ?_
                  refine lv_if_eq (tgt := 165) hx hb dX14_sounds_146 (by decide) (fun c146 => ?_) (fun c146 => ((c146 ((x03).trans hin)) : False).elim)
                  refine lv_iload hx hb dX14_sounds_165 (lv_at hl 4 rfl) ?_
                  refine lv_bipush (v := 32) hx hb dX14_sounds_167 (by decide) ?_
                  refine lv_icmp_ne (tgt := 185) hx hb dX14_sounds_169 (by decide) (fun c169 => ?_) (fun c169 => ?_)
                  · refine lv_iinc (lv' := [(7, .int _), (8, .int _), (6, .ref _), (5, .ref _), (4, .int _), (3, .int _), (2, .ref _), (1, .int _), (0, .ref _)]) hx hb dX14_sounds_185 hl (k := 1) rfl rfl (by decide) rfl (fun ls hl => ?_)
                    refine lv_goto (tgt := 89) hx hb dX14_sounds_188 (by decide) ?_
                    have hi3 := i_nle c92
                    have e9 : (k9 + Int32.ofInt 1).toInt = k9.toInt + 1 := m_add1 (by omega) (by omega)
                    first
                      | exact ih89 _ (by subst hd89; rw [e9]; omega) _ _ _ _ _ _ _ _ hB (lv_sub hl [0, 2, 3, 4, 5, 6, 7, 8] rfl) hI181 ⟨by rw [e9]; omega, by rw [e9]; omega⟩ (by rw [e9, ada181, sL5]; omega) ⟨by rw [e9]; show kc + 1 + 1 ≤ _; omega, by rw [e9]; omega⟩ z181 rfl
                      | exact ih89 _ (by subst hd89; rw [e9]; omega) _ _ _ _ _ _ _ _ hB (lv_sub hl [0, 2, 3, 4, 5, 6, 7, 8] rfl) hI3 ⟨by rw [e9]; omega, by rw [e9]; omega⟩ (by rw [e9]; omega) ⟨by rw [e9]; omega, by rw [e9]; omega⟩ hzr rfl
                  · refine lv_aload_n hx hb dX14_sounds_172 rfl (lv_at hl 6 rfl) ?_
                    refine gr_X14_320 F hB dX14_sounds_173 tx3 hle3 ?_
                    refine lv_iload hx hb dX14_sounds_176 (lv_at hl 0 rfl) ?_
                    refine sg_callS F hB (m_box l D cy _ _) (va_cwS 1 F.1.2.2.2.2 (mgS2 (mm_7 _ (List.mem_of_getElem? (i := 33) rfl)) (mm_7 _ (List.mem_of_getElem? (i := 34) rfl)) (mm_7 _ (List.mem_of_getElem? (i := 30) rfl)) (mm_7 _ (List.mem_of_getElem? (i := 25) rfl))) rfl rfl rfl ⟨by decide, by decide, by decide +kernel⟩ ⟨Nat.le_of_ble_eq_true rfl, Nat.le_of_ble_eq_true rfl⟩) rfl hl.1 rfl (Nat.le_of_ble_eq_true rfl) dX14_sounds_178 (by show _ ≤ 18; omega) (Nat.add_le_add_right (by omega) _)  (fun H locs v σ178 N hBn hX178 hP => ?_)
                    clear hB; have hB := hBn; clear hBn
                    obtain ⟨y178, rfl, hbx, hqt⟩ := hP
                    have ed5 := sg_eda F hB
                    have hI178 := inv_Qt hI3 hqt ed5
                    have tL5 : sgT σ178 le = 5 := (hqt.1 le (by rw [tle3]; decide)).1.trans tle3
                    have sL5 : sgSz σ178 le = sgSz σ3 le := sgSz_Qt hqt tle3
                    have z5 := zR_Qt hI3 hqt ed5 tl3
                    obtain ⟨ra181, za181, zb181⟩ := (inv_LS hI178).1 _ tL5 id
                    refine sg_callV (ci := 4) F hB (m_add l D cy za181 (fun j y h1 h2 => (inv_LS hI178).2.2.1 ra181 j y h1 h2) y178 (iEl_K (l0 := _) (g := g) (j := 0) (by unfold iEl; rw [rle]; exact hbx)) zb181 _) (cwV 1 F.1.2.2.2.2 (mgV (mm_3 _ (List.mem_of_getElem? (i := 9) rfl)) (mm_3 _ (List.mem_of_getElem? (i := 10) rfl)) (mm_3 _ (List.mem_of_getElem? (i := 11) rfl)) (mm_0 _ (List.mem_of_getElem? (i := 35) rfl)) (mm_2 _ (List.mem_of_getElem? (i := 29) rfl))) rfl rfl rfl ⟨rfl, by decide, by decide, by decide +kernel⟩ ⟨Nat.le_of_ble_eq_true rfl, Nat.le_of_ble_eq_true rfl⟩) rfl rfl (by decide) rfl hl.1 rfl (Nat.le_of_ble_eq_true rfl) dX14_sounds_181 (by show _ ≤ 18; omega) (Nat.add_le_add_right (by omega) _) tL5 (fun H locs v σ181 N hBn hX181 hP => ?_)
                    clear hB; have hB := hBn; clear hBn
                    obtain ⟨rfl, hAd181⟩ := hP
                    obtain ⟨hI181, ada181, adb181, adc181, add181, ade181, adf181, adg181, adh181⟩ := inv_ad hI178 tL5 za181 hAd181 (sg_eda F hB) (by unfold iEl; rw [rle]; exact hbx) (by rw [rle]; refine inv_cap ?_ (Or.inr rfl); rw [sL5]; omega) (Or.inl ⟨inv_nD hI178 (by rw [rle]; decide), rfl⟩) (nr7 rle (by decide))
                    have z181 : zR l1 σ σ181 := zR_tr hzr (zR_tr z5 (zR_l (l2 := le) add181 adf181 adg181 adh181 (tFr_T z5.1 tl3 (by decide)) nle))
                    refine lv_pop hx hb dX14_sounds_184 rfl ?_
                    refine lv_iinc (lv' := [(7, .int _), (8, .int _), (6, .ref _), (5, .ref _), (4, .int _), (3, .int _), (2, .ref _), (1, .int _), (0, .ref _)]) hx hb dX14_sounds_185 hl (k := 1) rfl rfl (by decide) rfl (fun ls hl => ?_)
                    refine lv_goto (tgt := 89) hx hb dX14_sounds_188 (by decide) ?_
                    have hi3 := i_nle c92
                    have e9 : (k9 + Int32.ofInt 1).toInt = k9.toInt + 1 := m_add1 (by omega) (by omega)
                    first
                      | exact ih89 _ (by subst hd89; rw [e9]; omega) _ _ _ _ _ _ _ _ hB (lv_sub hl [0, 2, 3, 4, 5, 6, 7, 8] rfl) hI181 ⟨by rw [e9]; omega, by rw [e9]; omega⟩ (by rw [e9, ada181, sL5]; omega) ⟨by rw [e9]; show kc + 1 + 1 ≤ _; omega, by rw [e9]; omega⟩ z181 rfl
                      | exact ih89 _ (by subst hd89; rw [e9]; omega) _ _ _ _ _ _ _ _ hB (lv_sub hl [0, 2, 3, 4, 5, 6, 7, 8] rfl) hI3 ⟨by rw [e9]; omega, by rw [e9]; omega⟩ (by rw [e9]; omega) ⟨by rw [e9]; omega, by rw [e9]; omega⟩ hzr rfl
            · refine lv_iconst (v := 1) hx hb dX14_sounds_77 (by decide) ?_
              refine lv_goto (tgt := 82) hx hb dX14_sounds_78 (by decide) ?_
              refine lv_iadd hx hb dX14_sounds_82 ?_
              refine pf_X14_366 F hB dX14_sounds_83 (inv_A h) (fun H locs hBn => ?_)
              clear hB; have hB := hBn; clear hBn
              have hI83 := inv_PIc (t := 20) hB h (inv_A h) (by unfold iCn; omega)
              have z83 := zPIB (l1 := l1) (t := 20) hB (inv_A h) (by decide) tl
              have hb0 := i_nle c48
              rw [m_i0] at hb0
              obtain ⟨kc, hkc⟩ : ∃ kc : Nat, kc = 0 := ⟨_, rfl⟩
              refine W.widen (k := kc) (n := N) (by omega) (Nat.le_refl _) ?_
              refine lv_iconst (v := 0) hx hb dX14_sounds_86 (by decide) ?_
              refine lv_istore (lv' := [(7, .int _), (6, .ref _), (5, .ref _), (0, .ref _), (1, .int _), (2, .ref _), (3, .int _), (4, .int _)]) hx hb dX14_sounds_87 hl (by decide) rfl (fun ls hl => ?_)
              have key89 : ∃ (σ3 : SG) (k9 : Int32) (nc : Nat), sgB D cy s σ σ3 H locs N nc ∧ lv_has ls 9 [(7, .int k9), (6, .ref t0), (5, .ref pp), (4, .int f0), (3, .int b), (2, .ref xe), (1, .int x), (0, .ref (kA K))] ∧ Inv eda ia K g n S hw σ3 ∧ (0 ≤ k9.toInt ∧ k9.toInt ≤ b.toInt) ∧ sgSz σ3 le ≤ sgSz σ le + k9.toInt.toNat ∧ (kc ≤ 2 * k9.toInt.toNat ∧ nc ≤ 16 * k9.toInt.toNat) ∧ zR l1 σ σ3 := ⟨_, _, _, hB, (lv_sub hl [0, 1, 2, 7, 6, 5, 4, 3] rfl), hI83, ⟨by decide, by rw [m_i0]; omega⟩, by rw [m_i0]; exact Nat.le_of_eq (sgSz_nk (by decide)), ⟨by omega, by omega⟩, z83⟩
              clear hB hl hkc
              obtain ⟨σ3, k9, nc, hB, hl, hI3, hi, hzl, hkn, hzr⟩ := key89
              obtain ⟨d89, hd89⟩ : ∃ d : Nat, d = (b.toInt - k9.toInt).toNat := ⟨_, rfl⟩
              induction d89 using Nat.strongRecOn generalizing H locs ls N σ3 k9 nc kc
              rename_i d89 ih89
              have tx3 : sgT σ3 xe = 17 := tFr_T hzr.1 txe (by decide)
              have tp3 : sgT σ3 pp = 18 := tFr_T hzr.1 tp (by decide)
              have tle3 : sgT σ3 le = 5 := tFr_T hzr.1 tle (by decide)
              have hle3 : sgR σ3 xe 3 = some le := (hzr.2.2.2.2.1 xe 3 (by rw [txe]; decide)).trans hle
              have tl3 : sgT σ3 l1 = 5 := tFr_T hzr.1 tl (by decide)
              have tt3 : sgT σ3 t0 = 19 := tFr_T hzr.1 tt (by decide)
              have d3 : sgI σ3 t0 2 = sgI σ t0 2 := hzr.2.1 t0 2 tt
              have x03 : sgI σ3 xe 0 = sgI σ xe 0 := hzr.2.2.2.1 xe 0 txe (by decide)
              refine lv_iload hx hb dX14_sounds_89 (lv_at hl 0 rfl) ?_
              refine lv_iload_n hx hb dX14_sounds_91 rfl (lv_at hl 4 rfl) ?_
              refine lv_icmp_ge (tgt := 191) hx hb dX14_sounds_92 (by decide) (fun c92 => ?_) (fun c92 => ?_)
              · have hi4 := i_le c92
                refine W.widen (k := 16) (n := N) (show kc ≤ 16 from by omega) (Nat.le_refl _) ?_
                have hBn := sgB_up (n2 := 128) hB (show nc ≤ 128 from by omega)
                clear hB; have hB := hBn; clear hBn
                refine lv_aload hx hb dX14_sounds_191 (lv_at hl 1 rfl) ?_
                refine lv_dup hx hb dX14_sounds_193 rfl ?_
                refine gf_X14_284 F hB dX14_sounds_194 tt3 ?_
                refine lv_iload_n hx hb dX14_sounds_197 rfl (lv_at hl 4 rfl) ?_
                refine lv_iadd hx hb dX14_sounds_198 ?_
                refine pf_X14_284 F hB dX14_sounds_199 tt3 (fun H locs hBn => ?_)
                clear hB; have hB := hBn; clear hBn
                have hI199 := inv_dnB hB hI3 tt3
                have w3 := wPp_z h wc hzr
                have wB := wPp_hB hB (wPp_PI w3 (Or.inr ⟨fun z => absurd (tt3.symm.trans z) (by decide), fun z => absurd (tt3.symm.trans z) (by decide)⟩) tp3 tl3)
                have hB199 := hB
                have i3 := iW_tr hzr.1 (inv_T h) tt (hzr.2.1 t0 1 tt) (hzr.2.1 t0 2 tt) x03 (hzr.2.2.2.2.1 t0 0 (by rw [tt]; decide)) ⟨iw1, iw2, iw3, iw4⟩
                refine lv_aload hx hb dX14_sounds_202 (lv_at hl 1 rfl) ?_
                refine lv_aload hx hb dX14_sounds_204 (lv_at hl 1 rfl) ?_
                refine gf_X14_371 F hB dX14_sounds_206 (by exact tt3) ?_
                refine lv_if_ne (tgt := 219) hx hb dX14_sounds_209 (by decide) (fun c209 => ?_) (fun c209 => ?_)
                · refine lv_iconst (v := 1) hx hb dX14_sounds_219 (by decide) ?_
                  refine lv_goto (tgt := 224) hx hb dX14_sounds_220 (by decide) ?_
                  refine pf_X14_371 F hB dX14_sounds_224 (by exact tt3) ⟨by decide, by decide⟩ (fun H locs hBn => ?_)
                  clear hB; have hB := hBn; clear hBn
                  have hI224 := inv_PIc (t := 19) hB hI199 (by exact tt3) (by unfold iCn; omega)
                  have wC := wPp_hB4 hB (wPp_PI wB (Or.inr ⟨fun z => absurd (tt3.symm.trans z) (by decide), fun z => absurd (tt3.symm.trans z) (by decide)⟩) (by exact tp3) (by exact tl3))
                  have hBC := hB
                  refine lv_aload hx hb dX14_sounds_227 (lv_at hl 1 rfl) ?_
                  refine gf_X14_284 F hB dX14_sounds_229 (by exact tt3) ?_
                  refine lv_aload hx hb dX14_sounds_232 (lv_at hl 1 rfl) ?_
                  refine gf_X14_338 F hB dX14_sounds_234 (by exact tt3) ?_
                  refine lv_icmp_lt (tgt := 263) hx hb dX14_sounds_237 (by decide) (fun c237 => ?_) (fun c237 => ?_)
                  · refine lv_aload_n hx hb dX14_sounds_263 rfl (lv_at hl 5 rfl) ?_
                    refine gf_X14_300 F hB dX14_sounds_264 (by exact tx3) ?_
                    refine lv_if_eq (tgt := 285) hx hb dX14_sounds_267 (by decide) (fun c267 => ?_) (fun c267 => ((c267 ((((sgI_nk (by decide)).trans (sgI_nk (by decide))).trans x03).trans hin)) : False).elim)
                    first
                      | have hfin := hI257b
                      | have hfin := hI282b
                      | have hfin := inv_dnw hI224 wC (iW_C hBC (iW_L hB199 i3 tt3 tx3 hbb.1 hbb.2 (m_ltC hBC i3 hbb.1 hbb.2 c237)))
                      | have hfin : Inv eda ia K g n S hw _ := hI224
                    refine lv_iconst (v := 1) hx hb dX14_sounds_285 (by decide) ?_
                    exact sg_iret F hB hrt dX14_sounds_286 (by omega) (by omega) (⟨⟨_, rfl, Or.inl rfl⟩, hfin⟩)
                  · obtain ⟨m1, hm1⟩ := m_evm hB (K := K)
                    refine lv_aload_n hx hb dX14_sounds_240 rfl (lv_at hl 7 rfl) ?_
                    refine lv_iload_n hx hb dX14_sounds_241 rfl (lv_at hl 6 rfl) ?_
                    refine lv_aload hx hb dX14_sounds_242 (lv_at hl 1 rfl) ?_
                    refine gf_X14_371 F hB dX14_sounds_244 (by exact tt3) ?_
                    refine lv_if_eq (tgt := 255) hx hb dX14_sounds_247 (by decide) (fun c247 => ?_) (fun c247 => ?_)
                    · refine lv_bipush (v := 100) hx hb dX14_sounds_255 (by decide) ?_
                      refine sg_callV (ci := 19) F hB (m_ends l D cy hI224 x _ wC.1.1 wC.1.2 wC.2.1 wC.2.2.1 wC.2.2.2.1 hm1 _) (cwV 2 F.1.2.2.2.2 (mgV (mm_5 _ (List.mem_of_getElem? (i := 33) rfl)) (mm_5 _ (List.mem_of_getElem? (i := 34) rfl)) (mm_5 _ (List.mem_of_getElem? (i := 35) rfl)) (mm_3 _ (List.mem_of_getElem? (i := 23) rfl)) (mm_5 _ (List.mem_of_getElem? (i := 32) rfl))) rfl rfl rfl ⟨rfl, by decide, by decide, by decide +kernel⟩ ⟨Nat.le_of_ble_eq_true rfl, Nat.le_of_ble_eq_true rfl⟩) rfl rfl (by decide) rfl hl.1 rfl (Nat.le_of_ble_eq_true rfl) dX14_sounds_257 (Nat.le_trans (show _ ≤ 18 from by omega) (Nat.le_of_ble_eq_true rfl)) (Nat.add_le_add_right (Nat.le_trans (show _ ≤ 146 from by omega) (Nat.le_of_ble_eq_true rfl)) _) (inv_A hI224) (fun H locs v σ257 N hBn hX257 hP => ?_)
                      clear hB; have hB := hBn; clear hBn
                      refine W.widen (k := 18) (n := N) (show _ ≤ 18 from by omega) (Nat.le_refl _) ?_
                      have hBn := sgB_up (n2 := 146) hB (show _ ≤ 146 from by omega)
                      clear hB; have hB := hBn; clear hBn
                      obtain ⟨rfl, hI257, en1_257, en2_257, en3_257, en4_257⟩ := hP
                      have hI257b := inv_dne hI224 wC hI257 en1_257 en2_257 en4_257
                      refine lv_goto (tgt := 285) hx hb dX14_sounds_260 (by decide) ?_
                      first
                        | have hfin := hI257b
                        | have hfin := hI282b
                        | have hfin := inv_dnw hI257b wC (iW_C hBC (iW_L hB199 i3 tt3 tx3 hbb.1 hbb.2 (m_ltC hBC i3 hbb.1 hbb.2 c237)))
                        | have hfin : Inv eda ia K g n S hw _ := hI257b
                      refine lv_iconst (v := 1) hx hb dX14_sounds_285 (by decide) ?_
                      exact sg_iret F hB hrt dX14_sounds_286 (by omega) (by omega) (⟨⟨_, rfl, Or.inl rfl⟩, hfin⟩)
                    · refine lv_bipush (v := 108) hx hb dX14_sounds_250 (by decide) ?_
                      refine lv_goto (tgt := 257) hx hb dX14_sounds_252 (by decide) ?_
                      refine sg_callV (ci := 19) F hB (m_ends l D cy hI224 x _ wC.1.1 wC.1.2 wC.2.1 wC.2.2.1 wC.2.2.2.1 hm1 _) (cwV 2 F.1.2.2.2.2 (mgV (mm_5 _ (List.mem_of_getElem? (i := 33) rfl)) (mm_5 _ (List.mem_of_getElem? (i := 34) rfl)) (mm_5 _ (List.mem_of_getElem? (i := 35) rfl)) (mm_3 _ (List.mem_of_getElem? (i := 23) rfl)) (mm_5 _ (List.mem_of_getElem? (i := 32) rfl))) rfl rfl rfl ⟨rfl, by decide, by decide, by decide +kernel⟩ ⟨Nat.le_of_ble_eq_true rfl, Nat.le_of_ble_eq_true rfl⟩) rfl rfl (by decide) rfl hl.1 rfl (Nat.le_of_ble_eq_true rfl) dX14_sounds_257 (Nat.le_trans (show _ ≤ 18 from by omega) (Nat.le_of_ble_eq_true rfl)) (Nat.add_le_add_right (Nat.le_trans (show _ ≤ 146 from by omega) (Nat.le_of_ble_eq_true rfl)) _) (inv_A hI224) (fun H locs v σ257 N hBn hX257 hP => ?_)
                      clear hB; have hB := hBn; clear hBn
                      refine W.widen (k := 18) (n := N) (show _ ≤ 18 from by omega) (Nat.le_refl _) ?_
                      have hBn := sgB_up (n2 := 146) hB (show _ ≤ 146 from by omega)
                      clear hB; have hB := hBn; clear hBn
                      obtain ⟨rfl, hI257, en1_257, en2_257, en3_257, en4_257⟩ := hP
                      have hI257b := inv_dne hI224 wC hI257 en1_257 en2_257 en4_257
                      refine lv_goto (tgt := 285) hx hb dX14_sounds_260 (by decide) ?_
                      first
                        | have hfin := hI257b
                        | have hfin := hI282b
                        | have hfin := inv_dnw hI257b wC (iW_C hBC (iW_L hB199 i3 tt3 tx3 hbb.1 hbb.2 (m_ltC hBC i3 hbb.1 hbb.2 c237)))
                        | have hfin : Inv eda ia K g n S hw _ := hI257b
                      refine lv_iconst (v := 1) hx hb dX14_sounds_285 (by decide) ?_
                      exact sg_iret F hB hrt dX14_sounds_286 (by omega) (by omega) (⟨⟨_, rfl, Or.inl rfl⟩, hfin⟩)
                · refine lv_iload hx hb dX14_sounds_212 (lv_at hl 3 rfl) ?_
                  refine lv_bipush (v := 32) hx hb dX14_sounds_214 (by decide) ?_
                  refine lv_icmp_eq (tgt := 223) hx hb dX14_sounds_216 (by decide) (fun c216 => ?_) (fun c216 => ?_)
                  · refine lv_iconst (v := 0) hx hb dX14_sounds_223 (by decide) ?_
                    refine pf_X14_371 F hB dX14_sounds_224 (by exact tt3) ⟨by decide, by decide⟩ (fun H locs hBn => ?_)
                    clear hB; have hB := hBn; clear hBn
                    have hI224 := inv_PIc (t := 19) hB hI199 (by exact tt3) (by unfold iCn; omega)
                    have wC := wPp_hB4 hB (wPp_PI wB (Or.inr ⟨fun z => absurd (tt3.symm.trans z) (by decide), fun z => absurd (tt3.symm.trans z) (by decide)⟩) (by exact tp3) (by exact tl3))
                    have hBC := hB
                    refine lv_aload hx hb dX14_sounds_227 (lv_at hl 1 rfl) ?_
                    refine gf_X14_284 F hB dX14_sounds_229 (by exact tt3) ?_
                    refine lv_aload hx hb dX14_sounds_232 (lv_at hl 1 rfl) ?_
                    refine gf_X14_338 F hB dX14_sounds_234 (by exact tt3) ?_
                    refine lv_icmp_lt (tgt := 263) hx hb dX14_sounds_237 (by decide) (fun c237 => ?_) (fun c237 => ?_)
                    · refine lv_aload_n hx hb dX14_sounds_263 rfl (lv_at hl 5 rfl) ?_
                      refine gf_X14_300 F hB dX14_sounds_264 (by exact tx3) ?_
                      refine lv_if_eq (tgt := 285) hx hb dX14_sounds_267 (by decide) (fun c267 => ?_) (fun c267 => ((c267 ((((sgI_nk (by decide)).trans (sgI_nk (by decide))).trans x03).trans hin)) : False).elim)
                      first
                        | have hfin := hI257b
                        | have hfin := hI282b
                        | have hfin := inv_dnw hI224 wC (iW_C hBC (iW_L hB199 i3 tt3 tx3 hbb.1 hbb.2 (m_ltC hBC i3 hbb.1 hbb.2 c237)))
                        | have hfin : Inv eda ia K g n S hw _ := hI224
                      refine lv_iconst (v := 1) hx hb dX14_sounds_285 (by decide) ?_
                      exact sg_iret F hB hrt dX14_sounds_286 (by omega) (by omega) (⟨⟨_, rfl, Or.inl rfl⟩, hfin⟩)
                    · obtain ⟨m1, hm1⟩ := m_evm hB (K := K)
                      refine lv_aload_n hx hb dX14_sounds_240 rfl (lv_at hl 7 rfl) ?_
                      refine lv_iload_n hx hb dX14_sounds_241 rfl (lv_at hl 6 rfl) ?_
                      refine lv_aload hx hb dX14_sounds_242 (lv_at hl 1 rfl) ?_
                      refine gf_X14_371 F hB dX14_sounds_244 (by exact tt3) ?_
                      refine lv_if_eq (tgt := 255) hx hb dX14_sounds_247 (by decide) (fun c247 => ?_) (fun c247 => ?_)
                      · refine lv_bipush (v := 100) hx hb dX14_sounds_255 (by decide) ?_
                        refine sg_callV (ci := 19) F hB (m_ends l D cy hI224 x _ wC.1.1 wC.1.2 wC.2.1 wC.2.2.1 wC.2.2.2.1 hm1 _) (cwV 2 F.1.2.2.2.2 (mgV (mm_5 _ (List.mem_of_getElem? (i := 33) rfl)) (mm_5 _ (List.mem_of_getElem? (i := 34) rfl)) (mm_5 _ (List.mem_of_getElem? (i := 35) rfl)) (mm_3 _ (List.mem_of_getElem? (i := 23) rfl)) (mm_5 _ (List.mem_of_getElem? (i := 32) rfl))) rfl rfl rfl ⟨rfl, by decide, by decide, by decide +kernel⟩ ⟨Nat.le_of_ble_eq_true rfl, Nat.le_of_ble_eq_true rfl⟩) rfl rfl (by decide) rfl hl.1 rfl (Nat.le_of_ble_eq_true rfl) dX14_sounds_257 (Nat.le_trans (show _ ≤ 18 from by omega) (Nat.le_of_ble_eq_true rfl)) (Nat.add_le_add_right (Nat.le_trans (show _ ≤ 146 from by omega) (Nat.le_of_ble_eq_true rfl)) _) (inv_A hI224) (fun H locs v σ257 N hBn hX257 hP => ?_)
                        clear hB; have hB := hBn; clear hBn
                        refine W.widen (k := 18) (n := N) (show _ ≤ 18 from by omega) (Nat.le_refl _) ?_
                        have hBn := sgB_up (n2 := 146) hB (show _ ≤ 146 from by omega)
                        clear hB; have hB := hBn; clear hBn
                        obtain ⟨rfl, hI257, en1_257, en2_257, en3_257, en4_257⟩ := hP
                        have hI257b := inv_dne hI224 wC hI257 en1_257 en2_257 en4_257
                        refine lv_goto (tgt := 285) hx hb dX14_sounds_260 (by decide) ?_
                        first
                          | have hfin := hI257b
                          | have hfin := hI282b
                          | have hfin := inv_dnw hI257b wC (iW_C hBC (iW_L hB199 i3 tt3 tx3 hbb.1 hbb.2 (m_ltC hBC i3 hbb.1 hbb.2 c237)))
                          | have hfin : Inv eda ia K g n S hw _ := hI257b
                        refine lv_iconst (v := 1) hx hb dX14_sounds_285 (by decide) ?_
                        exact sg_iret F hB hrt dX14_sounds_286 (by omega) (by omega) (⟨⟨_, rfl, Or.inl rfl⟩, hfin⟩)
                      · refine lv_bipush (v := 108) hx hb dX14_sounds_250 (by decide) ?_
                        refine lv_goto (tgt := 257) hx hb dX14_sounds_252 (by decide) ?_
                        refine sg_callV (ci := 19) F hB (m_ends l D cy hI224 x _ wC.1.1 wC.1.2 wC.2.1 wC.2.2.1 wC.2.2.2.1 hm1 _) (cwV 2 F.1.2.2.2.2 (mgV (mm_5 _ (List.mem_of_getElem? (i := 33) rfl)) (mm_5 _ (List.mem_of_getElem? (i := 34) rfl)) (mm_5 _ (List.mem_of_getElem? (i := 35) rfl)) (mm_3 _ (List.mem_of_getElem? (i := 23) rfl)) (mm_5 _ (List.mem_of_getElem? (i := 32) rfl))) rfl rfl rfl ⟨rfl, by decide, by decide, by decide +kernel⟩ ⟨Nat.le_of_ble_eq_true rfl, Nat.le_of_ble_eq_true rfl⟩) rfl rfl (by decide) rfl hl.1 rfl (Nat.le_of_ble_eq_true rfl) dX14_sounds_257 (Nat.le_trans (show _ ≤ 18 from by omega) (Nat.le_of_ble_eq_true rfl)) (Nat.add_le_add_right (Nat.le_trans (show _ ≤ 146 from by omega) (Nat.le_of_ble_eq_true rfl)) _) (inv_A hI224) (fun H locs v σ257 N hBn hX257 hP => ?_)
                        clear hB; have hB := hBn; clear hBn
                        refine W.widen (k := 18) (n := N) (show _ ≤ 18 from by omega) (Nat.le_refl _) ?_
                        have hBn := sgB_up (n2 := 146) hB (show _ ≤ 146 from by omega)
                        clear hB; have hB := hBn; clear hBn
                        obtain ⟨rfl, hI257, en1_257, en2_257, en3_257, en4_257⟩ := hP
                        have hI257b := inv_dne hI224 wC hI257 en1_257 en2_257 en4_257
                        refine lv_goto (tgt := 285) hx hb dX14_sounds_260 (by decide) ?_
                        first
                          | have hfin := hI257b
                          | have hfin := hI282b
                          | have hfin := inv_dnw hI257b wC (iW_C hBC (iW_L hB199 i3 tt3 tx3 hbb.1 hbb.2 (m_ltC hBC i3 hbb.1 hbb.2 c237)))
                          | have hfin : Inv eda ia K g n S hw _ := hI257b
                        refine lv_iconst (v := 1) hx hb dX14_sounds_285 (by decide) ?_
                        exact sg_iret F hB hrt dX14_sounds_286 (by omega) (by omega) (⟨⟨_, rfl, Or.inl rfl⟩, hfin⟩)
                  · refine lv_iconst (v := 1) hx hb dX14_sounds_219 (by decide) ?_
                    refine lv_goto (tgt := 224) hx hb dX14_sounds_220 (by decide) ?_
                    refine pf_X14_371 F hB dX14_sounds_224 (by exact tt3) ⟨by decide, by decide⟩ (fun H locs hBn => ?_)
                    clear hB; have hB := hBn; clear hBn
                    have hI224 := inv_PIc (t := 19) hB hI199 (by exact tt3) (by unfold iCn; omega)
                    have wC := wPp_hB4 hB (wPp_PI wB (Or.inr ⟨fun z => absurd (tt3.symm.trans z) (by decide), fun z => absurd (tt3.symm.trans z) (by decide)⟩) (by exact tp3) (by exact tl3))
                    have hBC := hB
                    refine lv_aload hx hb dX14_sounds_227 (lv_at hl 1 rfl) ?_
                    refine gf_X14_284 F hB dX14_sounds_229 (by exact tt3) ?_
                    refine lv_aload hx hb dX14_sounds_232 (lv_at hl 1 rfl) ?_
                    refine gf_X14_338 F hB dX14_sounds_234 (by exact tt3) ?_
                    refine lv_icmp_lt (tgt := 263) hx hb dX14_sounds_237 (by decide) (fun c237 => ?_) (fun c237 => ?_)
                    · refine lv_aload_n hx hb dX14_sounds_263 rfl (lv_at hl 5 rfl) ?_
                      refine gf_X14_300 F hB dX14_sounds_264 (by exact tx3) ?_
                      refine lv_if_eq (tgt := 285) hx hb dX14_sounds_267 (by decide) (fun c267 => ?_) (fun c267 => ((c267 ((((sgI_nk (by decide)).trans (sgI_nk (by decide))).trans x03).trans hin)) : False).elim)
                      first
                        | have hfin := hI257b
                        | have hfin := hI282b
                        | have hfin := inv_dnw hI224 wC (iW_C hBC (iW_L hB199 i3 tt3 tx3 hbb.1 hbb.2 (m_ltC hBC i3 hbb.1 hbb.2 c237)))
                        | have hfin : Inv eda ia K g n S hw _ := hI224
                      refine lv_iconst (v := 1) hx hb dX14_sounds_285 (by decide) ?_
                      exact sg_iret F hB hrt dX14_sounds_286 (by omega) (by omega) (⟨⟨_, rfl, Or.inl rfl⟩, hfin⟩)
                    · obtain ⟨m1, hm1⟩ := m_evm hB (K := K)
                      refine lv_aload_n hx hb dX14_sounds_240 rfl (lv_at hl 7 rfl) ?_
                      refine lv_iload_n hx hb dX14_sounds_241 rfl (lv_at hl 6 rfl) ?_
                      refine lv_aload hx hb dX14_sounds_242 (lv_at hl 1 rfl) ?_
                      refine gf_X14_371 F hB dX14_sounds_244 (by exact tt3) ?_
                      refine lv_if_eq (tgt := 255) hx hb dX14_sounds_247 (by decide) (fun c247 => ?_) (fun c247 => ?_)
                      · refine lv_bipush (v := 100) hx hb dX14_sounds_255 (by decide) ?_
                        refine sg_callV (ci := 19) F hB (m_ends l D cy hI224 x _ wC.1.1 wC.1.2 wC.2.1 wC.2.2.1 wC.2.2.2.1 hm1 _) (cwV 2 F.1.2.2.2.2 (mgV (mm_5 _ (List.mem_of_getElem? (i := 33) rfl)) (mm_5 _ (List.mem_of_getElem? (i := 34) rfl)) (mm_5 _ (List.mem_of_getElem? (i := 35) rfl)) (mm_3 _ (List.mem_of_getElem? (i := 23) rfl)) (mm_5 _ (List.mem_of_getElem? (i := 32) rfl))) rfl rfl rfl ⟨rfl, by decide, by decide, by decide +kernel⟩ ⟨Nat.le_of_ble_eq_true rfl, Nat.le_of_ble_eq_true rfl⟩) rfl rfl (by decide) rfl hl.1 rfl (Nat.le_of_ble_eq_true rfl) dX14_sounds_257 (Nat.le_trans (show _ ≤ 18 from by omega) (Nat.le_of_ble_eq_true rfl)) (Nat.add_le_add_right (Nat.le_trans (show _ ≤ 146 from by omega) (Nat.le_of_ble_eq_true rfl)) _) (inv_A hI224) (fun H locs v σ257 N hBn hX257 hP => ?_)
                        clear hB; have hB := hBn; clear hBn
                        refine W.widen (k := 18) (n := N) (show _ ≤ 18 from by omega) (Nat.le_refl _) ?_
                        have hBn := sgB_up (n2 := 146) hB (show _ ≤ 146 from by omega)
                        clear hB; have hB := hBn; clear hBn
                        obtain ⟨rfl, hI257, en1_257, en2_257, en3_257, en4_257⟩ := hP
                        have hI257b := inv_dne hI224 wC hI257 en1_257 en2_257 en4_257
                        refine lv_goto (tgt := 285) hx hb dX14_sounds_260 (by decide) ?_
                        first
                          | have hfin := hI257b
                          | have hfin := hI282b
                          | have hfin := inv_dnw hI257b wC (iW_C hBC (iW_L hB199 i3 tt3 tx3 hbb.1 hbb.2 (m_ltC hBC i3 hbb.1 hbb.2 c237)))
                          | have hfin : Inv eda ia K g n S hw _ := hI257b
                        refine lv_iconst (v := 1) hx hb dX14_sounds_285 (by decide) ?_
                        exact sg_iret F hB hrt dX14_sounds_286 (by omega) (by omega) (⟨⟨_, rfl, Or.inl rfl⟩, hfin⟩)
                      · refine lv_bipush (v := 108) hx hb dX14_sounds_250 (by decide) ?_
                        refine lv_goto (tgt := 257) hx hb dX14_sounds_252 (by decide) ?_
                        refine sg_callV (ci := 19) F hB (m_ends l D cy hI224 x _ wC.1.1 wC.1.2 wC.2.1 wC.2.2.1 wC.2.2.2.1 hm1 _) (cwV 2 F.1.2.2.2.2 (mgV (mm_5 _ (List.mem_of_getElem? (i := 33) rfl)) (mm_5 _ (List.mem_of_getElem? (i := 34) rfl)) (mm_5 _ (List.mem_of_getElem? (i := 35) rfl)) (mm_3 _ (List.mem_of_getElem? (i := 23) rfl)) (mm_5 _ (List.mem_of_getElem? (i := 32) rfl))) rfl rfl rfl ⟨rfl, by decide, by decide, by decide +kernel⟩ ⟨Nat.le_of_ble_eq_true rfl, Nat.le_of_ble_eq_true rfl⟩) rfl rfl (by decide) rfl hl.1 rfl (Nat.le_of_ble_eq_true rfl) dX14_sounds_257 (Nat.le_trans (show _ ≤ 18 from by omega) (Nat.le_of_ble_eq_true rfl)) (Nat.add_le_add_right (Nat.le_trans (show _ ≤ 146 from by omega) (Nat.le_of_ble_eq_true rfl)) _) (inv_A hI224) (fun H locs v σ257 N hBn hX257 hP => ?_)
                        clear hB; have hB := hBn; clear hBn
                        refine W.widen (k := 18) (n := N) (show _ ≤ 18 from by omega) (Nat.le_refl _) ?_
                        have hBn := sgB_up (n2 := 146) hB (show _ ≤ 146 from by omega)
                        clear hB; have hB := hBn; clear hBn
                        obtain ⟨rfl, hI257, en1_257, en2_257, en3_257, en4_257⟩ := hP
                        have hI257b := inv_dne hI224 wC hI257 en1_257 en2_257 en4_257
                        refine lv_goto (tgt := 285) hx hb dX14_sounds_260 (by decide) ?_
                        first
                          | have hfin := hI257b
                          | have hfin := hI282b
                          | have hfin := inv_dnw hI257b wC (iW_C hBC (iW_L hB199 i3 tt3 tx3 hbb.1 hbb.2 (m_ltC hBC i3 hbb.1 hbb.2 c237)))
                          | have hfin : Inv eda ia K g n S hw _ := hI257b
                        refine lv_iconst (v := 1) hx hb dX14_sounds_285 (by decide) ?_
                        exact sg_iret F hB hrt dX14_sounds_286 (by omega) (by omega) (⟨⟨_, rfl, Or.inl rfl⟩, hfin⟩)
              · have hi4 := i_nle c92
                refine lv_aload_n hx hb dX14_sounds_95 rfl (lv_at hl 5 rfl) ?_
                refine gf_X14_300 F hB dX14_sounds_96 tx3 ?_
                refine lv_if_eq (tgt := 119) hx hb dX14_sounds_99 (by decide) (fun c99 => ?_) (fun c99 => ((c99 ((x03).trans hin)) : False).elim)
                obtain ⟨bt, ht0, tbt, nbt⟩ := inv_T hI3 t0 tt3
                obtain ⟨bt1, ht1, tbt1, nbt1⟩ := inv_T h t0 tt
                have ebt : bt = bt1 := Option.some.inj (ht0.symm.trans ((hzr.2.2.2.2.1 t0 0 (by rw [tt]; decide)).trans ht1))
                have nb3 : sgN σ3 bt = sgN σ bt := by rw [ebt]; exact tFr_N hzr.1 tbt1 (by decide)
                have iw5 := iw4 hin bt (by rw [ebt]; exact ht1)
                have eix : (sgI σ3 t0 2 + k9).toInt = (sgI σ t0 2).toInt + k9.toInt := by rw [d3]; exact m_addb (by omega) (by omega) (by omega) (by omega)
                refine lv_aload hx hb dX14_sounds_119 (lv_at hl 1 rfl) ?_
                refine gr_X14_369 F hB dX14_sounds_121 tt3 ht0 ?_
                refine lv_aload hx hb dX14_sounds_124 (lv_at hl 1 rfl) ?_
                refine gf_X14_284 F hB dX14_sounds_126 tt3 ?_
                refine lv_iload hx hb dX14_sounds_129 (lv_at hl 0 rfl) ?_
                refine lv_iadd hx hb dX14_sounds_131 ?_
                refine sg_iald hx hb F.2.1 hB.1 dX14_sounds_132 tbt (by omega) (by omega) (by omega) ?_
                refine lv_istore (lv' := [(8, .int _), (7, .int _), (6, .ref _), (5, .ref _), (4, .int _), (3, .int _), (2, .ref _), (1, .int _), (0, .ref _)]) hx hb dX14_sounds_133 hl (by decide) rfl (fun ls hl => ?_)
                refine lv_iload hx hb dX14_sounds_135 (lv_at hl 4 rfl) ?_
                refine lv_bipush (v := 32) hx hb dX14_sounds_137 (by decide) ?_
                refine lv_icmp_ne (tgt := 165) hx hb dX14_sounds_139 (by decide) (fun c139 => ?_) (fun c139 => ?_)
                · refine lv_iload hx hb dX14_sounds_165 (lv_at hl 4 rfl) ?_
                  refine lv_bipush (v := 32) hx hb dX14_sounds_167 (by decide) ?_
                  refine lv_icmp_ne (tgt := 185) hx hb dX14_sounds_169 (by decide) (fun c169 => ?_) (fun c169 => ?_)
                  · refine lv_iinc (lv' := [(7, .int _), (8, .int _), (6, .ref _), (5, .ref _), (4, .int _), (3, .int _), (2, .ref _), (1, .int _), (0, .ref _)]) hx hb dX14_sounds_185 hl (k := 1) rfl rfl (by decide) rfl (fun ls hl => ?_)
                    refine lv_goto (tgt := 89) hx hb dX14_sounds_188 (by decide) ?_
                    have hi3 := i_nle c92
                    have e9 : (k9 + Int32.ofInt 1).toInt = k9.toInt + 1 := m_add1 (by omega) (by omega)
                    first
                      | exact ih89 _ (by subst hd89; rw [e9]; omega) _ _ _ _ _ _ _ _ hB (lv_sub hl [0, 2, 3, 4, 5, 6, 7, 8] rfl) hI181 ⟨by rw [e9]; omega, by rw [e9]; omega⟩ (by rw [e9, ada181, sL5]; omega) ⟨by rw [e9]; show kc + 1 + 1 ≤ _; omega, by rw [e9]; omega⟩ z181 rfl
                      | exact ih89 _ (by subst hd89; rw [e9]; omega) _ _ _ _ _ _ _ _ hB (lv_sub hl [0, 2, 3, 4, 5, 6, 7, 8] rfl) hI3 ⟨by rw [e9]; omega, by rw [e9]; omega⟩ (by rw [e9]; omega) ⟨by rw [e9]; omega, by rw [e9]; omega⟩ hzr rfl
                  · refine lv_aload_n hx hb dX14_sounds_172 rfl (lv_at hl 6 rfl) ?_
                    refine gr_X14_320 F hB dX14_sounds_173 tx3 hle3 ?_
                    refine lv_iload hx hb dX14_sounds_176 (lv_at hl 0 rfl) ?_
                    refine sg_callS F hB (m_box l D cy _ _) (va_cwS 1 F.1.2.2.2.2 (mgS2 (mm_7 _ (List.mem_of_getElem? (i := 33) rfl)) (mm_7 _ (List.mem_of_getElem? (i := 34) rfl)) (mm_7 _ (List.mem_of_getElem? (i := 30) rfl)) (mm_7 _ (List.mem_of_getElem? (i := 25) rfl))) rfl rfl rfl ⟨by decide, by decide, by decide +kernel⟩ ⟨Nat.le_of_ble_eq_true rfl, Nat.le_of_ble_eq_true rfl⟩) rfl hl.1 rfl (Nat.le_of_ble_eq_true rfl) dX14_sounds_178 (by show _ ≤ 18; omega) (Nat.add_le_add_right (by omega) _)  (fun H locs v σ178 N hBn hX178 hP => ?_)
                    clear hB; have hB := hBn; clear hBn
                    obtain ⟨y178, rfl, hbx, hqt⟩ := hP
                    have ed5 := sg_eda F hB
                    have hI178 := inv_Qt hI3 hqt ed5
                    have tL5 : sgT σ178 le = 5 := (hqt.1 le (by rw [tle3]; decide)).1.trans tle3
                    have sL5 : sgSz σ178 le = sgSz σ3 le := sgSz_Qt hqt tle3
                    have z5 := zR_Qt hI3 hqt ed5 tl3
                    obtain ⟨ra181, za181, zb181⟩ := (inv_LS hI178).1 _ tL5 id
                    refine sg_callV (ci := 4) F hB (m_add l D cy za181 (fun j y h1 h2 => (inv_LS hI178).2.2.1 ra181 j y h1 h2) y178 (iEl_K (l0 := _) (g := g) (j := 0) (by unfold iEl; rw [rle]; exact hbx)) zb181 _) (cwV 1 F.1.2.2.2.2 (mgV (mm_3 _ (List.mem_of_getElem? (i := 9) rfl)) (mm_3 _ (List.mem_of_getElem? (i := 10) rfl)) (mm_3 _ (List.mem_of_getElem? (i := 11) rfl)) (mm_0 _ (List.mem_of_getElem? (i := 35) rfl)) (mm_2 _ (List.mem_of_getElem? (i := 29) rfl))) rfl rfl rfl ⟨rfl, by decide, by decide, by decide +kernel⟩ ⟨Nat.le_of_ble_eq_true rfl, Nat.le_of_ble_eq_true rfl⟩) rfl rfl (by decide) rfl hl.1 rfl (Nat.le_of_ble_eq_true rfl) dX14_sounds_181 (by show _ ≤ 18; omega) (Nat.add_le_add_right (by omega) _) tL5 (fun H locs v σ181 N hBn hX181 hP => ?_)
                    clear hB; have hB := hBn; clear hBn
                    obtain ⟨rfl, hAd181⟩ := hP
                    obtain ⟨hI181, ada181, adb181, adc181, add181, ade181, adf181, adg181, adh181⟩ := inv_ad hI178 tL5 za181 hAd181 (sg_eda F hB) (by unfold iEl; rw [rle]; exact hbx) (by rw [rle]; refine inv_cap ?_ (Or.inr rfl); rw [sL5]; omega) (Or.inl ⟨inv_nD hI178 (by rw [rle]; decide), rfl⟩) (nr7 rle (by decide))
                    have z181 : zR l1 σ σ181 := zR_tr hzr (zR_tr z5 (zR_l (l2 := le) add181 adf181 adg181 adh181 (tFr_T z5.1 tl3 (by decide)) nle))
                    refine lv_pop hx hb dX14_sounds_184 rfl ?_
                    refine lv_iinc (lv' := [(7, .int _), (8, .int _), (6, .ref _), (5, .ref _), (4, .int _), (3, .int _), (2, .ref _), (1, .int _), (0, .ref _)]) hx hb dX14_sounds_185 hl (k := 1) rfl rfl (by decide) rfl (fun ls hl => ?_)
                    refine lv_goto (tgt := 89) hx hb dX14_sounds_188 (by decide) ?_
                    have hi3 := i_nle c92
                    have e9 : (k9 + Int32.ofInt 1).toInt = k9.toInt + 1 := m_add1 (by omega) (by omega)
                    first
                      | exact ih89 _ (by subst hd89; rw [e9]; omega) _ _ _ _ _ _ _ _ hB (lv_sub hl [0, 2, 3, 4, 5, 6, 7, 8] rfl) hI181 ⟨by rw [e9]; omega, by rw [e9]; omega⟩ (by rw [e9, ada181, sL5]; omega) ⟨by rw [e9]; show kc + 1 + 1 ≤ _; omega, by rw [e9]; omega⟩ z181 rfl
                      | exact ih89 _ (by subst hd89; rw [e9]; omega) _ _ _ _ _ _ _ _ hB (lv_sub hl [0, 2, 3, 4, 5, 6, 7, 8] rfl) hI3 ⟨by rw [e9]; omega, by rw [e9]; omega⟩ (by rw [e9]; omega) ⟨by rw [e9]; omega, by rw [e9]; omega⟩ hzr rfl
                · refine lv_aload_n hx hb dX14_sounds_142 rfl (lv_at hl 6 rfl) ?_
                  refine gf_X14_300 F hB dX14_sounds_143 tx3 ?_
                  refine lv_if_eq (tgt := 165) hx hb dX14_sounds_146 (by decide) (fun c146 => ?_) (fun c146 => ((c146 ((x03).trans hin)) : False).elim)
                  refine lv_iload hx hb dX14_sounds_165 (lv_at hl 4 rfl) ?_
                  refine lv_bipush (v := 32) hx hb dX14_sounds_167 (by decide) ?_
                  refine lv_icmp_ne (tgt := 185) hx hb dX14_sounds_169 (by decide) (fun c169 => ?_) (fun c169 => ?_)
                  · refine lv_iinc (lv' := [(7, .int _), (8, .int _), (6, .ref _), (5, .ref _), (4, .int _), (3, .int _), (2, .ref _), (1, .int _), (0, .ref _)]) hx hb dX14_sounds_185 hl (k := 1) rfl rfl (by decide) rfl (fun ls hl => ?_)
                    refine lv_goto (tgt := 89) hx hb dX14_sounds_188 (by decide) ?_
                    have hi3 := i_nle c92
                    have e9 : (k9 + Int32.ofInt 1).toInt = k9.toInt + 1 := m_add1 (by omega) (by omega)
                    first
                      | exact ih89 _ (by subst hd89; rw [e9]; omega) _ _ _ _ _ _ _ _ hB (lv_sub hl [0, 2, 3, 4, 5, 6, 7, 8] rfl) hI181 ⟨by rw [e9]; omega, by rw [e9]; omega⟩ (by rw [e9, ada181, sL5]; omega) ⟨by rw [e9]; show kc + 1 + 1 ≤ _; omega, by rw [e9]; omega⟩ z181 rfl
                      | exact ih89 _ (by subst hd89; rw [e9]; omega) _ _ _ _ _ _ _ _ hB (lv_sub hl [0, 2, 3, 4, 5, 6, 7, 8] rfl) hI3 ⟨by rw [e9]; omega, by rw [e9]; omega⟩ (by rw [e9]; omega) ⟨by rw [e9]; omega, by rw [e9]; omega⟩ hzr rfl
                  · refine lv_aload_n hx hb dX14_sounds_172 rfl (lv_at hl 6 rfl) ?_
                    refine gr_X14_320 F hB dX14_sounds_173 tx3 hle3 ?_
                    refine lv_iload hx hb dX14_sounds_176 (lv_at hl 0 rfl) ?_
                    refine sg_callS F hB (m_box l D cy _ _) (va_cwS 1 F.1.2.2.2.2 (mgS2 (mm_7 _ (List.mem_of_getElem? (i := 33) rfl)) (mm_7 _ (List.mem_of_getElem? (i := 34) rfl)) (mm_7 _ (List.mem_of_getElem? (i := 30) rfl)) (mm_7 _ (List.mem_of_getElem? (i := 25) rfl))) rfl rfl rfl ⟨by decide, by decide, by decide +kernel⟩ ⟨Nat.le_of_ble_eq_true rfl, Nat.le_of_ble_eq_true rfl⟩) rfl hl.1 rfl (Nat.le_of_ble_eq_true rfl) dX14_sounds_178 (by show _ ≤ 18; omega) (Nat.add_le_add_right (by omega) _)  (fun H locs v σ178 N hBn hX178 hP => ?_)
                    clear hB; have hB := hBn; clear hBn
                    obtain ⟨y178, rfl, hbx, hqt⟩ := hP
                    have ed5 := sg_eda F hB
                    have hI178 := inv_Qt hI3 hqt ed5
                    have tL5 : sgT σ178 le = 5 := (hqt.1 le (by rw [tle3]; decide)).1.trans tle3
                    have sL5 : sgSz σ178 le = sgSz σ3 le := sgSz_Qt hqt tle3
                    have z5 := zR_Qt hI3 hqt ed5 tl3
                    obtain ⟨ra181, za181, zb181⟩ := (inv_LS hI178).1 _ tL5 id
                    refine sg_callV (ci := 4) F hB (m_add l D cy za181 (fun j y h1 h2 => (inv_LS hI178).2.2.1 ra181 j y h1 h2) y178 (iEl_K (l0 := _) (g := g) (j := 0) (by unfold iEl; rw [rle]; exact hbx)) zb181 _) (cwV 1 F.1.2.2.2.2 (mgV (mm_3 _ (List.mem_of_getElem? (i := 9) rfl)) (mm_3 _ (List.mem_of_getElem? (i := 10) rfl)) (mm_3 _ (List.mem_of_getElem? (i := 11) rfl)) (mm_0 _ (List.mem_of_getElem? (i := 35) rfl)) (mm_2 _ (List.mem_of_getElem? (i := 29) rfl))) rfl rfl rfl ⟨rfl, by decide, by decide, by decide +kernel⟩ ⟨Nat.le_of_ble_eq_true rfl, Nat.le_of_ble_eq_true rfl⟩) rfl rfl (by decide) rfl hl.1 rfl (Nat.le_of_ble_eq_true rfl) dX14_sounds_181 (by show _ ≤ 18; omega) (Nat.add_le_add_right (by omega) _) tL5 (fun H locs v σ181 N hBn hX181 hP => ?_)
                    clear hB; have hB := hBn; clear hBn
                    obtain ⟨rfl, hAd181⟩ := hP
                    obtain ⟨hI181, ada181, adb181, adc181, add181, ade181, adf181, adg181, adh181⟩ := inv_ad hI178 tL5 za181 hAd181 (sg_eda F hB) (by unfold iEl; rw [rle]; exact hbx) (by rw [rle]; refine inv_cap ?_ (Or.inr rfl); rw [sL5]; omega) (Or.inl ⟨inv_nD hI178 (by rw [rle]; decide), rfl⟩) (nr7 rle (by decide))
                    have z181 : zR l1 σ σ181 := zR_tr hzr (zR_tr z5 (zR_l (l2 := le) add181 adf181 adg181 adh181 (tFr_T z5.1 tl3 (by decide)) nle))
                    refine lv_pop hx hb dX14_sounds_184 rfl ?_
                    refine lv_iinc (lv' := [(7, .int _), (8, .int _), (6, .ref _), (5, .ref _), (4, .int _), (3, .int _), (2, .ref _), (1, .int _), (0, .ref _)]) hx hb dX14_sounds_185 hl (k := 1) rfl rfl (by decide) rfl (fun ls hl => ?_)
                    refine lv_goto (tgt := 89) hx hb dX14_sounds_188 (by decide) ?_
                    have hi3 := i_nle c92
                    have e9 : (k9 + Int32.ofInt 1).toInt = k9.toInt + 1 := m_add1 (by omega) (by omega)
                    first
                      | exact ih89 _ (by subst hd89; rw [e9]; omega) _ _ _ _ _ _ _ _ hB (lv_sub hl [0, 2, 3, 4, 5, 6, 7, 8] rfl) hI181 ⟨by rw [e9]; omega, by rw [e9]; omega⟩ (by rw [e9, ada181, sL5]; omega) ⟨by rw [e9]; show kc + 1 + 1 ≤ _; omega, by rw [e9]; omega⟩ z181 rfl
                      | exact ih89 _ (by subst hd89; rw [e9]; omega) _ _ _ _ _ _ _ _ hB (lv_sub hl [0, 2, 3, 4, 5, 6, 7, 8] rfl) hI3 ⟨by rw [e9]; omega, by rw [e9]; omega⟩ (by rw [e9]; omega) ⟨by rw [e9]; omega, by rw [e9]; omega⟩ hzr rfl
    · refine lv_aload_n hx hb dX14_sounds_36 rfl (lv_at hl 2 rfl) ?_
      refine lv_aload hx hb dX14_sounds_37 (lv_at hl 1 rfl) ?_
      refine gf_X14_133 F hB dX14_sounds_39 tp ?_
      refine sg_callV (ci := 19) F hB (m_shut l D cy h hY _ pn.1 pn.2.1 (inv_pu h (by omega) hpp) _) (cwV 1 F.1.2.2.2.2 (mgV (mm_12 _ (List.mem_of_getElem? (i := 1) rfl)) (mm_12 _ (List.mem_of_getElem? (i := 2) rfl)) (mm_12 _ (List.mem_of_getElem? (i := 3) rfl)) (mm_3 _ (List.mem_of_getElem? (i := 23) rfl)) (mm_11 _ (List.mem_of_getElem? (i := 39) rfl))) rfl rfl rfl ⟨rfl, by decide, by decide, by decide +kernel⟩ ⟨Nat.le_of_ble_eq_true rfl, Nat.le_of_ble_eq_true rfl⟩) rfl rfl (by decide) rfl hl.1 rfl (Nat.le_of_ble_eq_true rfl) dX14_sounds_42 (Nat.le_of_ble_eq_true rfl) (Nat.add_le_add_right (Nat.le_of_ble_eq_true rfl) _) (inv_A h) (fun H locs v σ42 N hBn hX42 hP => ?_)
      clear hB; have hB := hBn; clear hBn
      obtain ⟨rfl, hI42⟩ := hP
      refine lv_iconst (v := 1) hx hb dX14_sounds_45 (by decide) ?_
      exact sg_iret F hB hrt dX14_sounds_46 (by omega) (by omega) (⟨⟨_, rfl, Or.inl rfl⟩, hI42⟩)
end MM30B
