section MM29
theorem m_addb {d b : Int32} (h1 : 0 ≤ d.toInt) (h2 : d.toInt ≤ 1000) (h3 : 0 ≤ b.toInt) (h4 : b.toInt ≤ 1000) : (d + b).toInt = d.toInt + b.toInt := i_add (by omega) (by omega)
theorem zz3 {D : va_G} {cy : Nat → ClassId} {s : State} {σ00 σ0 σ : SG} {H : Heap} {locs : List Loc} {N n9 l1 a p : Nat} {u1 u2 u3 : Int32} (_hB : sgB D cy s σ00 (sgPI (sgPI (sgPI σ a 16 u1) p 7 u2) p 5 u3) H locs N n9) (z : zR l1 σ0 σ) (ta : sgT σ a = 20) (tp : sgT σ p = 18) (tl : sgT σ l1 = 5) : zR l1 σ0 (sgPI (sgPI (sgPI σ a 16 u1) p 7 u2) p 5 u3) := zR_tr z (zR_tr (zR_PI ta (by decide) tl) (zR_tr (zR_PI (t := 18) tp (by decide) tl) (zR_PI (t := 18) tp (by decide) tl)))
theorem wPp_hB {D : va_G} {cy : Nat → ClassId} {s : State} {σ00 σ : SG} {H : Heap} {locs : List Loc} {N n9 t1 : Nat} {u : Int32} {K : KM} {g : GH} {x : Int32} {pp l1 t0 xe le : Nat} (_hB : sgB D cy s σ00 (sgPI σ t1 2 u) H locs N n9) (w : wPp K g (sgPI σ t1 2 u) x pp l1 t0 xe le) : wPp K g (sgPI σ t1 2 u) x pp l1 t0 xe le := w
theorem m_evm {D : va_G} {cy : Nat → ClassId} {s : State} {σ00 σ : SG} {H : Heap} {locs : List Loc} {N n9 : Nat} {K : KM} (_hB : sgB D cy s σ00 σ H locs N n9) : ∃ m1 : Nat, m1 = min 1 (6 - sgSz σ (kE K)) := ⟨_, rfl⟩
theorem zPIB {D : va_G} {cy : Nat → ClassId} {s : State} {σ00 σ : SG} {H : Heap} {locs : List Loc} {N n9 l1 a k t : Nat} {v : Int32} (_hB : sgB D cy s σ00 (sgPI σ a k v) H locs N n9) (ha : sgT σ a = t) (ht : t ≠ 19 ∧ t ≠ 5 ∧ (t ≠ 18 ∨ 3 ≤ k) ∧ (t ≠ 17 ∨ 2 ≤ k)) (tl : sgT σ l1 = 5) : zR l1 σ (sgPI σ a k v) := zR_PI ha ht tl
theorem zR_le {l1 le : Nat} {σ σ2 : SG} (_h : zR l1 σ σ2) : sgSz σ2 le = sgSz σ2 le := rfl
theorem iW_L {D : va_G} {cy : Nat → ClassId} {s : State} {σ00 σ : SG} {H : Heap} {locs : List Loc} {N n9 t0 xe : Nat} {b : Int32} (_hB : sgB D cy s σ00 (sgPI σ t0 2 (sgI σ t0 2 + b)) H locs N n9) (hi : iW σ xe t0) (tt : sgT σ t0 = 19) (tx : sgT σ xe = 17) (hb1 : 0 ≤ b.toInt) (hb2 : b.toInt ≤ 8) (hlt : (sgI σ t0 2).toInt + b.toInt < (sgI σ t0 1).toInt) : iW (sgPI σ t0 2 (sgI σ t0 2 + b)) xe t0 := by
  obtain ⟨i1, i2, i3, i4⟩ := hi
  have ne : xe ≠ t0 := fun z => by rw [z, tt] at tx; exact absurd tx (by decide)
  have e2 : sgI (sgPI σ t0 2 (sgI σ t0 2 + b)) t0 2 = sgI σ t0 2 + b := by rw [sgI_PI, if_pos ⟨rfl, rfl⟩]
  have e1 : sgI (sgPI σ t0 2 (sgI σ t0 2 + b)) t0 1 = sgI σ t0 1 := sgI_nk (by decide)
  have e0 : sgI (sgPI σ t0 2 (sgI σ t0 2 + b)) xe 0 = sgI σ xe 0 := sgI_nk (by decide)
  have es := m_addb (d := sgI σ t0 2) (b := b) i1 (by omega) hb1 (by omega)
  unfold iW
  rw [e2, e1, e0, es]
  exact ⟨by omega, by omega, i3, i4⟩
theorem iW_E {D : va_G} {cy : Nat → ClassId} {s : State} {σ00 σ : SG} {H : Heap} {locs : List Loc} {N n9 t0 xe : Nat} {b : Int32} (hB : sgB D cy s σ00 (sgPI σ t0 2 (sgI σ t0 2 + b)) H locs N n9) (hi : iW σ xe t0) (tt : sgT σ t0 = 19) (tx : sgT σ xe = 17) (hb1 : 0 ≤ b.toInt) (hb2 : b.toInt ≤ 8) (hle : b.toInt ≤ (sgI σ t0 1).toInt - (sgI σ t0 2).toInt) (hne : ¬ sgI (sgPI σ t0 2 (sgI σ t0 2 + b)) t0 2 = sgI (sgPI σ t0 2 (sgI σ t0 2 + b)) t0 1) : iW (sgPI σ t0 2 (sgI σ t0 2 + b)) xe t0 := by
  have hi2 := hi
  obtain ⟨i1, i2, i3, -⟩ := hi2
  have e2 : sgI (sgPI σ t0 2 (sgI σ t0 2 + b)) t0 2 = sgI σ t0 2 + b := by rw [sgI_PI, if_pos ⟨rfl, rfl⟩]
  have e1 : sgI (sgPI σ t0 2 (sgI σ t0 2 + b)) t0 1 = sgI σ t0 1 := sgI_nk (by decide)
  have es := m_addb (d := sgI σ t0 2) (b := b) i1 (by omega) hb1 (by omega)
  have q := m_neI hne
  rw [e2, e1, es] at q
  exact iW_L hB hi tt tx hb1 hb2 (by omega)
theorem m_stv {σ : SG} {a : Nat} {v : Int32} : sgI (sgPI σ a 2 v) a 2 = v := by rw [sgI_PI, if_pos ⟨rfl, rfl⟩]
theorem inv_cap {S hw r s : Nat} (h : s + 1 ≤ S - hw) (hr : r = 5 ∨ r = 6) : s + 1 ≤ iCap S hw r := by
  rcases hr with rfl | rfl <;> exact h
theorem dX14_goes_0 : decode cX14_goes 0 = .ok (.aload_n 0, 1) := by decide +kernel
theorem dX14_goes_1 : decode cX14_goes 1 = .ok (.getfield 18, 3) := by decide +kernel
theorem dX14_goes_4 : decode cX14_goes 4 = .ok (.iload_n 1, 1) := by decide +kernel
theorem dX14_goes_5 : decode cX14_goes 5 = .ok (.aaload, 1) := by decide +kernel
theorem dX14_goes_6 : decode cX14_goes 6 = .ok (.astore 5, 2) := by decide +kernel
theorem dX14_goes_8 : decode cX14_goes 8 = .ok (.aload 5, 2) := by decide +kernel
theorem dX14_goes_10 : decode cX14_goes 10 = .ok (.getfield 199, 3) := by decide +kernel
theorem dX14_goes_13 : decode cX14_goes 13 = .ok (.iconst 0, 1) := by decide +kernel
theorem dX14_goes_14 : decode cX14_goes 14 = .ok (.invokevirtual 76, 3) := by decide +kernel
theorem dX14_goes_17 : decode cX14_goes 17 = .ok (.checkcast 275, 3) := by decide +kernel
theorem dX14_goes_20 : decode cX14_goes 20 = .ok (.astore 6, 2) := by decide +kernel
theorem dX14_goes_22 : decode cX14_goes 22 = .ok (.iload 4, 2) := by decide +kernel
theorem dX14_goes_24 : decode cX14_goes 24 = .ok (.lookupswitch 71 #[(98, 52), (99, 52), (110, 60), (115, 65), (116, 52)], 52) := by decide +kernel
theorem dX14_goes_76 : decode cX14_goes 76 = .ok (.aload_n 0, 1) := by decide +kernel
theorem dX14_goes_77 : decode cX14_goes 77 = .ok (.iload_n 1, 1) := by decide +kernel
theorem dX14_goes_78 : decode cX14_goes 78 = .ok (.iload 4, 2) := by decide +kernel
theorem dX14_goes_80 : decode cX14_goes 80 = .ok (.invokevirtual 384, 3) := by decide +kernel
theorem dX14_goes_83 : decode cX14_goes 83 = .ok (.ireturn, 1) := by decide +kernel
theorem dX14_goes_84 : decode cX14_goes 84 = .ok (.aload_n 0, 1) := by decide +kernel
theorem dX14_goes_85 : decode cX14_goes 85 = .ok (.invokevirtual 390, 3) := by decide +kernel
theorem dX14_goes_88 : decode cX14_goes 88 = .ok (.ireturn, 1) := by decide +kernel
theorem dX14_goes_89 : decode cX14_goes 89 = .ok (.aload_n 0, 1) := by decide +kernel
theorem dX14_goes_90 : decode cX14_goes 90 = .ok (.iload_n 1, 1) := by decide +kernel
theorem dX14_goes_91 : decode cX14_goes 91 = .ok (.invokevirtual 387, 3) := by decide +kernel
theorem dX14_goes_94 : decode cX14_goes 94 = .ok (.ireturn, 1) := by decide +kernel
theorem dX14_goes_95 : decode cX14_goes 95 = .ok (.aload_n 0, 1) := by decide +kernel
theorem dX14_goes_96 : decode cX14_goes 96 = .ok (.dup, 1) := by decide +kernel
theorem dX14_goes_97 : decode cX14_goes 97 = .ok (.getfield 366, 3) := by decide +kernel
theorem dX14_goes_100 : decode cX14_goes 100 = .ok (.iconst 1, 1) := by decide +kernel
theorem dX14_goes_101 : decode cX14_goes 101 = .ok (.iadd, 1) := by decide +kernel
theorem dX14_goes_102 : decode cX14_goes 102 = .ok (.putfield 366, 3) := by decide +kernel
theorem dX14_goes_105 : decode cX14_goes 105 = .ok (.aload_n 2, 1) := by decide +kernel
theorem dX14_goes_106 : decode cX14_goes 106 = .ok (.getfield 266, 3) := by decide +kernel
theorem dX14_goes_109 : decode cX14_goes 109 = .ok (.aload 5, 2) := by decide +kernel
theorem dX14_goes_111 : decode cX14_goes 111 = .ok (.getfield 319, 3) := by decide +kernel
theorem dX14_goes_114 : decode cX14_goes 114 = .ok (.if_icmp .ne 53, 3) := by decide +kernel
theorem dX14_goes_117 : decode cX14_goes 117 = .ok (.iconst 0, 1) := by decide +kernel
theorem dX14_goes_118 : decode cX14_goes 118 = .ok (.istore 7, 2) := by decide +kernel
theorem dX14_goes_120 : decode cX14_goes 120 = .ok (.iload 7, 2) := by decide +kernel
theorem dX14_goes_122 : decode cX14_goes 122 = .ok (.iload_n 3, 1) := by decide +kernel
theorem dX14_goes_123 : decode cX14_goes 123 = .ok (.if_icmp .ge 34, 3) := by decide +kernel
theorem dX14_goes_126 : decode cX14_goes 126 = .ok (.aload_n 2, 1) := by decide +kernel
theorem dX14_goes_127 : decode cX14_goes 127 = .ok (.getfield 320, 3) := by decide +kernel
theorem dX14_goes_130 : decode cX14_goes 130 = .ok (.aload 6, 2) := by decide +kernel
theorem dX14_goes_132 : decode cX14_goes 132 = .ok (.getfield 369, 3) := by decide +kernel
theorem dX14_goes_135 : decode cX14_goes 135 = .ok (.aload 6, 2) := by decide +kernel
theorem dX14_goes_137 : decode cX14_goes 137 = .ok (.getfield 284, 3) := by decide +kernel
theorem dX14_goes_140 : decode cX14_goes 140 = .ok (.iload 7, 2) := by decide +kernel
theorem dX14_goes_142 : decode cX14_goes 142 = .ok (.iadd, 1) := by decide +kernel
theorem dX14_goes_143 : decode cX14_goes 143 = .ok (.iaload, 1) := by decide +kernel
theorem dX14_goes_144 : decode cX14_goes 144 = .ok (.invokestatic 212, 3) := by decide +kernel
theorem dX14_goes_147 : decode cX14_goes 147 = .ok (.invokevirtual 57, 3) := by decide +kernel
theorem dX14_goes_150 : decode cX14_goes 150 = .ok (.pop, 1) := by decide +kernel
theorem dX14_goes_151 : decode cX14_goes 151 = .ok (.iinc 7 1, 3) := by decide +kernel
theorem dX14_goes_154 : decode cX14_goes 154 = .ok (.goto (-34), 3) := by decide +kernel
theorem dX14_goes_157 : decode cX14_goes 157 = .ok (.aload_n 2, 1) := by decide +kernel
theorem dX14_goes_158 : decode cX14_goes 158 = .ok (.iconst 1, 1) := by decide +kernel
theorem dX14_goes_159 : decode cX14_goes 159 = .ok (.aload_n 2, 1) := by decide +kernel
theorem dX14_goes_160 : decode cX14_goes 160 = .ok (.getfield 266, 3) := by decide +kernel
theorem dX14_goes_163 : decode cX14_goes 163 = .ok (.isub, 1) := by decide +kernel
theorem dX14_goes_164 : decode cX14_goes 164 = .ok (.putfield 266, 3) := by decide +kernel
theorem dX14_goes_167 : decode cX14_goes 167 = .ok (.iload 4, 2) := by decide +kernel
theorem dX14_goes_169 : decode cX14_goes 169 = .ok (.bipush 32, 2) := by decide +kernel
theorem dX14_goes_171 : decode cX14_goes 171 = .ok (.if_icmp .eq 11, 3) := by decide +kernel
theorem dX14_goes_174 : decode cX14_goes 174 = .ok (.aload_n 0, 1) := by decide +kernel
theorem dX14_goes_175 : decode cX14_goes 175 = .ok (.iload_n 1, 1) := by decide +kernel
theorem dX14_goes_176 : decode cX14_goes 176 = .ok (.iload 4, 2) := by decide +kernel
theorem dX14_goes_178 : decode cX14_goes 178 = .ok (.invokevirtual 384, 3) := by decide +kernel
theorem dX14_goes_181 : decode cX14_goes 181 = .ok (.ireturn, 1) := by decide +kernel
theorem dX14_goes_182 : decode cX14_goes 182 = .ok (.aload_n 0, 1) := by decide +kernel
theorem dX14_goes_183 : decode cX14_goes 183 = .ok (.dup, 1) := by decide +kernel
theorem dX14_goes_184 : decode cX14_goes 184 = .ok (.getfield 381, 3) := by decide +kernel
theorem dX14_goes_187 : decode cX14_goes 187 = .ok (.iconst 1, 1) := by decide +kernel
theorem dX14_goes_188 : decode cX14_goes 188 = .ok (.iadd, 1) := by decide +kernel
theorem dX14_goes_189 : decode cX14_goes 189 = .ok (.putfield 381, 3) := by decide +kernel
theorem dX14_goes_192 : decode cX14_goes 192 = .ok (.aload 5, 2) := by decide +kernel
theorem dX14_goes_194 : decode cX14_goes 194 = .ok (.iconst 0, 1) := by decide +kernel
theorem dX14_goes_195 : decode cX14_goes 195 = .ok (.putfield 316, 3) := by decide +kernel
theorem dX14_goes_198 : decode cX14_goes 198 = .ok (.aload 5, 2) := by decide +kernel
theorem dX14_goes_200 : decode cX14_goes 200 = .ok (.iconst 1, 1) := by decide +kernel
theorem dX14_goes_201 : decode cX14_goes 201 = .ok (.aload 5, 2) := by decide +kernel
theorem dX14_goes_203 : decode cX14_goes 203 = .ok (.getfield 319, 3) := by decide +kernel
theorem dX14_goes_206 : decode cX14_goes 206 = .ok (.isub, 1) := by decide +kernel
theorem dX14_goes_207 : decode cX14_goes 207 = .ok (.putfield 319, 3) := by decide +kernel
theorem dX14_goes_210 : decode cX14_goes 210 = .ok (.aload 6, 2) := by decide +kernel
theorem dX14_goes_212 : decode cX14_goes 212 = .ok (.dup, 1) := by decide +kernel
theorem dX14_goes_213 : decode cX14_goes 213 = .ok (.getfield 284, 3) := by decide +kernel
theorem dX14_goes_216 : decode cX14_goes 216 = .ok (.iload_n 3, 1) := by decide +kernel
theorem dX14_goes_217 : decode cX14_goes 217 = .ok (.iadd, 1) := by decide +kernel
theorem dX14_goes_218 : decode cX14_goes 218 = .ok (.putfield 284, 3) := by decide +kernel
theorem dX14_goes_221 : decode cX14_goes 221 = .ok (.aload 6, 2) := by decide +kernel
theorem dX14_goes_223 : decode cX14_goes 223 = .ok (.getfield 284, 3) := by decide +kernel
theorem dX14_goes_226 : decode cX14_goes 226 = .ok (.aload 6, 2) := by decide +kernel
theorem dX14_goes_228 : decode cX14_goes 228 = .ok (.getfield 338, 3) := by decide +kernel
theorem dX14_goes_231 : decode cX14_goes 231 = .ok (.if_icmp .ne 10, 3) := by decide +kernel
theorem dX14_goes_234 : decode cX14_goes 234 = .ok (.aload_n 0, 1) := by decide +kernel
theorem dX14_goes_235 : decode cX14_goes 235 = .ok (.iload_n 1, 1) := by decide +kernel
theorem dX14_goes_236 : decode cX14_goes 236 = .ok (.bipush 100, 2) := by decide +kernel
theorem dX14_goes_238 : decode cX14_goes 238 = .ok (.invokevirtual 290, 3) := by decide +kernel
theorem dX14_goes_241 : decode cX14_goes 241 = .ok (.iconst 1, 1) := by decide +kernel
theorem dX14_goes_242 : decode cX14_goes 242 = .ok (.ireturn, 1) := by decide +kernel
set_option maxRecDepth 100000 in
set_option maxHeartbeats 4000000 in
theorem m_goes (l : Launch) (D : va_G) (cy : Nat → ClassId) {eda ca : Nat} {ia : Nat → Nat} {σ : SG} {K : KM} {g : GH} {n S hw : Nat} (h : Inv eda ia K g n S hw σ) (hY : nY g) {pp l1 t0 xe le : Nat} (x : Int32) (w : wPp K g σ x pp l1 t0 xe le) (b f0 : Int32) (hb : 1 ≤ b.toInt ∧ b.toInt ≤ 8) (hbm : b.toInt ≤ (sgI σ t0 1).toInt - (sgI σ t0 2).toInt) (hin : sgI σ xe 0 = 0) (hf0 : 0 ≤ f0.toInt ∧ f0.toInt ≤ 65535) (hcap : sgSz σ le + b.toInt.toNat ≤ S - hw) (sz : Nat) : sgM l D cy eda ca ia σ sz yX14_goes (Cond.code yX14_goes cX14_goes 8 (some .int) :: mWall) 10 241 18 146 [.ref (kA K), .int x, .ref xe, .int b, .int f0] (fun v σ2 => (∃ y : Int32, v = some (.int y) ∧ (y = 1 ∨ y = 2)) ∧ Inv eda ia K g n S hw σ2) := by
  refine sg_ofW (cc := cX14_goes) (maxL := 8) (ret := (some .int)) (by decide) rfl (Nat.le_of_ble_eq_true rfl) (lv := [(0, .ref (kA K)), (1, .int x), (2, .ref xe), (3, .int b), (4, .int f0)]) rfl (fun p e s m below meth c ls H N hrt hnm F hB hl => ?_) sz
  have hx := F.1.1
  have hb := F.1.2.1
  have hown := F.1.2.2.2.1
  obtain ⟨tp, ⟨tl, rl, ol⟩, ⟨tt, ot, ht⟩, ⟨tle, rle, ole⟩, pn, hcp, hgr, hk1, hen, hrw⟩ := wPp_of h w
  have wc := w
  obtain ⟨⟨w1, w2⟩, hpp, hl1, h0, ha0, txe, hle, ew, ew1, ew2⟩ := w
  obtain ⟨iw1, iw2, iw3, iw4⟩ := ht.resolve_left (hY _)
  have nle : l1 ≠ le := fun z => absurd (rl.symm.trans ((congrArg (gRo g) z).trans rle)) (by decide)
  obtain ⟨bt, ht0, tbt, nbt⟩ := inv_T h t0 tt
  have iw5 := iw4 hin bt ht0
  have hnl : sgN σ bt < 2147483648 := by omega
  generalize hlo : ([] : List Loc) = locs at hB ⊢
  clear hlo
  refine lv_aload_n hx hb dX14_goes_0 rfl (lv_at hl 0 rfl) ?_
  refine gr_X14_18 F hB dX14_goes_1 (inv_A h) (inv_r2 h) ?_
  refine lv_iload_n hx hb dX14_goes_4 rfl (lv_at hl 1 rfl) ?_
  refine sg_aaldR 9 hx hb F.2.1 hB.1 rfl rfl dX14_goes_5 (inv_tP h).1 (by omega) (m_ltN (n := 12) (inv_tP h).2 (by omega)) (m_ltM (inv_tP h).2 (by decide)) hpp ?_
  refine lv_astore (lv' := [(5, .ref _), (0, .ref _), (1, .int _), (2, .ref _), (3, .int _), (4, .int _)]) hx hb dX14_goes_6 hl (by decide) rfl (fun ls hl => ?_)
  refine lv_aload hx hb dX14_goes_8 (lv_at hl 0 rfl) ?_
  refine gr_X14_199 F hB dX14_goes_10 tp hl1 ?_
  refine lv_iconst (v := 0) hx hb dX14_goes_13 (by decide) ?_
  refine sg_callV (ci := 4) F hB (m_getL l D cy (inv_LS h) tl id 0 (by decide) (by rw [m_i0]; omega) ha0 _) (cwV 1 F.1.2.2.2.2 (mgV (mm_4 _ (List.mem_of_getElem? (i := 3) rfl)) (mm_4 _ (List.mem_of_getElem? (i := 4) rfl)) (mm_4 _ (List.mem_of_getElem? (i := 5) rfl)) (mm_0 _ (List.mem_of_getElem? (i := 35) rfl)) (mm_3 _ (List.mem_of_getElem? (i := 34) rfl))) rfl rfl rfl ⟨rfl, by decide, by decide, by decide +kernel⟩ ⟨Nat.le_of_ble_eq_true rfl, Nat.le_of_ble_eq_true rfl⟩) rfl rfl (by decide) rfl hl.1 rfl (Nat.le_of_ble_eq_true rfl) dX14_goes_14 (Nat.le_of_ble_eq_true rfl) (Nat.add_le_add_right (Nat.le_of_ble_eq_true rfl) _) tl (fun H locs v σ14 N hBn hX14 hP => ?_)
  clear hB; have hB := hBn; clear hBn
  obtain ⟨rfl, rfl⟩ := hP
  refine va_castY hx hb hown (F.1.2.2.2.2 _ (List.mem_cons_of_mem _ (mm_5 _ (List.mem_of_getElem? (i := 25) rfl)))) (F.2.2.1.2.2 ("HubcascadeModel$Transfer", "HubcascadeModel$Transfer") (by decide +kernel)) (sg_recv (ci := 18) F.2.1 hB tt (by decide) rfl) dX14_goes_17 ?_
  refine lv_astore (lv' := [(6, .ref _), (5, .ref _), (0, .ref _), (1, .int _), (2, .ref _), (3, .int _), (4, .int _)]) hx hb dX14_goes_20 hl (by decide) rfl (fun ls hl => ?_)
  refine lv_iload hx hb dX14_goes_22 (lv_at hl 6 rfl) ?_
  by_cases s24_0 : f0 = 98
  · skip
    refine lv_lookup (tgt := 76) hx hb dX14_goes_24 (by decide) (by first | (rw [s24_0]; done) | (rw [s24_0]; rfl)) (by decide) ?_
    refine lv_aload_n hx hb dX14_goes_76 rfl (lv_at hl 2 rfl) ?_
    refine lv_iload_n hx hb dX14_goes_77 rfl (lv_at hl 3 rfl) ?_
    refine lv_iload hx hb dX14_goes_78 (lv_at hl 6 rfl) ?_
    refine sg_callV (ci := 19) F hB (m_fails l D cy h x wc f0 hf0 _) (cwV 2 F.1.2.2.2.2 (mgV (mm_12 _ (List.mem_of_getElem? (i := 14) rfl)) (mm_12 _ (List.mem_of_getElem? (i := 15) rfl)) (mm_12 _ (List.mem_of_getElem? (i := 16) rfl)) (mm_3 _ (List.mem_of_getElem? (i := 23) rfl)) (mm_12 _ (List.mem_of_getElem? (i := 9) rfl))) rfl rfl rfl ⟨rfl, by decide, by decide, by decide +kernel⟩ ⟨Nat.le_of_ble_eq_true rfl, Nat.le_of_ble_eq_true rfl⟩) rfl rfl (by decide) rfl hl.1 rfl (Nat.le_of_ble_eq_true rfl) dX14_goes_80 (Nat.le_of_ble_eq_true rfl) (Nat.add_le_add_right (Nat.le_of_ble_eq_true rfl) _) (inv_A h) (fun H locs v σ80 N hBn hX80 hP => ?_)
    clear hB; have hB := hBn; clear hBn
    obtain ⟨rfl, hI80⟩ := hP
    exact sg_iret F hB hrt dX14_goes_83 (by omega) (by omega) (⟨⟨_, rfl, Or.inr rfl⟩, hI80⟩)
  by_cases s24_1 : f0 = 99
  · skip
    refine lv_lookup (tgt := 76) hx hb dX14_goes_24 (by decide) (by first | (rw [s24_1]; done) | (rw [s24_1]; rfl)) (by decide) ?_
    refine lv_aload_n hx hb dX14_goes_76 rfl (lv_at hl 2 rfl) ?_
    refine lv_iload_n hx hb dX14_goes_77 rfl (lv_at hl 3 rfl) ?_
    refine lv_iload hx hb dX14_goes_78 (lv_at hl 6 rfl) ?_
    refine sg_callV (ci := 19) F hB (m_fails l D cy h x wc f0 hf0 _) (cwV 2 F.1.2.2.2.2 (mgV (mm_12 _ (List.mem_of_getElem? (i := 14) rfl)) (mm_12 _ (List.mem_of_getElem? (i := 15) rfl)) (mm_12 _ (List.mem_of_getElem? (i := 16) rfl)) (mm_3 _ (List.mem_of_getElem? (i := 23) rfl)) (mm_12 _ (List.mem_of_getElem? (i := 9) rfl))) rfl rfl rfl ⟨rfl, by decide, by decide, by decide +kernel⟩ ⟨Nat.le_of_ble_eq_true rfl, Nat.le_of_ble_eq_true rfl⟩) rfl rfl (by decide) rfl hl.1 rfl (Nat.le_of_ble_eq_true rfl) dX14_goes_80 (Nat.le_of_ble_eq_true rfl) (Nat.add_le_add_right (Nat.le_of_ble_eq_true rfl) _) (inv_A h) (fun H locs v σ80 N hBn hX80 hP => ?_)
    clear hB; have hB := hBn; clear hBn
    obtain ⟨rfl, hI80⟩ := hP
    exact sg_iret F hB hrt dX14_goes_83 (by omega) (by omega) (⟨⟨_, rfl, Or.inr rfl⟩, hI80⟩)
  by_cases s24_2 : f0 = 110
  · skip
    refine lv_lookup (tgt := 84) hx hb dX14_goes_24 (by decide) (by first | (rw [s24_2]; done) | (rw [s24_2]; rfl)) (by decide) ?_
    refine lv_aload_n hx hb dX14_goes_84 rfl (lv_at hl 2 rfl) ?_
    refine sg_callV (ci := 19) F hB (m_notYet l D cy h _) (cwV 0 F.1.2.2.2.2 (mgV (mm_12 _ (List.mem_of_getElem? (i := 20) rfl)) (mm_12 _ (List.mem_of_getElem? (i := 21) rfl)) (mm_12 _ (List.mem_of_getElem? (i := 22) rfl)) (mm_3 _ (List.mem_of_getElem? (i := 23) rfl)) (mm_12 _ (List.mem_of_getElem? (i := 12) rfl))) rfl rfl rfl ⟨rfl, by decide, by decide, by decide +kernel⟩ ⟨Nat.le_of_ble_eq_true rfl, Nat.le_of_ble_eq_true rfl⟩) rfl rfl (by decide) rfl hl.1 rfl (Nat.le_of_ble_eq_true rfl) dX14_goes_85 (Nat.le_of_ble_eq_true rfl) (Nat.add_le_add_right (Nat.le_of_ble_eq_true rfl) _) (inv_A h) (fun H locs v σ85 N hBn hX85 hP => ?_)
    clear hB; have hB := hBn; clear hBn
    obtain ⟨rfl, hI85, -⟩ := hP
    exact sg_iret F hB hrt dX14_goes_88 (by omega) (by omega) (⟨⟨_, rfl, Or.inr rfl⟩, hI85⟩)
  by_cases s24_3 : f0 = 115
  · skip
    refine lv_lookup (tgt := 89) hx hb dX14_goes_24 (by decide) (by first | (rw [s24_3]; done) | (rw [s24_3]; rfl)) (by decide) ?_
    refine lv_aload_n hx hb dX14_goes_89 rfl (lv_at hl 2 rfl) ?_
    refine lv_iload_n hx hb dX14_goes_90 rfl (lv_at hl 3 rfl) ?_
    refine sg_callV (ci := 19) F hB (m_stalls l D cy h x wc _) (cwV 1 F.1.2.2.2.2 (mgV (mm_12 _ (List.mem_of_getElem? (i := 17) rfl)) (mm_12 _ (List.mem_of_getElem? (i := 18) rfl)) (mm_12 _ (List.mem_of_getElem? (i := 19) rfl)) (mm_3 _ (List.mem_of_getElem? (i := 23) rfl)) (mm_12 _ (List.mem_of_getElem? (i := 11) rfl))) rfl rfl rfl ⟨rfl, by decide, by decide, by decide +kernel⟩ ⟨Nat.le_of_ble_eq_true rfl, Nat.le_of_ble_eq_true rfl⟩) rfl rfl (by decide) rfl hl.1 rfl (Nat.le_of_ble_eq_true rfl) dX14_goes_91 (Nat.le_of_ble_eq_true rfl) (Nat.add_le_add_right (Nat.le_of_ble_eq_true rfl) _) (inv_A h) (fun H locs v σ91 N hBn hX91 hP => ?_)
    clear hB; have hB := hBn; clear hBn
    obtain ⟨rfl, hI91⟩ := hP
    exact sg_iret F hB hrt dX14_goes_94 (by omega) (by omega) (⟨⟨_, rfl, Or.inr rfl⟩, hI91⟩)
  by_cases s24_4 : f0 = 116
  · skip
    refine lv_lookup (tgt := 76) hx hb dX14_goes_24 (by decide) (by first | (rw [s24_4]; done) | (rw [s24_4]; rfl)) (by decide) ?_
    refine lv_aload_n hx hb dX14_goes_76 rfl (lv_at hl 2 rfl) ?_
    refine lv_iload_n hx hb dX14_goes_77 rfl (lv_at hl 3 rfl) ?_
    refine lv_iload hx hb dX14_goes_78 (lv_at hl 6 rfl) ?_
    refine sg_callV (ci := 19) F hB (m_fails l D cy h x wc f0 hf0 _) (cwV 2 F.1.2.2.2.2 (mgV (mm_12 _ (List.mem_of_getElem? (i := 14) rfl)) (mm_12 _ (List.mem_of_getElem? (i := 15) rfl)) (mm_12 _ (List.mem_of_getElem? (i := 16) rfl)) (mm_3 _ (List.mem_of_getElem? (i := 23) rfl)) (mm_12 _ (List.mem_of_getElem? (i := 9) rfl))) rfl rfl rfl ⟨rfl, by decide, by decide, by decide +kernel⟩ ⟨Nat.le_of_ble_eq_true rfl, Nat.le_of_ble_eq_true rfl⟩) rfl rfl (by decide) rfl hl.1 rfl (Nat.le_of_ble_eq_true rfl) dX14_goes_80 (Nat.le_of_ble_eq_true rfl) (Nat.add_le_add_right (Nat.le_of_ble_eq_true rfl) _) (inv_A h) (fun H locs v σ80 N hBn hX80 hP => ?_)
    clear hB; have hB := hBn; clear hBn
    obtain ⟨rfl, hI80⟩ := hP
    exact sg_iret F hB hrt dX14_goes_83 (by omega) (by omega) (⟨⟨_, rfl, Or.inr rfl⟩, hI80⟩)
  refine lv_lookup (tgt := 95) hx hb dX14_goes_24 (by decide) (show Op.lookupswitch.offset [(98, 52), (99, 52), (110, 60), (115, 65), (116, 52)] 71 _ = 71 from (lv_osw s24_0 rfl).trans ((lv_osw s24_1 rfl).trans ((lv_osw s24_2 rfl).trans ((lv_osw s24_3 rfl).trans ((lv_osw s24_4 rfl).trans (rfl)))))) (by decide) ?_
  refine lv_aload_n hx hb dX14_goes_95 rfl (lv_at hl 2 rfl) ?_
  refine lv_dup hx hb dX14_goes_96 rfl ?_
  refine gf_X14_366 F hB dX14_goes_97 (inv_A h) ?_
  refine lv_iconst (v := 1) hx hb dX14_goes_100 (by decide) ?_
  refine lv_iadd hx hb dX14_goes_101 ?_
  refine pf_X14_366 F hB dX14_goes_102 (inv_A h) (fun H locs hBn => ?_)
  clear hB; have hB := hBn; clear hBn
  have hI102 := inv_PIc (t := 20) hB h (inv_A h) (by unfold iCn; omega)
  have z102 : zR l1 σ (sgPI σ (kA K) 15 (sgI σ (kA K) 15 + 1)) := zR_PI (inv_A h) (by decide) tl
  have w102 := wPp_z h wc z102
  refine lv_aload_n hx hb dX14_goes_105 rfl (lv_at hl 4 rfl) ?_
  refine gf_X14_266 F hB dX14_goes_106 (by exact txe) ?_
  refine lv_aload hx hb dX14_goes_109 (lv_at hl 1 rfl) ?_
  refine gf_X14_319 F hB dX14_goes_111 (by exact tp) ?_
  refine lv_icmp_ne (tgt := 167) hx hb dX14_goes_114 (by decide) (fun c114 => ?_) (fun c114 => ?_)
  · refine lv_iload hx hb dX14_goes_167 (lv_at hl 6 rfl) ?_
    refine lv_bipush (v := 32) hx hb dX14_goes_169 (by decide) ?_
    refine lv_icmp_eq (tgt := 182) hx hb dX14_goes_171 (by decide) (fun c171 => ?_) (fun c171 => ?_)
    · first
        | have Z := z164
        | have Z := z102
      have hA2 := inv_A hI102
      have tp2 := tFr_T Z.1 tp (by decide)
      have tl2 := tFr_T Z.1 tl (by decide)
      refine lv_aload_n hx hb dX14_goes_182 rfl (lv_at hl 2 rfl) ?_
      refine lv_dup hx hb dX14_goes_183 rfl ?_
      refine gf_X14_381 F hB dX14_goes_184 (inv_A hI102) ?_
      refine lv_iconst (v := 1) hx hb dX14_goes_187 (by decide) ?_
      refine lv_iadd hx hb dX14_goes_188 ?_
      refine pf_X14_381 F hB dX14_goes_189 (inv_A hI102) (fun H locs hBn => ?_)
      clear hB; have hB := hBn; clear hBn
      have hI189 := inv_PIc (t := 20) hB hI102 (inv_A hI102) (by unfold iCn; omega)
      refine lv_aload hx hb dX14_goes_192 (lv_at hl 1 rfl) ?_
      refine lv_iconst (v := 0) hx hb dX14_goes_194 (by decide) ?_
      refine pf_X14_316 F hB dX14_goes_195 (by assumption) (fun H locs hBn => ?_)
      clear hB; have hB := hBn; clear hBn
      have hI195 := inv_PIc (t := 18) hB hI189 (by assumption) (by unfold iCn; omega)
      refine lv_aload hx hb dX14_goes_198 (lv_at hl 1 rfl) ?_
      refine lv_iconst (v := 1) hx hb dX14_goes_200 (by decide) ?_
      refine lv_aload hx hb dX14_goes_201 (lv_at hl 1 rfl) ?_
      refine gf_X14_319 F hB dX14_goes_203 (by exact tp2) ?_
      refine lv_isub hx hb dX14_goes_206 ?_
      refine pf_X14_319 F hB dX14_goes_207 (by exact tp2) (fun H locs hBn => ?_)
      clear hB; have hB := hBn; clear hBn
      have hI207 := inv_PIc (t := 18) hB hI195 (by exact tp2) (by unfold iCn; omega)
      have Z2 := zz3 hB Z hA2 tp2 tl2
      have tt2 := tFr_T Z2.1 tt (by decide)
      have w207 := wPp_z h wc Z2
      have dd := Z2.2.1 t0 2 tt
      have dm := Z2.2.1 t0 1 tt
      have dx := Z2.2.2.2.1 xe 0 txe (by decide)
      have dr := (Z2.2.2.2.2.1 t0 0 (by rw [tt]; decide)).trans ht0
      have db := tFr_N Z2.1 tbt (by decide)
      refine lv_aload hx hb dX14_goes_210 (lv_at hl 0 rfl) ?_
      refine lv_dup hx hb dX14_goes_212 rfl ?_
      refine gf_X14_284 F hB dX14_goes_213 (by assumption) ?_
      refine lv_iload_n hx hb dX14_goes_216 rfl (lv_at hl 5 rfl) ?_
      refine lv_iadd hx hb dX14_goes_217 ?_
      refine pf_X14_284 F hB dX14_goes_218 (by exact tt2) (fun H locs hBn => ?_)
      clear hB; have hB := hBn; clear hBn
      have hI218 := inv_dnB hB hI207 (by exact tt2)
      have wB := wPp_hB hB (wPp_PI w207 (Or.inr ⟨fun z => absurd (tt2.symm.trans z) (by decide), fun z => absurd (tt2.symm.trans z) (by decide)⟩) (tFr_T Z2.1 tp (by decide)) (tFr_T Z2.1 tl (by decide)))
      refine lv_aload hx hb dX14_goes_221 (lv_at hl 0 rfl) ?_
      refine gf_X14_284 F hB dX14_goes_223 (by exact tt2) ?_
      refine lv_aload hx hb dX14_goes_226 (lv_at hl 0 rfl) ?_
      refine gf_X14_338 F hB dX14_goes_228 (by exact tt2) ?_
      refine lv_icmp_ne (tgt := 241) hx hb dX14_goes_231 (by decide) (fun c231 => ?_) (fun c231 => ?_)
      · first
          | have hfin := hI238b
          | have hfin := inv_dnw hI218 wB (iW_E hB (iW_tr Z2.1 (inv_T h) tt dm dd dx (Z2.2.2.2.2.1 t0 0 (by rw [tt]; decide)) ⟨iw1, iw2, iw3, iw4⟩) (by exact tt2) (tFr_T Z2.1 txe (by decide)) (by omega) (by omega) (by rw [dd, dm]; omega) c231)
        refine lv_iconst (v := 1) hx hb dX14_goes_241 (by decide) ?_
        exact sg_iret F hB hrt dX14_goes_242 (by omega) (by omega) (⟨⟨_, rfl, Or.inl rfl⟩, hfin⟩)
      · obtain ⟨m1, hm1⟩ := m_evm hB (K := K)
        refine lv_aload_n hx hb dX14_goes_234 rfl (lv_at hl 2 rfl) ?_
        refine lv_iload_n hx hb dX14_goes_235 rfl (lv_at hl 3 rfl) ?_
        refine lv_bipush (v := 100) hx hb dX14_goes_236 (by decide) ?_
        refine sg_callV (ci := 19) F hB (m_ends l D cy hI218 x 100 wB.1.1 wB.1.2 wB.2.1 wB.2.2.1 wB.2.2.2.1 hm1 _) (cwV 2 F.1.2.2.2.2 (mgV (mm_5 _ (List.mem_of_getElem? (i := 33) rfl)) (mm_5 _ (List.mem_of_getElem? (i := 34) rfl)) (mm_5 _ (List.mem_of_getElem? (i := 35) rfl)) (mm_3 _ (List.mem_of_getElem? (i := 23) rfl)) (mm_5 _ (List.mem_of_getElem? (i := 32) rfl))) rfl rfl rfl ⟨rfl, by decide, by decide, by decide +kernel⟩ ⟨Nat.le_of_ble_eq_true rfl, Nat.le_of_ble_eq_true rfl⟩) rfl rfl (by decide) rfl hl.1 rfl (Nat.le_of_ble_eq_true rfl) dX14_goes_238 (Nat.le_trans (show _ ≤ 18 from by omega) (Nat.le_of_ble_eq_true rfl)) (Nat.add_le_add_right (Nat.le_trans (show _ ≤ 146 from by omega) (Nat.le_of_ble_eq_true rfl)) _) (inv_A hI218) (fun H locs v σ238 N hBn hX238 hP => ?_)
        clear hB; have hB := hBn; clear hBn
        refine W.widen (k := 18) (n := N) (show _ ≤ 18 from by omega) (Nat.le_refl _) ?_
        have hBn := sgB_up (n2 := 146) hB (show _ ≤ 146 from by omega)
        clear hB; have hB := hBn; clear hBn
        obtain ⟨rfl, hI238, en1_238, en2_238, en3_238, en4_238⟩ := hP
        have hI238b := inv_dne hI218 wB hI238 en1_238 en2_238 en4_238
        first
          | have hfin := hI238b
          | have hfin := inv_dnw hI218 wB (iW_E hB (iW_tr Z2.1 (inv_T h) tt dm dd dx (Z2.2.2.2.2.1 t0 0 (by rw [tt]; decide)) ⟨iw1, iw2, iw3, iw4⟩) (by exact tt2) (tFr_T Z2.1 txe (by decide)) (by omega) (by omega) (by rw [dd, dm]; omega) c231)
        refine lv_iconst (v := 1) hx hb dX14_goes_241 (by decide) ?_
        exact sg_iret F hB hrt dX14_goes_242 (by omega) (by omega) (⟨⟨_, rfl, Or.inl rfl⟩, hfin⟩)
    · refine lv_aload_n hx hb dX14_goes_174 rfl (lv_at hl 2 rfl) ?_
      refine lv_iload_n hx hb dX14_goes_175 rfl (lv_at hl 3 rfl) ?_
      refine lv_iload hx hb dX14_goes_176 (lv_at hl 6 rfl) ?_
      refine sg_callV (ci := 19) F hB (m_fails l D cy hI102 x (wPp_z h wc (by first | exact z164 | exact z102)) f0 hf0 _) (cwV 2 F.1.2.2.2.2 (mgV (mm_12 _ (List.mem_of_getElem? (i := 14) rfl)) (mm_12 _ (List.mem_of_getElem? (i := 15) rfl)) (mm_12 _ (List.mem_of_getElem? (i := 16) rfl)) (mm_3 _ (List.mem_of_getElem? (i := 23) rfl)) (mm_12 _ (List.mem_of_getElem? (i := 9) rfl))) rfl rfl rfl ⟨rfl, by decide, by decide, by decide +kernel⟩ ⟨Nat.le_of_ble_eq_true rfl, Nat.le_of_ble_eq_true rfl⟩) rfl rfl (by decide) rfl hl.1 rfl (Nat.le_of_ble_eq_true rfl) dX14_goes_178 (Nat.le_of_ble_eq_true rfl) (Nat.add_le_add_right (Nat.le_of_ble_eq_true rfl) _) (inv_A hI102) (fun H locs v σ178 N hBn hX178 hP => ?_)
      clear hB; have hB := hBn; clear hBn
      obtain ⟨rfl, hI178⟩ := hP
      exact sg_iret F hB hrt dX14_goes_181 (by omega) (by omega) (⟨⟨_, rfl, Or.inr rfl⟩, hI178⟩)
  · obtain ⟨kc, hkc⟩ : ∃ kc : Nat, kc = 0 := ⟨_, rfl⟩
    refine W.widen (k := kc) (n := N) (by omega) (Nat.le_refl _) ?_
    refine lv_iconst (v := 0) hx hb dX14_goes_117 (by decide) ?_
    refine lv_istore (lv' := [(7, .int _), (6, .ref _), (5, .ref _), (0, .ref _), (1, .int _), (2, .ref _), (3, .int _), (4, .int _)]) hx hb dX14_goes_118 hl (by decide) rfl (fun ls hl => ?_)
    have key120 : ∃ (σ3 : SG) (k9 : Int32) (nc : Nat), sgB D cy s σ σ3 H locs N nc ∧ lv_has ls 8 [(7, .int k9), (6, .ref t0), (5, .ref pp), (4, .int f0), (3, .int b), (2, .ref xe), (1, .int x), (0, .ref (kA K))] ∧ Inv eda ia K g n S hw σ3 ∧ (0 ≤ k9.toInt ∧ k9.toInt ≤ b.toInt) ∧ sgSz σ3 le = sgSz σ le + k9.toInt.toNat ∧ (kc = 2 * k9.toInt.toNat ∧ nc = 16 * k9.toInt.toNat) ∧ zR l1 σ σ3 := ⟨_, _, _, hB, (lv_sub hl [0, 1, 2, 7, 6, 5, 4, 3] rfl), hI102, ⟨by decide, by rw [m_i0]; omega⟩, by rw [m_i0]; exact (sgSz_nk (by decide)).trans (by omega), ⟨by rw [m_i0]; omega, by rw [m_i0]; omega⟩, z102⟩
    clear hB hl hkc
    obtain ⟨σ3, k9, nc, hB, hl, hI3, hi, hz3, hkn, hzr⟩ := key120
    obtain ⟨d120, hd120⟩ : ∃ d : Nat, d = (b.toInt - k9.toInt).toNat := ⟨_, rfl⟩
    induction d120 using Nat.strongRecOn generalizing H locs ls N σ3 k9 nc kc
    rename_i d120 ih120
    have tx3 : sgT σ3 xe = 17 := tFr_T hzr.1 txe (by decide)
    have tle3 : sgT σ3 le = 5 := tFr_T hzr.1 tle (by decide)
    have hle3 : sgR σ3 xe 3 = some le := (hzr.2.2.2.2.1 xe 3 (by rw [txe]; decide)).trans hle
    have tl3 : sgT σ3 l1 = 5 := tFr_T hzr.1 tl (by decide)
    have tt3 : sgT σ3 t0 = 19 := tFr_T hzr.1 tt (by decide)
    have tb3 : sgT σ3 bt = 100 := tFr_T hzr.1 tbt (by decide)
    have nb3 : sgN σ3 bt = sgN σ bt := tFr_N hzr.1 tbt (by decide)
    have ht3 : sgR σ3 t0 0 = some bt := (hzr.2.2.2.2.1 t0 0 (by rw [tt]; decide)).trans ht0
    have d3 : sgI σ3 t0 2 = sgI σ t0 2 := hzr.2.1 t0 2 tt
    refine lv_iload hx hb dX14_goes_120 (lv_at hl 0 rfl) ?_
    refine lv_iload_n hx hb dX14_goes_122 rfl (lv_at hl 4 rfl) ?_
    refine lv_icmp_ge (tgt := 157) hx hb dX14_goes_123 (by decide) (fun c123 => ?_) (fun c123 => ?_)
    · have hi4 := i_le c123
      refine W.widen (k := 16) (n := N) (show kc ≤ 16 from by omega) (Nat.le_refl _) ?_
      have hBn := sgB_up (n2 := 128) hB (show nc ≤ 128 from by omega)
      clear hB; have hB := hBn; clear hBn
      refine lv_aload_n hx hb dX14_goes_157 rfl (lv_at hl 5 rfl) ?_
      refine lv_iconst (v := 1) hx hb dX14_goes_158 (by decide) ?_
      refine lv_aload_n hx hb dX14_goes_159 rfl (lv_at hl 5 rfl) ?_
      refine gf_X14_266 F hB dX14_goes_160 tx3 ?_
      refine lv_isub hx hb dX14_goes_163 ?_
      refine pf_X14_266 F hB dX14_goes_164 tx3 (fun H locs hBn => ?_)
      clear hB; have hB := hBn; clear hBn
      have hI164 := inv_PIc (t := 17) hB hI3 tx3 (by unfold iCn; omega)
      have z164 : zR l1 σ (sgPI σ3 xe 2 (1 - sgI σ3 xe 2)) := zR_tr hzr (zR_PI tx3 (by decide) tl3)
      refine lv_iload hx hb dX14_goes_167 (lv_at hl 3 rfl) ?_
      refine lv_bipush (v := 32) hx hb dX14_goes_169 (by decide) ?_
      refine lv_icmp_eq (tgt := 182) hx hb dX14_goes_171 (by decide) (fun c171 => ?_) (fun c171 => ?_)
      · first
          | have Z := z164
          | have Z := z102
        have hA2 := inv_A hI164
        have tp2 := tFr_T Z.1 tp (by decide)
        have tl2 := tFr_T Z.1 tl (by decide)
        refine lv_aload_n hx hb dX14_goes_182 rfl (lv_at hl 7 rfl) ?_
        refine lv_dup hx hb dX14_goes_183 rfl ?_
        refine gf_X14_381 F hB dX14_goes_184 (inv_A hI164) ?_
        refine lv_iconst (v := 1) hx hb dX14_goes_187 (by decide) ?_
        refine lv_iadd hx hb dX14_goes_188 ?_
        refine pf_X14_381 F hB dX14_goes_189 (inv_A hI164) (fun H locs hBn => ?_)
        clear hB; have hB := hBn; clear hBn
        have hI189 := inv_PIc (t := 20) hB hI164 (inv_A hI164) (by unfold iCn; omega)
        refine lv_aload hx hb dX14_goes_192 (lv_at hl 2 rfl) ?_
        refine lv_iconst (v := 0) hx hb dX14_goes_194 (by decide) ?_
        refine pf_X14_316 F hB dX14_goes_195 (by assumption) (fun H locs hBn => ?_)
        clear hB; have hB := hBn; clear hBn
        have hI195 := inv_PIc (t := 18) hB hI189 (by assumption) (by unfold iCn; omega)
        refine lv_aload hx hb dX14_goes_198 (lv_at hl 2 rfl) ?_
        refine lv_iconst (v := 1) hx hb dX14_goes_200 (by decide) ?_
        refine lv_aload hx hb dX14_goes_201 (lv_at hl 2 rfl) ?_
        refine gf_X14_319 F hB dX14_goes_203 (by exact tp2) ?_
        refine lv_isub hx hb dX14_goes_206 ?_
        refine pf_X14_319 F hB dX14_goes_207 (by exact tp2) (fun H locs hBn => ?_)
        clear hB; have hB := hBn; clear hBn
        have hI207 := inv_PIc (t := 18) hB hI195 (by exact tp2) (by unfold iCn; omega)
        have Z2 := zz3 hB Z hA2 tp2 tl2
        have tt2 := tFr_T Z2.1 tt (by decide)
        have w207 := wPp_z h wc Z2
        have dd := Z2.2.1 t0 2 tt
        have dm := Z2.2.1 t0 1 tt
        have dx := Z2.2.2.2.1 xe 0 txe (by decide)
        have dr := (Z2.2.2.2.2.1 t0 0 (by rw [tt]; decide)).trans ht0
        have db := tFr_N Z2.1 tbt (by decide)
        refine lv_aload hx hb dX14_goes_210 (lv_at hl 1 rfl) ?_
        refine lv_dup hx hb dX14_goes_212 rfl ?_
        refine gf_X14_284 F hB dX14_goes_213 (by assumption) ?_
        refine lv_iload_n hx hb dX14_goes_216 rfl (lv_at hl 4 rfl) ?_
        refine lv_iadd hx hb dX14_goes_217 ?_
        refine pf_X14_284 F hB dX14_goes_218 (by exact tt2) (fun H locs hBn => ?_)
        clear hB; have hB := hBn; clear hBn
        have hI218 := inv_dnB hB hI207 (by exact tt2)
        have wB := wPp_hB hB (wPp_PI w207 (Or.inr ⟨fun z => absurd (tt2.symm.trans z) (by decide), fun z => absurd (tt2.symm.trans z) (by decide)⟩) (tFr_T Z2.1 tp (by decide)) (tFr_T Z2.1 tl (by decide)))
        refine lv_aload hx hb dX14_goes_221 (lv_at hl 1 rfl) ?_
        refine gf_X14_284 F hB dX14_goes_223 (by exact tt2) ?_
        refine lv_aload hx hb dX14_goes_226 (lv_at hl 1 rfl) ?_
        refine gf_X14_338 F hB dX14_goes_228 (by exact tt2) ?_
        refine lv_icmp_ne (tgt := 241) hx hb dX14_goes_231 (by decide) (fun c231 => ?_) (fun c231 => ?_)
        · first
            | have hfin := hI238b
            | have hfin := inv_dnw hI218 wB (iW_E hB (iW_tr Z2.1 (inv_T h) tt dm dd dx (Z2.2.2.2.2.1 t0 0 (by rw [tt]; decide)) ⟨iw1, iw2, iw3, iw4⟩) (by exact tt2) (tFr_T Z2.1 txe (by decide)) (by omega) (by omega) (by rw [dd, dm]; omega) c231)
          refine lv_iconst (v := 1) hx hb dX14_goes_241 (by decide) ?_
          exact sg_iret F hB hrt dX14_goes_242 (by omega) (by omega) (⟨⟨_, rfl, Or.inl rfl⟩, hfin⟩)
        · obtain ⟨m1, hm1⟩ := m_evm hB (K := K)
          refine lv_aload_n hx hb dX14_goes_234 rfl (lv_at hl 7 rfl) ?_
          refine lv_iload_n hx hb dX14_goes_235 rfl (lv_at hl 6 rfl) ?_
          refine lv_bipush (v := 100) hx hb dX14_goes_236 (by decide) ?_
          refine sg_callV (ci := 19) F hB (m_ends l D cy hI218 x 100 wB.1.1 wB.1.2 wB.2.1 wB.2.2.1 wB.2.2.2.1 hm1 _) (cwV 2 F.1.2.2.2.2 (mgV (mm_5 _ (List.mem_of_getElem? (i := 33) rfl)) (mm_5 _ (List.mem_of_getElem? (i := 34) rfl)) (mm_5 _ (List.mem_of_getElem? (i := 35) rfl)) (mm_3 _ (List.mem_of_getElem? (i := 23) rfl)) (mm_5 _ (List.mem_of_getElem? (i := 32) rfl))) rfl rfl rfl ⟨rfl, by decide, by decide, by decide +kernel⟩ ⟨Nat.le_of_ble_eq_true rfl, Nat.le_of_ble_eq_true rfl⟩) rfl rfl (by decide) rfl hl.1 rfl (Nat.le_of_ble_eq_true rfl) dX14_goes_238 (Nat.le_trans (show _ ≤ 18 from by omega) (Nat.le_of_ble_eq_true rfl)) (Nat.add_le_add_right (Nat.le_trans (show _ ≤ 146 from by omega) (Nat.le_of_ble_eq_true rfl)) _) (inv_A hI218) (fun H locs v σ238 N hBn hX238 hP => ?_)
          clear hB; have hB := hBn; clear hBn
          refine W.widen (k := 18) (n := N) (show _ ≤ 18 from by omega) (Nat.le_refl _) ?_
          have hBn := sgB_up (n2 := 146) hB (show _ ≤ 146 from by omega)
          clear hB; have hB := hBn; clear hBn
          obtain ⟨rfl, hI238, en1_238, en2_238, en3_238, en4_238⟩ := hP
          have hI238b := inv_dne hI218 wB hI238 en1_238 en2_238 en4_238
          first
            | have hfin := hI238b
            | have hfin := inv_dnw hI218 wB (iW_E hB (iW_tr Z2.1 (inv_T h) tt dm dd dx (Z2.2.2.2.2.1 t0 0 (by rw [tt]; decide)) ⟨iw1, iw2, iw3, iw4⟩) (by exact tt2) (tFr_T Z2.1 txe (by decide)) (by omega) (by omega) (by rw [dd, dm]; omega) c231)
          refine lv_iconst (v := 1) hx hb dX14_goes_241 (by decide) ?_
          exact sg_iret F hB hrt dX14_goes_242 (by omega) (by omega) (⟨⟨_, rfl, Or.inl rfl⟩, hfin⟩)
      · refine lv_aload_n hx hb dX14_goes_174 rfl (lv_at hl 7 rfl) ?_
        refine lv_iload_n hx hb dX14_goes_175 rfl (lv_at hl 6 rfl) ?_
        refine lv_iload hx hb dX14_goes_176 (lv_at hl 3 rfl) ?_
        refine sg_callV (ci := 19) F hB (m_fails l D cy hI164 x (wPp_z h wc (by first | exact z164 | exact z102)) f0 hf0 _) (cwV 2 F.1.2.2.2.2 (mgV (mm_12 _ (List.mem_of_getElem? (i := 14) rfl)) (mm_12 _ (List.mem_of_getElem? (i := 15) rfl)) (mm_12 _ (List.mem_of_getElem? (i := 16) rfl)) (mm_3 _ (List.mem_of_getElem? (i := 23) rfl)) (mm_12 _ (List.mem_of_getElem? (i := 9) rfl))) rfl rfl rfl ⟨rfl, by decide, by decide, by decide +kernel⟩ ⟨Nat.le_of_ble_eq_true rfl, Nat.le_of_ble_eq_true rfl⟩) rfl rfl (by decide) rfl hl.1 rfl (Nat.le_of_ble_eq_true rfl) dX14_goes_178 (Nat.le_of_ble_eq_true rfl) (Nat.add_le_add_right (Nat.le_of_ble_eq_true rfl) _) (inv_A hI164) (fun H locs v σ178 N hBn hX178 hP => ?_)
        clear hB; have hB := hBn; clear hBn
        obtain ⟨rfl, hI178⟩ := hP
        exact sg_iret F hB hrt dX14_goes_181 (by omega) (by omega) (⟨⟨_, rfl, Or.inr rfl⟩, hI178⟩)
    · have hi4 := i_nle c123
      have eix : (sgI σ3 t0 2 + k9).toInt = (sgI σ t0 2).toInt + k9.toInt := by rw [d3]; exact m_addb (by omega) (by omega) (by omega) (by omega)
      refine lv_aload_n hx hb dX14_goes_126 rfl (lv_at hl 5 rfl) ?_
      refine gr_X14_320 F hB dX14_goes_127 tx3 hle3 ?_
      refine lv_aload hx hb dX14_goes_130 (lv_at hl 1 rfl) ?_
      refine gr_X14_369 F hB dX14_goes_132 tt3 ht3 ?_
      refine lv_aload hx hb dX14_goes_135 (lv_at hl 1 rfl) ?_
      refine gf_X14_284 F hB dX14_goes_137 tt3 ?_
      refine lv_iload hx hb dX14_goes_140 (lv_at hl 0 rfl) ?_
      refine lv_iadd hx hb dX14_goes_142 ?_
      refine sg_iald hx hb F.2.1 hB.1 dX14_goes_143 tb3 (by omega) (by omega) (by rw [nb3]; exact hnl) ?_
      refine sg_callS F hB (m_box l D cy _ _) (va_cwS 1 F.1.2.2.2.2 (mgS2 (mm_7 _ (List.mem_of_getElem? (i := 33) rfl)) (mm_7 _ (List.mem_of_getElem? (i := 34) rfl)) (mm_7 _ (List.mem_of_getElem? (i := 30) rfl)) (mm_7 _ (List.mem_of_getElem? (i := 25) rfl))) rfl rfl rfl ⟨by decide, by decide, by decide +kernel⟩ ⟨Nat.le_of_ble_eq_true rfl, Nat.le_of_ble_eq_true rfl⟩) rfl hl.1 rfl (Nat.le_of_ble_eq_true rfl) dX14_goes_144 (by show _ ≤ 18; omega) (Nat.add_le_add_right (by omega) _)  (fun H locs v σ144 N hBn hX144 hP => ?_)
      clear hB; have hB := hBn; clear hBn
      obtain ⟨yb, rfl, hbx, hqt⟩ := hP
      have ed144 := sg_eda F hB
      have hI144 := inv_Qt hI3 hqt ed144
      have tle4 : sgT σ144 le = 5 := (hqt.1 le (by rw [tle3]; decide)).1.trans tle3
      have sq144 : sgSz σ144 le = sgSz σ3 le := sgSz_Qt hqt tle3
      obtain ⟨ra147, za147, zb147⟩ := (inv_LS hI144).1 _ tle4 id
      refine sg_callV (ci := 4) F hB (m_add l D cy za147 (fun j y h1 h2 => (inv_LS hI144).2.2.1 ra147 j y h1 h2) yb (iEl_K (l0 := _) (g := g) (j := 0) (by unfold iEl; rw [rle]; exact hbx)) zb147 _) (cwV 1 F.1.2.2.2.2 (mgV (mm_3 _ (List.mem_of_getElem? (i := 9) rfl)) (mm_3 _ (List.mem_of_getElem? (i := 10) rfl)) (mm_3 _ (List.mem_of_getElem? (i := 11) rfl)) (mm_0 _ (List.mem_of_getElem? (i := 35) rfl)) (mm_2 _ (List.mem_of_getElem? (i := 29) rfl))) rfl rfl rfl ⟨rfl, by decide, by decide, by decide +kernel⟩ ⟨Nat.le_of_ble_eq_true rfl, Nat.le_of_ble_eq_true rfl⟩) rfl rfl (by decide) rfl hl.1 rfl (Nat.le_of_ble_eq_true rfl) dX14_goes_147 (by show _ ≤ 18; omega) (Nat.add_le_add_right (by omega) _) tle4 (fun H locs v σ147 N hBn hX147 hP => ?_)
      clear hB; have hB := hBn; clear hBn
      obtain ⟨rfl, hAd147⟩ := hP
      obtain ⟨hI147, ada147, adb147, adc147, add147, ade147, adf147, adg147, adh147⟩ := inv_ad hI144 tle4 za147 hAd147 (sg_eda F hB) (by unfold iEl; rw [rle]; exact hbx) (by rw [rle]; refine inv_cap ?_ (Or.inr rfl); rw [sq144]; omega) (Or.inl ⟨inv_nD hI144 (by rw [rle]; decide), rfl⟩) (nr7 rle (by decide))
      have hz147 : zR l1 σ σ147 := zR_tr hzr (zR_tr (zR_Qt hI3 hqt ed144 tl3) (zR_l (l2 := le) add147 adf147 adg147 adh147 (tFr_T (zR_Qt hI3 hqt ed144 tl3).1 tl3 (by decide)) nle))
      refine lv_pop hx hb dX14_goes_150 rfl ?_
      refine lv_iinc (lv' := [(7, .int _), (6, .ref _), (5, .ref _), (4, .int _), (3, .int _), (2, .ref _), (1, .int _), (0, .ref _)]) hx hb dX14_goes_151 hl (k := 0) rfl rfl (by decide) rfl (fun ls hl => ?_)
      refine lv_goto (tgt := 120) hx hb dX14_goes_154 (by decide) ?_
      have hi3 := i_nle c123
      have e9 : (k9 + Int32.ofInt 1).toInt = k9.toInt + 1 := m_add1 (by omega) (by omega)
      exact ih120 _ (by subst hd120; rw [e9]; omega) _ _ _ _ _ _ _ _ hB (lv_sub hl [0, 1, 2, 3, 4, 5, 6, 7] rfl) hI147 ⟨by rw [e9]; omega, by rw [e9]; omega⟩ (by rw [e9, ada147, sq144]; omega) ⟨by rw [e9]; show kc + 1 + 1 = _; omega, by rw [e9]; omega⟩ hz147 rfl
end MM29
