section MM29
theorem m_addb {d b : Int32} (h1 : 0 ≤ d.toInt) (h2 : d.toInt ≤ 1000) (h3 : 0 ≤ b.toInt) (h4 : b.toInt ≤ 1000) : (d + b).toInt = d.toInt + b.toInt := i_add (by omega) (by omega)
theorem zz3 {D : va_G} {cy : Nat → ClassId} {s : State} {σ00 σ0 σ : SG} {H : Heap} {locs : List Loc} {N n9 l1 a p : Nat} {u1 u2 u3 : Int32} (_hB : sgB D cy s σ00 (sgPI (sgPI (sgPI σ a 16 u1) p 7 u2) p 5 u3) H locs N n9) (z : zR l1 σ0 σ) (ta : sgT σ a = 20) (tp : sgT σ p = 18) (tl : sgT σ l1 = 5) : zR l1 σ0 (sgPI (sgPI (sgPI σ a 16 u1) p 7 u2) p 5 u3) := zR_tr z (zR_tr (zR_PI ta (by decide) tl) (zR_tr (zR_PI (t := 18) tp (by decide) tl) (zR_PI (t := 18) tp (by decide) tl)))
theorem wPp_hB {D : va_G} {cy : Nat → ClassId} {s : State} {σ00 σ : SG} {H : Heap} {locs : List Loc} {N n9 t1 : Nat} {u : Int32} {K : KM} {g : GH} {x : Int32} {pp l1 t0 xe le : Nat} (_hB : sgB D cy s σ00 (sgPI σ t1 2 u) H locs N n9) (w : wPp K g (sgPI σ t1 2 u) x pp l1 t0 xe le) : wPp K g (sgPI σ t1 2 u) x pp l1 t0 xe le := w
theorem m_evm {D : va_G} {cy : Nat → ClassId} {s : State} {σ00 σ : SG} {H : Heap} {locs : List Loc} {N n9 : Nat} {K : KM} (_hB : sgB D cy s σ00 σ H locs N n9) : ∃ m1 : Nat, m1 = min 1 (6 - sgSz σ (kE K)) := ⟨_, rfl⟩
theorem zPIB {D : va_G} {cy : Nat → ClassId} {s : State} {σ00 σ : SG} {H : Heap} {locs : List Loc} {N n9 l1 a k t : Nat} {v : Int32} (_hB : sgB D cy s σ00 (sgPI σ a k v) H locs N n9) (ha : sgT σ a = t) (ht : t ≠ 19 ∧ t ≠ 5 ∧ (t ≠ 18 ∨ 3 ≤ k) ∧ (t ≠ 17 ∨ 2 ≤ k)) (tl : sgT σ l1 = 5) : zR l1 σ (sgPI σ a k v) := zR_PI ha ht tl
theorem zR_le {l1 le : Nat} {σ σ2 : SG} (_h : zR l1 σ σ2) : sgSz σ2 le = sgSz σ2 le := rfl
theorem iW_L {D : va_G} {cy : Nat → ClassId} {s : State} {σ00 σ : SG} {H : Heap} {locs : List Loc} {N n9 t0 xe : Nat} {b : Int32} (_hB : sgB D cy s σ00 (sgPI σ t0 2 (sgI σ t0 2 + b)) H locs N n9) (hi : iW σ xe t0) (tt : sgT σ t0 = 19) (tx : sgT σ xe = 17) (hb1 : 0 ≤ b.toInt) (hb2 : b.toInt ≤ 8) (hlt : (sgI σ t0 2).toInt + b.toInt < (sgI σ t0 1).toInt) : iW (sgPI σ t0 2 (sgI σ t0 2 + b)) xe t0 := by
  obtain ⟨i1, i2, i3, i4⟩ := hi
  have ne : xe ≠ t0 := fun z => by rw [z, tt] at tx; exact absurd tx (by decide)
  have e2 : sgI (sgPI σ t0 2 (sgI σ t0 2 + b)) t0 2 = sgI σ t0 2 + b := by rw [sgI_PI, if_pos ⟨rfl, rfl⟩]
  have e1 : sgI (sgPI σ t0 2 (sgI σ t0 2 + b)) t0 1 = sgI σ t0 1 := sgI_nk (by decide)
  have e0 : sgI (sgPI σ t0 2 (sgI σ t0 2 + b)) xe 0 = sgI σ xe 0 := sgI_nk (by decide)
  have es := m_addb (d := sgI σ t0 2) (b := b) i1 (by omega) hb1 (by omega)
  unfold iW
  rw [e2, e1, e0, es]
  exact ⟨by omega, by omega, i3, i4⟩
theorem iW_E {D : va_G} {cy : Nat → ClassId} {s : State} {σ00 σ : SG} {H : Heap} {locs : List Loc} {N n9 t0 xe : Nat} {b : Int32} (hB : sgB D cy s σ00 (sgPI σ t0 2 (sgI σ t0 2 + b)) H locs N n9) (hi : iW σ xe t0) (tt : sgT σ t0 = 19) (tx : sgT σ xe = 17) (hb1 : 0 ≤ b.toInt) (hb2 : b.toInt ≤ 8) (hle : b.toInt ≤ (sgI σ t0 1).toInt - (sgI σ t0 2).toInt) (hne : ¬ sgI (sgPI σ t0 2 (sgI σ t0 2 + b)) t0 2 = sgI (sgPI σ t0 2 (sgI σ t0 2 + b)) t0 1) : iW (sgPI σ t0 2 (sgI σ t0 2 + b)) xe t0 := by
  have hi2 := hi
  obtain ⟨i1, i2, i3, -⟩ := hi2
  have e2 : sgI (sgPI σ t0 2 (sgI σ t0 2 + b)) t0 2 = sgI σ t0 2 + b := by rw [sgI_PI, if_pos ⟨rfl, rfl⟩]
  have e1 : sgI (sgPI σ t0 2 (sgI σ t0 2 + b)) t0 1 = sgI σ t0 1 := sgI_nk (by decide)
  have es := m_addb (d := sgI σ t0 2) (b := b) i1 (by omega) hb1 (by omega)
  have q := m_neI hne
  rw [e2, e1, es] at q
  exact iW_L hB hi tt tx hb1 hb2 (by omega)
theorem m_B2 {D : va_G} {cy : Nat → ClassId} {s : State} {σ00 σ : SG} {H : Heap} {locs : List Loc} {N n9 t0 a : Nat} {v : Int32} (_hB : sgB D cy s σ00 (sgPI σ t0 2 v) H locs N n9) (h : a ≠ t0) : sgI (sgPI σ t0 2 v) a 2 = sgI σ a 2 := by rw [sgI_PI, if_neg (fun z => h z.1)]
theorem m_BS {D : va_G} {cy : Nat → ClassId} {s : State} {σ00 σ : SG} {H : Heap} {locs : List Loc} {N n9 t0 a : Nat} {v : Int32} (_hB : sgB D cy s σ00 (sgPI σ t0 2 v) H locs N n9) (h : a ≠ t0) : sgSz (sgPI σ t0 2 v) a = sgSz σ a := sgSz_ne (fun z => h z.symm)
theorem m_ltB {D : va_G} {cy : Nat → ClassId} {s : State} {σ00 σ σC : SG} {H : Heap} {locs : List Loc} {N n9 t0 xe l1 : Nat} {b : Int32} (_hB : sgB D cy s σ00 (sgPI σ t0 2 (sgI σ t0 2 + b)) H locs N n9) (Z : zR l1 (sgPI σ t0 2 (sgI σ t0 2 + b)) σC) (tt : sgT σ t0 = 19) (hi : iW σ xe t0) (hb1 : 0 ≤ b.toInt) (hb2 : b.toInt ≤ 8) (c : sgI σC t0 2 < sgI σC t0 1) : (sgI σ t0 2).toInt + b.toInt < (sgI σ t0 1).toInt := by
  obtain ⟨i1, i2, i3, -⟩ := hi
  have e2 : sgI (sgPI σ t0 2 (sgI σ t0 2 + b)) t0 2 = sgI σ t0 2 + b := by rw [sgI_PI, if_pos ⟨rfl, rfl⟩]
  have e1 : sgI (sgPI σ t0 2 (sgI σ t0 2 + b)) t0 1 = sgI σ t0 1 := sgI_nk (by decide)
  have es := m_addb (d := sgI σ t0 2) (b := b) i1 (by omega) hb1 (by omega)
  have q := i_lt c
  rw [Z.2.1 t0 2 tt, Z.2.1 t0 1 tt, e2, e1, es] at q
  exact q
theorem m_stv {σ : SG} {a : Nat} {v : Int32} : sgI (sgPI σ a 2 v) a 2 = v := by rw [sgI_PI, if_pos ⟨rfl, rfl⟩]
theorem inv_cap {S hw r s : Nat} (h : s + 1 ≤ S - hw) (hr : r = 5 ∨ r = 6) : s + 1 ≤ iCap S hw r := by
  rcases hr with rfl | rfl <;> exact h
theorem dX14_goes_0 : decode cX14_goes 0 = .ok (.aload_n 0, 1) := by decide +kernel
theorem dX14_goes_1 : decode cX14_goes 1 = .ok (.getfield 18, 3) := by decide +kernel
theorem dX14_goes_4 : decode cX14_goes 4 = .ok (.iload_n 1, 1) := by decide +kernel
theorem dX14_goes_5 : decode cX14_goes 5 = .ok (.aaload, 1) := by decide +kernel
theorem dX14_goes_6 : decode cX14_goes 6 = .ok (.astore 5, 2) := by decide +kernel
theorem dX14_goes_8 : decode cX14_goes 8 = .ok (.aload 5, 2) := by decide +kernel
theorem dX14_goes_10 : decode cX14_goes 10 = .ok (.getfield 199, 3) := by decide +kernel
theorem dX14_goes_13 : decode cX14_goes 13 = .ok (.iconst 0, 1) := by decide +kernel
theorem dX14_goes_14 : decode cX14_goes 14 = .ok (.invokevirtual 76, 3) := by decide +kernel
theorem dX14_goes_17 : decode cX14_goes 17 = .ok (.checkcast 275, 3) := by decide +kernel
theorem dX14_goes_20 : decode cX14_goes 20 = .ok (.astore 6, 2) := by decide +kernel
theorem dX14_goes_22 : decode cX14_goes 22 = .ok (.iload 4, 2) := by decide +kernel
theorem dX14_goes_24 : decode cX14_goes 24 = .ok (.lookupswitch 71 #[(98, 52), (99, 52), (110, 60), (115, 65), (116, 52)], 52) := by decide +kernel
theorem dX14_goes_76 : decode cX14_goes 76 = .ok (.aload_n 0, 1) := by decide +kernel
theorem dX14_goes_77 : decode cX14_goes 77 = .ok (.iload_n 1, 1) := by decide +kernel
theorem dX14_goes_78 : decode cX14_goes 78 = .ok (.iload 4, 2) := by decide +kernel
theorem dX14_goes_80 : decode cX14_goes 80 = .ok (.invokevirtual 384, 3) := by decide +kernel
theorem dX14_goes_83 : decode cX14_goes 83 = .ok (.ireturn, 1) := by decide +kernel
theorem dX14_goes_84 : decode cX14_goes 84 = .ok (.aload_n 0, 1) := by decide +kernel
theorem dX14_goes_85 : decode cX14_goes 85 = .ok (.invokevirtual 390, 3) := by decide +kernel
theorem dX14_goes_88 : decode cX14_goes 88 = .ok (.ireturn, 1) := by decide +kernel
theorem dX14_goes_89 : decode cX14_goes 89 = .ok (.aload_n 0, 1) := by decide +kernel
theorem dX14_goes_90 : decode cX14_goes 90 = .ok (.iload_n 1, 1) := by decide +kernel
theorem dX14_goes_91 : decode cX14_goes 91 = .ok (.invokevirtual 387, 3) := by decide +kernel
theorem dX14_goes_94 : decode cX14_goes 94 = .ok (.ireturn, 1) := by decide +kernel
theorem dX14_goes_95 : decode cX14_goes 95 = .ok (.aload_n 0, 1) := by decide +kernel
theorem dX14_goes_96 : decode cX14_goes 96 = .ok (.dup, 1) := by decide +kernel
theorem dX14_goes_97 : decode cX14_goes 97 = .ok (.getfield 366, 3) := by decide +kernel
theorem dX14_goes_100 : decode cX14_goes 100 = .ok (.iconst 1, 1) := by decide +kernel
theorem dX14_goes_101 : decode cX14_goes 101 = .ok (.iadd, 1) := by decide +kernel
theorem dX14_goes_102 : decode cX14_goes 102 = .ok (.putfield 366, 3) := by decide +kernel
theorem dX14_goes_105 : decode cX14_goes 105 = .ok (.aload_n 2, 1) := by decide +kernel
theorem dX14_goes_106 : decode cX14_goes 106 = .ok (.getfield 266, 3) := by decide +kernel
theorem dX14_goes_109 : decode cX14_goes 109 = .ok (.aload 5, 2) := by decide +kernel
theorem dX14_goes_111 : decode cX14_goes 111 = .ok (.getfield 319, 3) := by decide +kernel
theorem dX14_goes_114 : decode cX14_goes 114 = .ok (.if_icmp .ne 53, 3) := by decide +kernel
theorem dX14_goes_117 : decode cX14_goes 117 = .ok (.iconst 0, 1) := by decide +kernel
theorem dX14_goes_118 : decode cX14_goes 118 = .ok (.istore 7, 2) := by decide +kernel
theorem dX14_goes_120 : decode cX14_goes 120 = .ok (.iload 7, 2) := by decide +kernel
theorem dX14_goes_122 : decode cX14_goes 122 = .ok (.iload_n 3, 1) := by decide +kernel
theorem dX14_goes_123 : decode cX14_goes 123 = .ok (.if_icmp .ge 34, 3) := by decide +kernel
theorem dX14_goes_126 : decode cX14_goes 126 = .ok (.aload_n 2, 1) := by decide +kernel
theorem dX14_goes_127 : decode cX14_goes 127 = .ok (.getfield 320, 3) := by decide +kernel
theorem dX14_goes_130 : decode cX14_goes 130 = .ok (.aload 6, 2) := by decide +kernel
theorem dX14_goes_132 : decode cX14_goes 132 = .ok (.getfield 369, 3) := by decide +kernel
theorem dX14_goes_135 : decode cX14_goes 135 = .ok (.aload 6, 2) := by decide +kernel
theorem dX14_goes_137 : decode cX14_goes 137 = .ok (.getfield 284, 3) := by decide +kernel
theorem dX14_goes_140 : decode cX14_goes 140 = .ok (.iload 7, 2) := by decide +kernel
theorem dX14_goes_142 : decode cX14_goes 142 = .ok (.iadd, 1) := by decide +kernel
theorem dX14_goes_143 : decode cX14_goes 143 = .ok (.iaload, 1) := by decide +kernel
theorem dX14_goes_144 : decode cX14_goes 144 = .ok (.invokestatic 212, 3) := by decide +kernel
theorem dX14_goes_147 : decode cX14_goes 147 = .ok (.invokevirtual 57, 3) := by decide +kernel
theorem dX14_goes_150 : decode cX14_goes 150 = .ok (.pop, 1) := by decide +kernel
theorem dX14_goes_151 : decode cX14_goes 151 = .ok (.iinc 7 1, 3) := by decide +kernel
theorem dX14_goes_154 : decode cX14_goes 154 = .ok (.goto (-34), 3) := by decide +kernel
theorem dX14_goes_157 : decode cX14_goes 157 = .ok (.aload_n 2, 1) := by decide +kernel
theorem dX14_goes_158 : decode cX14_goes 158 = .ok (.iconst 1, 1) := by decide +kernel
theorem dX14_goes_159 : decode cX14_goes 159 = .ok (.aload_n 2, 1) := by decide +kernel
theorem dX14_goes_160 : decode cX14_goes 160 = .ok (.getfield 266, 3) := by decide +kernel
theorem dX14_goes_163 : decode cX14_goes 163 = .ok (.isub, 1) := by decide +kernel
theorem dX14_goes_164 : decode cX14_goes 164 = .ok (.putfield 266, 3) := by decide +kernel
theorem dX14_goes_167 : decode cX14_goes 167 = .ok (.iload 4, 2) := by decide +kernel
theorem dX14_goes_169 : decode cX14_goes 169 = .ok (.bipush 32, 2) := by decide +kernel
theorem dX14_goes_171 : decode cX14_goes 171 = .ok (.if_icmp .eq 11, 3) := by decide +kernel
theorem dX14_goes_174 : decode cX14_goes 174 = .ok (.aload_n 0, 1) := by decide +kernel
theorem dX14_goes_175 : decode cX14_goes 175 = .ok (.iload_n 1, 1) := by decide +kernel
theorem dX14_goes_176 : decode cX14_goes 176 = .ok (.iload 4, 2) := by decide +kernel
theorem dX14_goes_178 : decode cX14_goes 178 = .ok (.invokevirtual 384, 3) := by decide +kernel
theorem dX14_goes_181 : decode cX14_goes 181 = .ok (.ireturn, 1) := by decide +kernel
theorem dX14_goes_182 : decode cX14_goes 182 = .ok (.aload_n 0, 1) := by decide +kernel
theorem dX14_goes_183 : decode cX14_goes 183 = .ok (.dup, 1) := by decide +kernel
theorem dX14_goes_184 : decode cX14_goes 184 = .ok (.getfield 381, 3) := by decide +kernel
theorem dX14_goes_187 : decode cX14_goes 187 = .ok (.iconst 1, 1) := by decide +kernel
theorem dX14_goes_188 : decode cX14_goes 188 = .ok (.iadd, 1) := by decide +kernel
theorem dX14_goes_189 : decode cX14_goes 189 = .ok (.putfield 381, 3) := by decide +kernel
theorem dX14_goes_192 : decode cX14_goes 192 = .ok (.aload 5, 2) := by decide +kernel
theorem dX14_goes_194 : decode cX14_goes 194 = .ok (.iconst 0, 1) := by decide +kernel
theorem dX14_goes_195 : decode cX14_goes 195 = .ok (.putfield 316, 3) := by decide +kernel
theorem dX14_goes_198 : decode cX14_goes 198 = .ok (.aload 5, 2) := by decide +kernel
theorem dX14_goes_200 : decode cX14_goes 200 = .ok (.iconst 1, 1) := by decide +kernel
theorem dX14_goes_201 : decode cX14_goes 201 = .ok (.aload 5, 2) := by decide +kernel
theorem dX14_goes_203 : decode cX14_goes 203 = .ok (.getfield 319, 3) := by decide +kernel
theorem dX14_goes_206 : decode cX14_goes 206 = .ok (.isub, 1) := by decide +kernel
theorem dX14_goes_207 : decode cX14_goes 207 = .ok (.putfield 319, 3) := by decide +kernel
theorem dX14_goes_210 : decode cX14_goes 210 = .ok (.aload 6, 2) := by decide +kernel
theorem dX14_goes_212 : decode cX14_goes 212 = .ok (.dup, 1) := by decide +kernel
theorem dX14_goes_213 : decode cX14_goes 213 = .ok (.getfield 284, 3) := by decide +kernel
theorem dX14_goes_216 : decode cX14_goes 216 = .ok (.iload_n 3, 1) := by decide +kernel
theorem dX14_goes_217 : decode cX14_goes 217 = .ok (.iadd, 1) := by decide +kernel
theorem dX14_goes_218 : decode cX14_goes 218 = .ok (.putfield 284, 3) := by decide +kernel
theorem dX14_goes_221 : decode cX14_goes 221 = .ok (.aload 6, 2) := by decide +kernel
theorem dX14_goes_223 : decode cX14_goes 223 = .ok (.getfield 284, 3) := by decide +kernel
theorem dX14_goes_226 : decode cX14_goes 226 = .ok (.aload 6, 2) := by decide +kernel
theorem dX14_goes_228 : decode cX14_goes 228 = .ok (.getfield 338, 3) := by decide +kernel
theorem dX14_goes_231 : decode cX14_goes 231 = .ok (.if_icmp .ne 10, 3) := by decide +kernel
theorem dX14_goes_234 : decode cX14_goes 234 = .ok (.aload_n 0, 1) := by decide +kernel
theorem dX14_goes_235 : decode cX14_goes 235 = .ok (.iload_n 1, 1) := by decide +kernel
theorem dX14_goes_236 : decode cX14_goes 236 = .ok (.bipush 100, 2) := by decide +kernel
theorem dX14_goes_238 : decode cX14_goes 238 = .ok (.invokevirtual 290, 3) := by decide +kernel
theorem dX14_goes_241 : decode cX14_goes 241 = .ok (.iconst 1, 1) := by decide +kernel
theorem dX14_goes_242 : decode cX14_goes 242 = .ok (.ireturn, 1) := by decide +kernel
set_option maxRecDepth 100000 in
set_option maxHeartbeats 4000000 in
theorem m_goes (l : Launch) (D : va_G) (cy : Nat → ClassId) {eda ca : Nat} {ia : Nat → Nat} {σ : SG} {K : KM} {g : GH} {n S hw : Nat} (h : Inv eda ia K g n S hw σ) (hY : nY g) {pp l1 t0 xe le : Nat} (x : Int32) (w : wPp K g σ x pp l1 t0 xe le) (b f0 : Int32) (hb : 1 ≤ b.toInt ∧ b.toInt ≤ 8) (hbm : b.toInt ≤ (sgI σ t0 1).toInt - (sgI σ t0 2).toInt) (hin : sgI σ xe 0 = 0) (hf0 : 0 ≤ f0.toInt ∧ f0.toInt ≤ 65535) (hcap : sgSz σ le + b.toInt.toNat ≤ S - hw) (sz : Nat) : sgM l D cy eda ca ia σ sz yX14_goes (Cond.code yX14_goes cX14_goes 8 (some .int) :: mWall) 10 241 18 146 [.ref (kA K), .int x, .ref xe, .int b, .int f0] (fun v σ2 => (∃ y : Int32, v = some (.int y) ∧ (y = 1 ∨ y = 2)) ∧ Inv eda ia K g n S hw σ2) := by
  refine sg_ofW (cc := cX14_goes) (maxL := 8) (ret := (some .int)) (by decide) rfl (Nat.le_of_ble_eq_true rfl) (lv := [(0, .ref (kA K)), (1, .int x), (2, .ref xe), (3, .int b), (4, .int f0)]) rfl (fun p e s m below meth c ls H N hrt hnm F hB hl => ?_) sz
  have hx := F.1.1
  have hb := F.1.2.1
  have hown := F.1.2.2.2.1
  obtain ⟨tp, ⟨tl, rl, ol⟩, ⟨tt, ot, ht⟩, ⟨tle, rle, ole⟩, pn, hcp, hgr, hk1, hen, hrw⟩ := wPp_of h w
  have wc := w
  obtain ⟨⟨w1, w2⟩, hpp, hl1, h0, ha0, txe, hle, ew, ew1, ew2⟩ := w
  obtain ⟨iw1, iw2, iw3, iw4⟩ := ht.resolve_left (hY _)
  have nle : l1 ≠ le := fun z => absurd (rl.symm.trans ((congrArg (gRo g) z).trans rle)) (by decide)
  obtain ⟨bt, ht0, tbt, nbt⟩ := inv_T h t0 tt
  have iw5 := iw4 hin bt ht0
  have hnl : sgN σ bt < 2147483648 := by omega
  generalize hlo : ([] : List Loc) = locs at hB ⊢
  clear hlo
  refine lv_aload_n hx hb dX14_goes_0 rfl (lv_at hl 0 rfl) ?_
  refine gr_X14_18 F hB dX14_goes_1 (inv_A h) (inv_r2 h) ?_
  refine lv_iload_n hx hb dX14_goes_4 rfl (lv_at hl 1 rfl) ?_
  refine sg_aaldR 9 hx hb F.2.1 hB.1 rfl rfl dX14_goes_5 (inv_tP h).1 (by omega) (m_ltN (n := 12) (inv_tP h).2 (by omega)) (m_ltM (inv_tP h).2 (by decide)) hpp ?_
  refine lv_astore (lv' := [(5, .ref _), (0, .ref _), (1, .int _), (2, .ref _), (3, .int _), (4, .int _)]) hx hb dX14_goes_6 hl (by decide) rfl (fun ls hl => ?_)
  refine lv_aload hx hb dX14_goes_8 (lv_at hl 0 rfl) ?_
  refine gr_X14_199 F hB dX14_goes_10 tp hl1 ?_
  refine lv_iconst (v := 0) hx hb dX14_goes_13 (by decide) ?_
  refine sg_callV (ci := 4) F hB (m_getL l D cy (inv_LS h) tl id 0 (by decide) (by rw [m_i0]; omega) ha0 _) (cwV 1 F.1.2.2.2.2 (mgV (mm_4 _ (List.mem_of_getElem? (i := 3) rfl)) (mm_4 _ (List.mem_of_getElem? (i := 4) rfl)) (mm_4 _ (List.mem_of_getElem? (i := 5) rfl)) (mm_0 _ (List.mem_of_getElem? (i := 35) rfl)) (mm_3 _ (List.mem_of_getElem? (i := 34) rfl))) rfl rfl rfl ⟨rfl, by decide, by decide, by decide +kernel⟩ ⟨Nat.le_of_ble_eq_true rfl, Nat.le_of_ble_eq_true rfl⟩) rfl rfl (by decide) rfl hl.1 rfl (Nat.le_of_ble_eq_true rfl) dX14_goes_14 (Nat.le_of_ble_eq_true rfl) (Nat.add_le_add_right (Nat.le_of_ble_eq_true rfl) _) tl (fun H locs v σ14 N hBn hX14 hP => ?_)
  clear hB; have hB := hBn; clear hBn
  obtain ⟨rfl, rfl⟩ := hP
  refine va_castY hx hb hown (F.1.2.2.2.2 _ (List.mem_cons_of_mem _ (mm_5 _ (List.mem_of_getElem? (i := 25) rfl)))) (F.2.2.1.2.2 ("HubcascadeModel$Transfer", "HubcascadeModel$Transfer") (by decide +kernel)) (sg_recv (ci := 18) F.2.1 hB tt (by decide) rfl) dX14_goes_17 ?_
  refine lv_astore (lv' := [(6, .ref _), (5, .ref _), (0, .ref _), (1, .int _), (2, .ref _), (3, .int _), (4, .int _)]) hx hb dX14_goes_20 hl (by decide) rfl (fun ls hl => ?_)
  refine lv_iload hx hb dX14_goes_22 (lv_at hl 6 rfl) ?_
  by_cases s24_0 : f0 = 98
  · skip
    refine lv_lookup (tgt := 76) hx hb dX14_goes_24 (by decide) (by first | (rw [s24_0]; done) | (rw [s24_0]; rfl)) (by decide) ?_
    refine lv_aload_n hx hb dX14_goes_76 rfl (lv_at hl 2 rfl) ?_
    refine lv_iload_n hx hb dX14_goes_77 rfl (lv_at hl 3 rfl) ?_
    refine lv_iload hx hb dX14_goes_78 (lv_at hl 6 rfl) ?_
    refine sg_callV (ci := 19) F hB (m_fails l D cy h x wc f0 hf0 _) (cwV 2 F.1.2.2.2.2 (mgV (mm_12 _ (List.mem_of_getElem? (i := 14) rfl)) (mm_12 _ (List.mem_of_getElem? (i := 15) rfl)) (mm_12 _ (List.mem_of_getElem? (i := 16) rfl)) (mm_3 _ (List.mem_of_getElem? (i := 23) rfl)) (mm_12 _ (List.mem_of_getElem? (i := 9) rfl))) rfl rfl rfl ⟨rfl, by decide, by decide, by decide +kernel⟩ ⟨Nat.le_of_ble_eq_true rfl, Nat.le_of_ble_eq_true rfl⟩) rfl rfl (by decide) rfl hl.1 rfl (Nat.le_of_ble_eq_true rfl) dX14_goes_80 (Nat.le_of_ble_eq_true rfl) (Nat.add_le_add_right (Nat.le_of_ble_eq_true rfl) _) (inv_A h) (fun H locs v σ80 N hBn hX80 hP => ?_)
    clear hB; have hB := hBn; clear hBn
    obtain ⟨rfl, hI80⟩ := hP
    exact sg_iret F hB hrt dX14_goes_83 (by omega) (by omega) (⟨⟨_, rfl, Or.inr rfl⟩, hI80⟩)
  by_cases s24_1 : f0 = 99
  · skip
    refine lv_lookup (tgt := 76) hx hb dX14_goes_24 (by decide) (by first | (rw [s24_1]; done) | (rw [s24_1]; rfl)) (by decide) ?_
    refine lv_aload_n hx hb dX14_goes_76 rfl (lv_at hl 2 rfl) ?_
    refine lv_iload_n hx hb dX14_goes_77 rfl (lv_at hl 3 rfl) ?_
    refine lv_iload hx hb dX14_goes_78 (lv_at hl 6 rfl) ?_
    refine sg_callV (ci := 19) F hB (m_fails l D cy h x wc f0 hf0 _) (cwV 2 F.1.2.2.2.2 (mgV (mm_12 _ (List.mem_of_getElem? (i := 14) rfl)) (mm_12 _ (List.mem_of_getElem? (i := 15) rfl)) (mm_12 _ (List.mem_of_getElem? (i := 16) rfl)) (mm_3 _ (List.mem_of_getElem? (i := 23) rfl)) (mm_12 _ (List.mem_of_getElem? (i := 9) rfl))) rfl rfl rfl ⟨rfl, by decide, by decide, by decide +kernel⟩ ⟨Nat.le_of_ble_eq_true rfl, Nat.le_of_ble_eq_true rfl⟩) rfl rfl (by decide) rfl hl.1 rfl (Nat.le_of_ble_eq_true rfl) dX14_goes_80 (Nat.le_of_ble_eq_true rfl) (Nat.add_le_add_right (Nat.le_of_ble_eq_true rfl) _) (inv_A h) (fun H locs v σ80 N hBn hX80 hP => ?_)
    clear hB; have hB := hBn; clear hBn
    obtain ⟨rfl, hI80⟩ := hP
    exact sg_iret F hB hrt dX14_goes_83 (by omega) (by omega) (⟨⟨_, rfl, Or.inr rfl⟩, hI80⟩)
  by_cases s24_2 : f0 = 110
  · skip
    refine lv_lookup (tgt := 84) hx hb dX14_goes_24 (by decide) (by first | (rw [s24_2]; done) | (rw [s24_2]; rfl)) (by decide) ?_
    refine lv_aload_n hx hb dX14_goes_84 rfl (lv_at hl 2 rfl) ?_
    refine sg_callV (ci := 19) F hB (m_notYet l D cy h _) (cwV 0 F.1.2.2.2.2 (mgV (mm_12 _ (List.mem_of_getElem? (i := 20) rfl)) (mm_12 _ (List.mem_of_getElem? (i := 21) rfl)) (mm_12 _ (List.mem_of_getElem? (i := 22) rfl)) (mm_3 _ (List.mem_of_getElem? (i := 23) rfl)) (mm_12 _ (List.mem_of_getElem? (i := 12) rfl))) rfl rfl rfl ⟨rfl, by decide, by decide, by decide +kernel⟩ ⟨Nat.le_of_ble_eq_true rfl, Nat.le_of_ble_eq_true rfl⟩) rfl rfl (by decide) rfl hl.1 rfl (Nat.le_of_ble_eq_true rfl) dX14_goes_85 (Nat.le_of_ble_eq_true rfl) (Nat.add_le_add_right (Nat.le_of_ble_eq_true rfl) _) (inv_A h) (fun H locs v σ85 N hBn hX85 hP => ?_)
    clear hB; have hB := hBn; clear hBn
    obtain ⟨rfl, hI85, -⟩ := hP
    exact sg_iret F hB hrt dX14_goes_88 (by omega) (by omega) (⟨⟨_, rfl, Or.inr rfl⟩, hI85⟩)
  by_cases s24_3 : f0 = 115
  · skip
    refine lv_lookup (tgt := 89) hx hb dX14_goes_24 (by decide) (by first | (rw [s24_3]; done) | (rw [s24_3]; rfl)) (by decide) ?_
    refine lv_aload_n hx hb dX14_goes_89 rfl (lv_at hl 2 rfl) ?_
    refine lv_iload_n hx hb dX14_goes_90 rfl (lv_at hl 3 rfl) ?_
    refine sg_callV (ci := 19) F hB (m_stalls l D cy h x wc _) (cwV 1 F.1.2.2.2.2 (mgV (mm_12 _ (List.mem_of_getElem? (i := 17) rfl)) (mm_12 _ (List.mem_of_getElem? (i := 18) rfl)) (mm_12 _ (List.mem_of_getElem? (i := 19) rfl)) (mm_3 _ (List.mem_of_getElem? (i := 23) rfl)) (mm_12 _ (List.mem_of_getElem? (i := 11) rfl))) rfl rfl rfl ⟨rfl, by decide, by decide, by decide +kernel⟩ ⟨Nat.le_of_ble_eq_true rfl, Nat.le_of_ble_eq_true rfl⟩) rfl rfl (by decide) rfl hl.1 rfl (Nat.le_of_ble_eq_true rfl) dX14_goes_91 (Nat.le_of_ble_eq_true rfl) (Nat.add_le_add_right (Nat.le_of_ble_eq_true rfl) _) (inv_A h) (fun H locs v σ91 N hBn hX91 hP => ?_)
    clear hB; have hB := hBn; clear hBn
    obtain ⟨rfl, hI91⟩ := hP
    exact sg_iret F hB hrt dX14_goes_94 (by omega) (by omega) (⟨⟨_, rfl, Or.inr rfl⟩, hI91⟩)
  by_cases s24_4 : f0 = 116
  · skip
    refine lv_lookup (tgt := 76) hx hb dX14_goes_24 (by decide) (by first | (rw [s24_4]; done) | (rw [s24_4]; rfl)) (by decide) ?_
    refine lv_aload_n hx hb dX14_goes_76 rfl (lv_at hl 2 rfl) ?_
    refine lv_iload_n hx hb dX14_goes_77 rfl (lv_at hl 3 rfl) ?_
    refine lv_iload hx hb dX14_goes_78 (lv_at hl 6 rfl) ?_
    refine sg_callV (ci := 19) F hB (m_fails l D cy h x wc f0 hf0 _) (cwV 2 F.1.2.2.2.2 (mgV (mm_12 _ (List.mem_of_getElem? (i := 14) rfl)) (mm_12 _ (List.mem_of_getElem? (i := 15) rfl)) (mm_12 _ (List.mem_of_getElem? (i := 16) rfl)) (mm_3 _ (List.mem_of_getElem? (i := 23) rfl)) (mm_12 _ (List.mem_of_getElem? (i := 9) rfl))) rfl rfl rfl ⟨rfl, by decide, by decide, by decide +kernel⟩ ⟨Nat.le_of_ble_eq_true rfl, Nat.le_of_ble_eq_true rfl⟩) rfl rfl (by decide) rfl hl.1 rfl (Nat.le_of_ble_eq_true rfl) dX14_goes_80 (Nat.le_of_ble_eq_true rfl) (Nat.add_le_add_right (Nat.le_of_ble_eq_true rfl) _) (inv_A h) (fun H locs v σ80 N hBn hX80 hP => ?_)
    clear hB; have hB := hBn; clear hBn
    obtain ⟨rfl, hI80⟩ := hP
    exact sg_iret F hB hrt dX14_goes_83 (by omega) (by omega) (⟨⟨_, rfl, Or.inr rfl⟩, hI80⟩)
  refine lv_lookup (tgt := 95) hx hb dX14_goes_24 (by decide) (show Op.lookupswitch.offset [(98, 52), (99, 52), (110, 60), (115, 65), (116, 52)] 71 _ = 71 from (lv_osw s24_0 rfl).trans ((lv_osw s24_1 rfl).trans ((lv_osw s24_2 rfl).trans ((lv_osw s24_3 rfl).trans ((lv_osw s24_4 rfl).trans (rfl)))))) (by decide) ?_
  refine lv_aload_n hx hb dX14_goes_95 rfl (lv_at hl 2 rfl) ?_
  refine lv_dup hx hb dX14_goes_96 rfl ?_
  refine gf_X14_366 F hB dX14_goes_97 (inv_A h) ?_
  refine lv_iconst (v := 1) hx hb dX14_goes_100 (by decide) ?_
  refine lv_iadd hx hb dX14_goes_101 ?_
  refine pf_X14_366 F hB dX14_goes_102 (inv_A h) (fun H locs hBn => ?_)
  clear hB; have hB := hBn; clear hBn
  have hI102 := inv_PIc (t := 20) hB h (inv_A h) (by unfold iCn; omega)
  have z102 : zR l1 σ (sgPI σ (kA K) 15 (sgI σ (kA K) 15 + 1)) := zR_PI (inv_A h) (by decide) tl
  have w102 := wPp_z h wc z102
  refine lv_aload_n hx hb dX14_goes_105 rfl (lv_at hl 4 rfl) ?_
  refine gf_X14_266 F hB dX14_goes_106 (by exact txe) ?_
  refine lv_aload hx hb dX14_goes_109 (lv_at hl 1 rfl) ?_
  refine gf_X14_319 F hB dX14_goes_111 (by exact tp) ?_
  refine lv_icmp_ne (tgt := 167) hx hb dX14_goes_114 (by decide) (fun c114 => ?_) (fun c114 => ?_)
  · refine lv_iload hx hb dX14_goes_167 (lv_at hl 6 rfl) ?_
    refine lv_bipush (v := 32) hx hb dX14_goes_169 (by decide) ?_
    refine lv_icmp_eq (tgt := 182) hx hb dX14_goes_171 (by decide) (fun c171 => ?_) (fun c171 => ?_)
    · first
        | have Z := z164
        | have Z := z102
      have hA2 := inv_A hI102
      have tp2 := tFr_T Z.1 tp (by decide)
      have tl2 := tFr_T Z.1 tl (by decide)
      refine lv_aload_n hx hb dX14_goes_182 rfl (lv_at hl 2 rfl) ?_
      refine lv_dup hx hb dX14_goes_183 rfl ?_
      refine gf_X14_381 F hB dX14_goes_184 (inv_A hI102) ?_
      refine lv_iconst (v := 1) hx hb dX14_goes_187 (by decide) ?_
      refine lv_iadd hx hb dX14_goes_188 ?_
      refine pf_X14_381 F hB dX14_goes_189 (inv_A hI102) (fun H locs hBn => ?_)
      clear hB; have hB := hBn; clear hBn
      have hI189 := inv_PIc (t := 20) hB hI102 (inv_A hI102) (by unfold iCn; omega)
      refine lv_aload hx hb dX14_goes_192 (lv_at hl 1 rfl) ?_
      refine lv_iconst (v := 0) hx hb dX14_goes_194 (by decide) ?_
      refine pf_X14_316 F hB dX14_goes_195 (by assumption) (fun H locs hBn => ?_)
      clear hB; have hB := hBn; clear hBn
      have hI195 := inv_PIc (t := 18) hB hI189 (by assumption) (by unfold iCn; omega)
      refine lv_aload hx hb dX14_goes_198 (lv_at hl 1 rfl) ?_
      refine lv_iconst (v := 1) hx hb dX14_goes_200 (by decide) ?_
      refine lv_aload hx hb dX14_goes_201 (lv_at hl 1 rfl) ?_
      refine gf_X14_319 F hB dX14_goes_203 (by exact tp2) ?_
      refine lv_isub hx hb dX14_goes_206 ?_
      refine pf_X14_319 F hB dX14_goes_207 (by exact tp2) (fun H locs hBn => ?_)
      clear hB; have hB := hBn; clear hBn
      have hI207 := inv_PIc (t := 18) hB hI195 (by exact tp2) (by unfold iCn; omega)
      have Z2 := zz3 hB Z hA2 tp2 tl2
      have tt2 := tFr_T Z2.1 tt (by decide)
      have w207 := wPp_z h wc Z2
      have dd := Z2.2.1 t0 2 tt
      have dm := Z2.2.1 t0 1 tt
      have dx := Z2.2.2.2.1 xe 0 txe (by decide)
      have dr := (Z2.2.2.2.2.1 t0 0 (by rw [tt]; decide)).trans ht0
      have db := tFr_N Z2.1 tbt (by decide)
      refine lv_aload hx hb dX14_goes_210 (lv_at hl 0 rfl) ?_
      refine lv_dup hx hb dX14_goes_212 rfl ?_
      refine gf_X14_284 F hB dX14_goes_213 (by assumption) ?_
      refine lv_iload_n hx hb dX14_goes_216 rfl (lv_at hl 5 rfl) ?_
      refine lv_iadd hx hb dX14_goes_217 ?_
      refine pf_X14_284 F hB dX14_goes_218 (by exact tt2) (fun H locs hBn => ?_)
      clear hB; have hB := hBn; clear hBn
      have hI218 := inv_dnB hB hI207 (by exact tt2)
      have wB := wPp_hB hB (wPp_PI w207 (Or.inr ⟨fun z => absurd (tt2.symm.trans z) (by decide), fun z => absurd (tt2.symm.trans z) (by decide)⟩) (tFr_T Z2.1 tp (by decide)) (tFr_T Z2.1 tl (by decide)))
      refine lv_aload hx hb dX14_goes_221 (lv_at hl 0 rfl) ?_
      refine gf_X14_284 F hB dX14_goes_223 (by exact tt2) ?_
      refine lv_aload hx hb dX14_goes_226 (lv_at hl 0 rfl) ?_
      refine gf_X14_338 F hB dX14_goes_228 (by exact tt2) ?_
      refine lv_icmp_ne (tgt := 241) hx hb dX14_goes_231 (by decide) (fun c231 => ?_) (fun c231 => ?_)
      · first
          | have hfin := hI238b
          | have hfin := inv_dnw hI218 wB (iW_E hB (iW_tr Z2.1 (inv_T h) tt dm dd dx (Z2.2.2.2.2.1 t0 0 (by rw [tt]; decide)) ⟨iw1, iw2, iw3, iw4⟩) (by exact tt2) (tFr_T Z2.1 txe (by decide)) (by omega) (by omega) (by rw [dd, dm]; omega) c231)
        refine lv_iconst (v := 1) hx hb dX14_goes_241 (by decide) ?_
        exact sg_iret F hB hrt dX14_goes_242 (by omega) (by omega) (⟨⟨_, rfl, Or.inl rfl⟩, hfin⟩)
      · obtain ⟨m1, hm1⟩ := m_evm hB (K := K)
        refine lv_aload_n hx hb dX14_goes_234 rfl (lv_at hl 2 rfl) ?_
        refine lv_iload_n hx hb dX14_goes_235 rfl (lv_at hl 3 rfl) ?_
        refine lv_bipush (v := 100) hx hb dX14_goes_236 (by decide) ?_
        refine sg_callV (ci := 19) F hB (m_ends l D cy hI218 x 100 wB.1.1 wB.1.2 wB.2.1 wB.2.2.1 wB.2.2.2.1 hm1 _) (cwV 2 F.1.2.2.2.2 (mgV (mm_5 _ (List.mem_of_getElem? (i := 33) rfl)) (mm_5 _ (List.mem_of_getElem? (i := 34) rfl)) (mm_5 _ (List.mem_of_getElem? (i := 35) rfl)) (mm_3 _ (List.mem_of_getElem? (i := 23) rfl)) (mm_5 _ (List.mem_of_getElem? (i := 32) rfl))) rfl rfl rfl ⟨rfl, by decide, by decide, by decide +kernel⟩ ⟨Nat.le_of_ble_eq_true rfl, Nat.le_of_ble_eq_true rfl⟩) rfl rfl (by decide) rfl hl.1 rfl (Nat.le_of_ble_eq_true rfl) dX14_goes_238 (Nat.le_trans (show _ ≤ 18 from by omega) (Nat.le_of_ble_eq_true rfl)) (Nat.add_le_add_right (Nat.le_trans (show _ ≤ 146 from by omega) (Nat.le_of_ble_eq_true rfl)) _) (inv_A hI218) (fun H locs v σ238 N hBn hX238 hP => ?_)
        clear hB; have hB := hBn; clear hBn
        refine W.widen (k := 18) (n := N) (show _ ≤ 18 from by omega) (Nat.le_refl _) ?_
        have hBn := sgB_up (n2 := 146) hB (show _ ≤ 146 from by omega)
        clear hB; have hB := hBn; clear hBn
        obtain ⟨rfl, hI238, en1_238, en2_238, en3_238, en4_238⟩ := hP
        have hI238b := inv_dne hI218 wB hI238 en1_238 en2_238 en4_238
        first
          | have hfin := hI238b
          | have hfin := inv_dnw hI218 wB (iW_E hB (iW_tr Z2.1 (inv_T h) tt dm dd dx (Z2.2.2.2.2.1 t0 0 (by rw [tt]; decide)) ⟨iw1, iw2, iw3, iw4⟩) (by exact tt2) (tFr_T Z2.1 txe (by decide)) (by omega) (by omega) (by rw [dd, dm]; omega) c231)
        refine lv_iconst (v := 1) hx hb dX14_goes_241 (by decide) ?_
        exact sg_iret F hB hrt dX14_goes_242 (by omega) (by omega) (⟨⟨_, rfl, Or.inl rfl⟩, hfin⟩)
    · refine lv_aload_n hx hb dX14_goes_174 rfl (lv_at hl 2 rfl) ?_
      refine lv_iload_n hx hb dX14_goes_175 rfl (lv_at hl 3 rfl) ?_
      refine lv_iload hx hb dX14_goes_176 (lv_at hl 6 rfl) ?_
      refine sg_callV (ci := 19) F hB (m_fails l D cy hI102 x (wPp_z h wc (by first | exact z164 | exact z102)) f0 hf0 _) (cwV 2 F.1.2.2.2.2 (mgV (mm_12 _ (List.mem_of_getElem? (i := 14) rfl)) (mm_12 _ (List.mem_of_getElem? (i := 15) rfl)) (mm_12 _ (List.mem_of_getElem? (i := 16) rfl)) (mm_3 _ (List.mem_of_getElem? (i := 23) rfl)) (mm_12 _ (List.mem_of_getElem? (i := 9) rfl))) rfl rfl rfl ⟨rfl, by decide, by decide, by decide +kernel⟩ ⟨Nat.le_of_ble_eq_true rfl, Nat.le_of_ble_eq_true rfl⟩) rfl rfl (by decide) rfl hl.1 rfl (Nat.le_of_ble_eq_true rfl) dX14_goes_178 (Nat.le_of_ble_eq_true rfl) (Nat.add_le_add_right (Nat.le_of_ble_eq_true rfl) _) (inv_A hI102) (fun H locs v σ178 N hBn hX178 hP => ?_)
      clear hB; have hB := hBn; clear hBn
      obtain ⟨rfl, hI178⟩ := hP
      exact sg_iret F hB hrt dX14_goes_181 (by omega) (by omega) (⟨⟨_, rfl, Or.inr rfl⟩, hI178⟩)
  · obtain ⟨kc, hkc⟩ : ∃ kc : Nat, kc = 0 := ⟨_, rfl⟩
    refine W.widen (k := kc) (n := N) (by omega) (Nat.le_refl _) ?_
    refine lv_iconst (v := 0) hx hb dX14_goes_117 (by decide) ?_
    refine lv_istore (lv' := [(7, .int _), (6, .ref _), (5, .ref _), (0, .ref _), (1, .int _), (2, .ref _), (3, .int _), (4, .int _)]) hx hb dX14_goes_118 hl (by decide) rfl (fun ls hl => ?_)
    have key120 : ∃ (σ3 : SG) (k9 : Int32) (nc : Nat), sgB D cy s σ σ3 H locs N nc ∧ lv_has ls 8 [(7, .int k9), (6, .ref t0), (5, .ref pp), (4, .int f0), (3, .int b), (2, .ref xe), (1, .int x), (0, .ref (kA K))] ∧ Inv eda ia K g n S hw σ3 ∧ (0 ≤ k9.toInt ∧ k9.toInt ≤ b.toInt) ∧ sgSz σ3 le = sgSz σ le + k9.toInt.toNat ∧ (kc = 2 * k9.toInt.toNat ∧ nc = 16 * k9.toInt.toNat) ∧ zR l1 σ σ3 := ⟨_, _, _, hB, (lv_sub hl [0, 1, 2, 7, 6, 5, 4, 3] rfl), hI102, ⟨by decide, by rw [m_i0]; omega⟩, by rw [m_i0]; exact (sgSz_nk (by decide)).trans (by omega), ⟨by rw [m_i0]; omega, by rw [m_i0]; omega⟩, z102⟩
    clear hB hl hkc
    obtain ⟨σ3, k9, nc, hB, hl, hI3, hi, hz3, hkn, hzr⟩ := key120
    obtain ⟨d120, hd120⟩ : ∃ d : Nat, d = (b.toInt - k9.toInt).toNat := ⟨_, rfl⟩
    induction d120 using Nat.strongRecOn generalizing H locs ls N σ3 k9 nc kc
    rename_i d120 ih120
    have tx3 : sgT σ3 xe = 17 := tFr_T hzr.1 txe (by decide)
    have tle3 : sgT σ3 le = 5 := tFr_T hzr.1 tle (by decide)
    have hle3 : sgR σ3 xe 3 = some le := (hzr.2.2.2.2.1 xe 3 (by rw [txe]; decide)).trans hle
    have tl3 : sgT σ3 l1 = 5 := tFr_T hzr.1 tl (by decide)
    have tt3 : sgT σ3 t0 = 19 := tFr_T hzr.1 tt (by decide)
    have tb3 : sgT σ3 bt = 100 := tFr_T hzr.1 tbt (by decide)
    have nb3 : sgN σ3 bt = sgN σ bt := tFr_N hzr.1 tbt (by decide)
    have ht3 : sgR σ3 t0 0 = some bt := (hzr.2.2.2.2.1 t0 0 (by rw [tt]; decide)).trans ht0
    have d3 : sgI σ3 t0 2 = sgI σ t0 2 := hzr.2.1 t0 2 tt
    refine lv_iload hx hb dX14_goes_120 (lv_at hl 0 rfl) ?_
    refine lv_iload_n hx hb dX14_goes_122 rfl (lv_at hl 4 rfl) ?_
    refine lv_icmp_ge (tgt := 157) hx hb dX14_goes_123 (by decide) (fun c123 => ?_) (fun c123 => ?_)
    · have hi4 := i_le c123
      refine W.widen (k := 16) (n := N) (show kc ≤ 16 from by omega) (Nat.le_refl _) ?_
      have hBn := sgB_up (n2 := 128) hB (show nc ≤ 128 from by omega)
      clear hB; have hB := hBn; clear hBn
      refine lv_aload_n hx hb dX14_goes_157 rfl (lv_at hl 5 rfl) ?_
      refine lv_iconst (v := 1) hx hb dX14_goes_158 (by decide) ?_
      refine lv_aload_n hx hb dX14_goes_159 rfl (lv_at hl 5 rfl) ?_
      refine gf_X14_266 F hB dX14_goes_160 tx3 ?_
      refine lv_isub hx hb dX14_goes_163 ?_
      refine pf_X14_266 F hB dX14_goes_164 tx3 (fun H locs hBn => ?_)
      clear hB; have hB := hBn; clear hBn
      have hI164 := inv_PIc (t := 17) hB hI3 tx3 (by unfold iCn; omega)
      have z164 : zR l1 σ (sgPI σ3 xe 2 (1 - sgI σ3 xe 2)) := zR_tr hzr (zR_PI tx3 (by decide) tl3)
      refine lv_iload hx hb dX14_goes_167 (lv_at hl 3 rfl) ?_
      refine lv_bipush (v := 32) hx hb dX14_goes_169 (by decide) ?_
      refine lv_icmp_eq (tgt := 182) hx hb dX14_goes_171 (by decide) (fun c171 => ?_) (fun c171 => ?_)
      · first
          | have Z := z164
          | have Z := z102
        have hA2 := inv_A hI164
        have tp2 := tFr_T Z.1 tp (by decide)
        have tl2 := tFr_T Z.1 tl (by decide)
        refine lv_aload_n hx hb dX14_goes_182 rfl (lv_at hl 7 rfl) ?_
        refine lv_dup hx hb dX14_goes_183 rfl ?_
        refine gf_X14_381 F hB dX14_goes_184 (inv_A hI164) ?_
        refine lv_iconst (v := 1) hx hb dX14_goes_187 (by decide) ?_
        refine lv_iadd hx hb dX14_goes_188 ?_
        refine pf_X14_381 F hB dX14_goes_189 (inv_A hI164) (fun H locs hBn => ?_)
        clear hB; have hB := hBn; clear hBn
        have hI189 := inv_PIc (t := 20) hB hI164 (inv_A hI164) (by unfold iCn; omega)
        refine lv_aload hx hb dX14_goes_192 (lv_at hl 2 rfl) ?_
        refine lv_iconst (v := 0) hx hb dX14_goes_194 (by decide) ?_
        refine pf_X14_316 F hB dX14_goes_195 (by assumption) (fun H locs hBn => ?_)
        clear hB; have hB := hBn; clear hBn
        have hI195 := inv_PIc (t := 18) hB hI189 (by assumption) (by unfold iCn; omega)
        refine lv_aload hx hb dX14_goes_198 (lv_at hl 2 rfl) ?_
        refine lv_iconst (v := 1) hx hb dX14_goes_200 (by decide) ?_
        refine lv_aload hx hb dX14_goes_201 (lv_at hl 2 rfl) ?_
        refine gf_X14_319 F hB dX14_goes_203 (by exact tp2) ?_
        refine lv_isub hx hb dX14_goes_206 ?_
        refine pf_X14_319 F hB dX14_goes_207 (by exact tp2) (fun H locs hBn => ?_)
        clear hB; have hB := hBn; clear hBn
        have hI207 := inv_PIc (t := 18) hB hI195 (by exact tp2) (by unfold iCn; omega)
        have Z2 := zz3 hB Z hA2 tp2 tl2
        have tt2 := tFr_T Z2.1 tt (by decide)
        have w207 := wPp_z h wc Z2
        have dd := Z2.2.1 t0 2 tt
        have dm := Z2.2.1 t0 1 tt
        have dx := Z2.2.2.2.1 xe 0 txe (by decide)
        have dr := (Z2.2.2.2.2.1 t0 0 (by rw [tt]; decide)).trans ht0
        have db := tFr_N Z2.1 tbt (by decide)
        refine lv_aload hx hb dX14_goes_210 (lv_at hl 1 rfl) ?_
        refine lv_dup hx hb dX14_goes_212 rfl ?_
        refine gf_X14_284 F hB dX14_goes_213 (by assumption) ?_
        refine lv_iload_n hx hb dX14_goes_216 rfl (lv_at hl 4 rfl) ?_
        refine lv_iadd hx hb dX14_goes_217 ?_
        refine pf_X14_284 F hB dX14_goes_218 (by exact tt2) (fun H locs hBn => ?_)
        clear hB; have hB := hBn; clear hBn
        have hI218 := inv_dnB hB hI207 (by exact tt2)
        have wB := wPp_hB hB (wPp_PI w207 (Or.inr ⟨fun z => absurd (tt2.symm.trans z) (by decide), fun z => absurd (tt2.symm.trans z) (by decide)⟩) (tFr_T Z2.1 tp (by decide)) (tFr_T Z2.1 tl (by decide)))
        refine lv_aload hx hb dX14_goes_221 (lv_at hl 1 rfl) ?_
        refine gf_X14_284 F hB dX14_goes_223 (by exact tt2) ?_
        refine lv_aload hx hb dX14_goes_226 (lv_at hl 1 rfl) ?_
        refine gf_X14_338 F hB dX14_goes_228 (by exact tt2) ?_
        refine lv_icmp_ne (tgt := 241) hx hb dX14_goes_231 (by decide) (fun c231 => ?_) (fun c231 => ?_)
        · first
            | have hfin := hI238b
            | have hfin := inv_dnw hI218 wB (iW_E hB (iW_tr Z2.1 (inv_T h) tt dm dd dx (Z2.2.2.2.2.1 t0 0 (by rw [tt]; decide)) ⟨iw1, iw2, iw3, iw4⟩) (by exact tt2) (tFr_T Z2.1 txe (by decide)) (by omega) (by omega) (by rw [dd, dm]; omega) c231)
          refine lv_iconst (v := 1) hx hb dX14_goes_241 (by decide) ?_
          exact sg_iret F hB hrt dX14_goes_242 (by omega) (by omega) (⟨⟨_, rfl, Or.inl rfl⟩, hfin⟩)
        · obtain ⟨m1, hm1⟩ := m_evm hB (K := K)
          refine lv_aload_n hx hb dX14_goes_234 rfl (lv_at hl 7 rfl) ?_
          refine lv_iload_n hx hb dX14_goes_235 rfl (lv_at hl 6 rfl) ?_
          refine lv_bipush (v := 100) hx hb dX14_goes_236 (by decide) ?_
          refine sg_callV (ci := 19) F hB (m_ends l D cy hI218 x 100 wB.1.1 wB.1.2 wB.2.1 wB.2.2.1 wB.2.2.2.1 hm1 _) (cwV 2 F.1.2.2.2.2 (mgV (mm_5 _ (List.mem_of_getElem? (i := 33) rfl)) (mm_5 _ (List.mem_of_getElem? (i := 34) rfl)) (mm_5 _ (List.mem_of_getElem? (i := 35) rfl)) (mm_3 _ (List.mem_of_getElem? (i := 23) rfl)) (mm_5 _ (List.mem_of_getElem? (i := 32) rfl))) rfl rfl rfl ⟨rfl, by decide, by decide, by decide +kernel⟩ ⟨Nat.le_of_ble_eq_true rfl, Nat.le_of_ble_eq_true rfl⟩) rfl rfl (by decide) rfl hl.1 rfl (Nat.le_of_ble_eq_true rfl) dX14_goes_238 (Nat.le_trans (show _ ≤ 18 from by omega) (Nat.le_of_ble_eq_true rfl)) (Nat.add_le_add_right (Nat.le_trans (show _ ≤ 146 from by omega) (Nat.le_of_ble_eq_true rfl)) _) (inv_A hI218) (fun H locs v σ238 N hBn hX238 hP => ?_)
          clear hB; have hB := hBn; clear hBn
          refine W.widen (k := 18) (n := N) (show _ ≤ 18 from by omega) (Nat.le_refl _) ?_
          have hBn := sgB_up (n2 := 146) hB (show _ ≤ 146 from by omega)
          clear hB; have hB := hBn; clear hBn
          obtain ⟨rfl, hI238, en1_238, en2_238, en3_238, en4_238⟩ := hP
          have hI238b := inv_dne hI218 wB hI238 en1_238 en2_238 en4_238
          first
            | have hfin := hI238b
            | have hfin := inv_dnw hI218 wB (iW_E hB (iW_tr Z2.1 (inv_T h) tt dm dd dx (Z2.2.2.2.2.1 t0 0 (by rw [tt]; decide)) ⟨iw1, iw2, iw3, iw4⟩) (by exact tt2) (tFr_T Z2.1 txe (by decide)) (by omega) (by omega) (by rw [dd, dm]; omega) c231)
          refine lv_iconst (v := 1) hx hb dX14_goes_241 (by decide) ?_
          exact sg_iret F hB hrt dX14_goes_242 (by omega) (by omega) (⟨⟨_, rfl, Or.inl rfl⟩, hfin⟩)
      · refine lv_aload_n hx hb dX14_goes_174 rfl (lv_at hl 7 rfl) ?_
        refine lv_iload_n hx hb dX14_goes_175 rfl (lv_at hl 6 rfl) ?_
        refine lv_iload hx hb dX14_goes_176 (lv_at hl 3 rfl) ?_
        refine sg_callV (ci := 19) F hB (m_fails l D cy hI164 x (wPp_z h wc (by first | exact z164 | exact z102)) f0 hf0 _) (cwV 2 F.1.2.2.2.2 (mgV (mm_12 _ (List.mem_of_getElem? (i := 14) rfl)) (mm_12 _ (List.mem_of_getElem? (i := 15) rfl)) (mm_12 _ (List.mem_of_getElem? (i := 16) rfl)) (mm_3 _ (List.mem_of_getElem? (i := 23) rfl)) (mm_12 _ (List.mem_of_getElem? (i := 9) rfl))) rfl rfl rfl ⟨rfl, by decide, by decide, by decide +kernel⟩ ⟨Nat.le_of_ble_eq_true rfl, Nat.le_of_ble_eq_true rfl⟩) rfl rfl (by decide) rfl hl.1 rfl (Nat.le_of_ble_eq_true rfl) dX14_goes_178 (Nat.le_of_ble_eq_true rfl) (Nat.add_le_add_right (Nat.le_of_ble_eq_true rfl) _) (inv_A hI164) (fun H locs v σ178 N hBn hX178 hP => ?_)
        clear hB; have hB := hBn; clear hBn
        obtain ⟨rfl, hI178⟩ := hP
        exact sg_iret F hB hrt dX14_goes_181 (by omega) (by omega) (⟨⟨_, rfl, Or.inr rfl⟩, hI178⟩)
    · have hi4 := i_nle c123
      have eix : (sgI σ3 t0 2 + k9).toInt = (sgI σ t0 2).toInt + k9.toInt := by rw [d3]; exact m_addb (by omega) (by omega) (by omega) (by omega)
      refine lv_aload_n hx hb dX14_goes_126 rfl (lv_at hl 5 rfl) ?_
      refine gr_X14_320 F hB dX14_goes_127 tx3 hle3 ?_
      refine lv_aload hx hb dX14_goes_130 (lv_at hl 1 rfl) ?_
      refine gr_X14_369 F hB dX14_goes_132 tt3 ht3 ?_
      refine lv_aload hx hb dX14_goes_135 (lv_at hl 1 rfl) ?_
      refine gf_X14_284 F hB dX14_goes_137 tt3 ?_
      refine lv_iload hx hb dX14_goes_140 (lv_at hl 0 rfl) ?_
      refine lv_iadd hx hb dX14_goes_142 ?_
      refine sg_iald hx hb F.2.1 hB.1 dX14_goes_143 tb3 (by omega) (by omega) (by rw [nb3]; exact hnl) ?_
      refine sg_callS F hB (m_box l D cy _ _) (va_cwS 1 F.1.2.2.2.2 (mgS2 (mm_7 _ (List.mem_of_getElem? (i := 33) rfl)) (mm_7 _ (List.mem_of_getElem? (i := 34) rfl)) (mm_7 _ (List.mem_of_getElem? (i := 30) rfl)) (mm_7 _ (List.mem_of_getElem? (i := 25) rfl))) rfl rfl rfl ⟨by decide, by decide, by decide +kernel⟩ ⟨Nat.le_of_ble_eq_true rfl, Nat.le_of_ble_eq_true rfl⟩) rfl hl.1 rfl (Nat.le_of_ble_eq_true rfl) dX14_goes_144 (by show _ ≤ 18; omega) (Nat.add_le_add_right (by omega) _)  (fun H locs v σ144 N hBn hX144 hP => ?_)
      clear hB; have hB := hBn; clear hBn
      obtain ⟨yb, rfl, hbx, hqt⟩ := hP
      have ed144 := sg_eda F hB
      have hI144 := inv_Qt hI3 hqt ed144
      have tle4 : sgT σ144 le = 5 := (hqt.1 le (by rw [tle3]; decide)).1.trans tle3
      have sq144 : sgSz σ144 le = sgSz σ3 le := sgSz_Qt hqt tle3
      obtain ⟨ra147, za147, zb147⟩ := (inv_LS hI144).1 _ tle4 id
      refine sg_callV (ci := 4) F hB (m_add l D cy za147 (fun j y h1 h2 => (inv_LS hI144).2.2.1 ra147 j y h1 h2) yb (iEl_K (l0 := _) (g := g) (j := 0) (by unfold iEl; rw [rle]; exact hbx)) zb147 _) (cwV 1 F.1.2.2.2.2 (mgV (mm_3 _ (List.mem_of_getElem? (i := 9) rfl)) (mm_3 _ (List.mem_of_getElem? (i := 10) rfl)) (mm_3 _ (List.mem_of_getElem? (i := 11) rfl)) (mm_0 _ (List.mem_of_getElem? (i := 35) rfl)) (mm_2 _ (List.mem_of_getElem? (i := 29) rfl))) rfl rfl rfl ⟨rfl, by decide, by decide, by decide +kernel⟩ ⟨Nat.le_of_ble_eq_true rfl, Nat.le_of_ble_eq_true rfl⟩) rfl rfl (by decide) rfl hl.1 rfl (Nat.le_of_ble_eq_true rfl) dX14_goes_147 (by show _ ≤ 18; omega) (Nat.add_le_add_right (by omega) _) tle4 (fun H locs v σ147 N hBn hX147 hP => ?_)
      clear hB; have hB := hBn; clear hBn
      obtain ⟨rfl, hAd147⟩ := hP
      obtain ⟨hI147, ada147, adb147, adc147, add147, ade147, adf147, adg147, adh147⟩ := inv_ad hI144 tle4 za147 hAd147 (sg_eda F hB) (by unfold iEl; rw [rle]; exact hbx) (by rw [rle]; refine inv_cap ?_ (Or.inr rfl); rw [sq144]; omega) (Or.inl ⟨inv_nD hI144 (by rw [rle]; decide), rfl⟩) (nr7 rle (by decide))
      have hz147 : zR l1 σ σ147 := zR_tr hzr (zR_tr (zR_Qt hI3 hqt ed144 tl3) (zR_l (l2 := le) add147 adf147 adg147 adh147 (tFr_T (zR_Qt hI3 hqt ed144 tl3).1 tl3 (by decide)) nle))
      refine lv_pop hx hb dX14_goes_150 rfl ?_
      refine lv_iinc (lv' := [(7, .int _), (6, .ref _), (5, .ref _), (4, .int _), (3, .int _), (2, .ref _), (1, .int _), (0, .ref _)]) hx hb dX14_goes_151 hl (k := 0) rfl rfl (by decide) rfl (fun ls hl => ?_)
      refine lv_goto (tgt := 120) hx hb dX14_goes_154 (by decide) ?_
      have hi3 := i_nle c123
      have e9 : (k9 + Int32.ofInt 1).toInt = k9.toInt + 1 := m_add1 (by omega) (by omega)
      exact ih120 _ (by subst hd120; rw [e9]; omega) _ _ _ _ _ _ _ _ hB (lv_sub hl [0, 1, 2, 3, 4, 5, 6, 7] rfl) hI147 ⟨by rw [e9]; omega, by rw [e9]; omega⟩ (by rw [e9, ada147, sq144]; omega) ⟨by rw [e9]; show kc + 1 + 1 = _; omega, by rw [e9]; omega⟩ hz147 rfl
theorem dX14_comes_0 : decode cX14_comes 0 = .ok (.aload_n 0, 1) := by decide +kernel
theorem dX14_comes_1 : decode cX14_comes 1 = .ok (.getfield 18, 3) := by decide +kernel
theorem dX14_comes_4 : decode cX14_comes 4 = .ok (.iload_n 1, 1) := by decide +kernel
theorem dX14_comes_5 : decode cX14_comes 5 = .ok (.aaload, 1) := by decide +kernel
theorem dX14_comes_6 : decode cX14_comes 6 = .ok (.astore 5, 2) := by decide +kernel
theorem dX14_comes_8 : decode cX14_comes 8 = .ok (.iload 4, 2) := by decide +kernel
theorem dX14_comes_10 : decode cX14_comes 10 = .ok (.lookupswitch 59 #[(98, 42), (99, 34), (115, 53)], 34) := by decide +kernel
theorem dX14_comes_44 : decode cX14_comes 44 = .ok (.aload_n 0, 1) := by decide +kernel
theorem dX14_comes_45 : decode cX14_comes 45 = .ok (.iload_n 1, 1) := by decide +kernel
theorem dX14_comes_46 : decode cX14_comes 46 = .ok (.iload 4, 2) := by decide +kernel
theorem dX14_comes_48 : decode cX14_comes 48 = .ok (.invokevirtual 384, 3) := by decide +kernel
theorem dX14_comes_51 : decode cX14_comes 51 = .ok (.ireturn, 1) := by decide +kernel
theorem dX14_comes_52 : decode cX14_comes 52 = .ok (.aload_n 0, 1) := by decide +kernel
theorem dX14_comes_53 : decode cX14_comes 53 = .ok (.aload 5, 2) := by decide +kernel
theorem dX14_comes_55 : decode cX14_comes 55 = .ok (.getfield 133, 3) := by decide +kernel
theorem dX14_comes_58 : decode cX14_comes 58 = .ok (.invokevirtual 362, 3) := by decide +kernel
theorem dX14_comes_61 : decode cX14_comes 61 = .ok (.iconst 2, 1) := by decide +kernel
theorem dX14_comes_62 : decode cX14_comes 62 = .ok (.ireturn, 1) := by decide +kernel
theorem dX14_comes_63 : decode cX14_comes 63 = .ok (.aload_n 0, 1) := by decide +kernel
theorem dX14_comes_64 : decode cX14_comes 64 = .ok (.iload_n 1, 1) := by decide +kernel
theorem dX14_comes_65 : decode cX14_comes 65 = .ok (.invokevirtual 387, 3) := by decide +kernel
theorem dX14_comes_68 : decode cX14_comes 68 = .ok (.ireturn, 1) := by decide +kernel
theorem dX14_comes_69 : decode cX14_comes 69 = .ok (.iload 4, 2) := by decide +kernel
theorem dX14_comes_71 : decode cX14_comes 71 = .ok (.bipush 110, 2) := by decide +kernel
theorem dX14_comes_73 : decode cX14_comes 73 = .ok (.if_icmp .eq 7, 3) := by decide +kernel
theorem dX14_comes_76 : decode cX14_comes 76 = .ok (.iload_n 3, 1) := by decide +kernel
theorem dX14_comes_77 : decode cX14_comes 77 = .ok (.ifCond .ne 8, 3) := by decide +kernel
theorem dX14_comes_80 : decode cX14_comes 80 = .ok (.aload_n 0, 1) := by decide +kernel
theorem dX14_comes_81 : decode cX14_comes 81 = .ok (.invokevirtual 390, 3) := by decide +kernel
theorem dX14_comes_84 : decode cX14_comes 84 = .ok (.ireturn, 1) := by decide +kernel
theorem dX14_comes_85 : decode cX14_comes 85 = .ok (.aload_n 0, 1) := by decide +kernel
theorem dX14_comes_86 : decode cX14_comes 86 = .ok (.dup, 1) := by decide +kernel
theorem dX14_comes_87 : decode cX14_comes 87 = .ok (.getfield 366, 3) := by decide +kernel
theorem dX14_comes_90 : decode cX14_comes 90 = .ok (.iconst 1, 1) := by decide +kernel
theorem dX14_comes_91 : decode cX14_comes 91 = .ok (.iadd, 1) := by decide +kernel
theorem dX14_comes_92 : decode cX14_comes 92 = .ok (.putfield 366, 3) := by decide +kernel
theorem dX14_comes_95 : decode cX14_comes 95 = .ok (.iload 4, 2) := by decide +kernel
theorem dX14_comes_97 : decode cX14_comes 97 = .ok (.bipush 116, 2) := by decide +kernel
theorem dX14_comes_99 : decode cX14_comes 99 = .ok (.if_icmp .ne 41, 3) := by decide +kernel
theorem dX14_comes_102 : decode cX14_comes 102 = .ok (.aload_n 0, 1) := by decide +kernel
theorem dX14_comes_103 : decode cX14_comes 103 = .ok (.aload_n 2, 1) := by decide +kernel
theorem dX14_comes_104 : decode cX14_comes 104 = .ok (.iload_n 3, 1) := by decide +kernel
theorem dX14_comes_105 : decode cX14_comes 105 = .ok (.invokevirtual 393, 3) := by decide +kernel
theorem dX14_comes_108 : decode cX14_comes 108 = .ok (.aload_n 0, 1) := by decide +kernel
theorem dX14_comes_109 : decode cX14_comes 109 = .ok (.getfield 10, 3) := by decide +kernel
theorem dX14_comes_112 : decode cX14_comes 112 = .ok (.aload 5, 2) := by decide +kernel
theorem dX14_comes_114 : decode cX14_comes 114 = .ok (.getfield 133, 3) := by decide +kernel
theorem dX14_comes_117 : decode cX14_comes 117 = .ok (.invokevirtual 76, 3) := by decide +kernel
theorem dX14_comes_120 : decode cX14_comes 120 = .ok (.checkcast 48, 3) := by decide +kernel
theorem dX14_comes_123 : decode cX14_comes 123 = .ok (.dup, 1) := by decide +kernel
theorem dX14_comes_124 : decode cX14_comes 124 = .ok (.getfield 180, 3) := by decide +kernel
theorem dX14_comes_127 : decode cX14_comes 127 = .ok (.iconst 1, 1) := by decide +kernel
theorem dX14_comes_128 : decode cX14_comes 128 = .ok (.iadd, 1) := by decide +kernel
theorem dX14_comes_129 : decode cX14_comes 129 = .ok (.putfield 180, 3) := by decide +kernel
theorem dX14_comes_132 : decode cX14_comes 132 = .ok (.aload 5, 2) := by decide +kernel
theorem dX14_comes_134 : decode cX14_comes 134 = .ok (.iconst 0, 1) := by decide +kernel
theorem dX14_comes_135 : decode cX14_comes 135 = .ok (.putfield 316, 3) := by decide +kernel
theorem dX14_comes_138 : decode cX14_comes 138 = .ok (.iconst 1, 1) := by decide +kernel
theorem dX14_comes_139 : decode cX14_comes 139 = .ok (.ireturn, 1) := by decide +kernel
theorem dX14_comes_140 : decode cX14_comes 140 = .ok (.iload 4, 2) := by decide +kernel
theorem dX14_comes_142 : decode cX14_comes 142 = .ok (.bipush 100, 2) := by decide +kernel
theorem dX14_comes_144 : decode cX14_comes 144 = .ok (.if_icmp .ne 16, 3) := by decide +kernel
theorem dX14_comes_147 : decode cX14_comes 147 = .ok (.aload_n 2, 1) := by decide +kernel
theorem dX14_comes_148 : decode cX14_comes 148 = .ok (.iload_n 3, 1) := by decide +kernel
theorem dX14_comes_149 : decode cX14_comes 149 = .ok (.putfield 269, 3) := by decide +kernel
theorem dX14_comes_152 : decode cX14_comes 152 = .ok (.aload_n 0, 1) := by decide +kernel
theorem dX14_comes_153 : decode cX14_comes 153 = .ok (.iload_n 1, 1) := by decide +kernel
theorem dX14_comes_154 : decode cX14_comes 154 = .ok (.iload 4, 2) := by decide +kernel
theorem dX14_comes_156 : decode cX14_comes 156 = .ok (.invokevirtual 384, 3) := by decide +kernel
theorem dX14_comes_159 : decode cX14_comes 159 = .ok (.ireturn, 1) := by decide +kernel
theorem dX14_comes_160 : decode cX14_comes 160 = .ok (.aload_n 2, 1) := by decide +kernel
theorem dX14_comes_161 : decode cX14_comes 161 = .ok (.getfield 266, 3) := by decide +kernel
theorem dX14_comes_164 : decode cX14_comes 164 = .ok (.aload 5, 2) := by decide +kernel
theorem dX14_comes_166 : decode cX14_comes 166 = .ok (.getfield 319, 3) := by decide +kernel
theorem dX14_comes_169 : decode cX14_comes 169 = .ok (.if_icmp .ne 7, 3) := by decide +kernel
theorem dX14_comes_172 : decode cX14_comes 172 = .ok (.iconst 1, 1) := by decide +kernel
theorem dX14_comes_173 : decode cX14_comes 173 = .ok (.goto 4, 3) := by decide +kernel
theorem dX14_comes_176 : decode cX14_comes 176 = .ok (.iconst 0, 1) := by decide +kernel
theorem dX14_comes_177 : decode cX14_comes 177 = .ok (.istore 6, 2) := by decide +kernel
theorem dX14_comes_179 : decode cX14_comes 179 = .ok (.aload 5, 2) := by decide +kernel
theorem dX14_comes_181 : decode cX14_comes 181 = .ok (.iconst 0, 1) := by decide +kernel
theorem dX14_comes_182 : decode cX14_comes 182 = .ok (.putfield 316, 3) := by decide +kernel
theorem dX14_comes_185 : decode cX14_comes 185 = .ok (.iload 6, 2) := by decide +kernel
theorem dX14_comes_187 : decode cX14_comes 187 = .ok (.ifCond .eq 75, 3) := by decide +kernel
theorem dX14_comes_190 : decode cX14_comes 190 = .ok (.aload 5, 2) := by decide +kernel
theorem dX14_comes_192 : decode cX14_comes 192 = .ok (.getfield 199, 3) := by decide +kernel
theorem dX14_comes_195 : decode cX14_comes 195 = .ok (.iconst 0, 1) := by decide +kernel
theorem dX14_comes_196 : decode cX14_comes 196 = .ok (.invokevirtual 76, 3) := by decide +kernel
theorem dX14_comes_199 : decode cX14_comes 199 = .ok (.checkcast 275, 3) := by decide +kernel
theorem dX14_comes_202 : decode cX14_comes 202 = .ok (.astore 7, 2) := by decide +kernel
theorem dX14_comes_204 : decode cX14_comes 204 = .ok (.iconst 0, 1) := by decide +kernel
theorem dX14_comes_205 : decode cX14_comes 205 = .ok (.istore 8, 2) := by decide +kernel
theorem dX14_comes_207 : decode cX14_comes 207 = .ok (.iload 8, 2) := by decide +kernel
theorem dX14_comes_209 : decode cX14_comes 209 = .ok (.iload_n 3, 1) := by decide +kernel
theorem dX14_comes_210 : decode cX14_comes 210 = .ok (.if_icmp .ge 29, 3) := by decide +kernel
theorem dX14_comes_213 : decode cX14_comes 213 = .ok (.aload_n 0, 1) := by decide +kernel
theorem dX14_comes_214 : decode cX14_comes 214 = .ok (.getfield 35, 3) := by decide +kernel
theorem dX14_comes_217 : decode cX14_comes 217 = .ok (.aload_n 2, 1) := by decide +kernel
theorem dX14_comes_218 : decode cX14_comes 218 = .ok (.getfield 320, 3) := by decide +kernel
theorem dX14_comes_221 : decode cX14_comes 221 = .ok (.iload 8, 2) := by decide +kernel
theorem dX14_comes_223 : decode cX14_comes 223 = .ok (.invokevirtual 76, 3) := by decide +kernel
theorem dX14_comes_226 : decode cX14_comes 226 = .ok (.checkcast 213, 3) := by decide +kernel
theorem dX14_comes_229 : decode cX14_comes 229 = .ok (.invokevirtual 57, 3) := by decide +kernel
theorem dX14_comes_232 : decode cX14_comes 232 = .ok (.pop, 1) := by decide +kernel
theorem dX14_comes_233 : decode cX14_comes 233 = .ok (.iinc 8 1, 3) := by decide +kernel
theorem dX14_comes_236 : decode cX14_comes 236 = .ok (.goto (-29), 3) := by decide +kernel
theorem dX14_comes_239 : decode cX14_comes 239 = .ok (.aload 5, 2) := by decide +kernel
theorem dX14_comes_241 : decode cX14_comes 241 = .ok (.iconst 1, 1) := by decide +kernel
theorem dX14_comes_242 : decode cX14_comes 242 = .ok (.aload 5, 2) := by decide +kernel
theorem dX14_comes_244 : decode cX14_comes 244 = .ok (.getfield 319, 3) := by decide +kernel
theorem dX14_comes_247 : decode cX14_comes 247 = .ok (.isub, 1) := by decide +kernel
theorem dX14_comes_248 : decode cX14_comes 248 = .ok (.putfield 319, 3) := by decide +kernel
theorem dX14_comes_251 : decode cX14_comes 251 = .ok (.aload 7, 2) := by decide +kernel
theorem dX14_comes_253 : decode cX14_comes 253 = .ok (.dup, 1) := by decide +kernel
theorem dX14_comes_254 : decode cX14_comes 254 = .ok (.getfield 284, 3) := by decide +kernel
theorem dX14_comes_257 : decode cX14_comes 257 = .ok (.iload_n 3, 1) := by decide +kernel
theorem dX14_comes_258 : decode cX14_comes 258 = .ok (.iadd, 1) := by decide +kernel
theorem dX14_comes_259 : decode cX14_comes 259 = .ok (.putfield 284, 3) := by decide +kernel
theorem dX14_comes_262 : decode cX14_comes 262 = .ok (.iload 4, 2) := by decide +kernel
theorem dX14_comes_264 : decode cX14_comes 264 = .ok (.bipush 97, 2) := by decide +kernel
theorem dX14_comes_266 : decode cX14_comes 266 = .ok (.if_icmp .ne 11, 3) := by decide +kernel
theorem dX14_comes_269 : decode cX14_comes 269 = .ok (.aload_n 2, 1) := by decide +kernel
theorem dX14_comes_270 : decode cX14_comes 270 = .ok (.iload_n 3, 1) := by decide +kernel
theorem dX14_comes_271 : decode cX14_comes 271 = .ok (.putfield 269, 3) := by decide +kernel
theorem dX14_comes_274 : decode cX14_comes 274 = .ok (.goto 19, 3) := by decide +kernel
theorem dX14_comes_277 : decode cX14_comes 277 = .ok (.aload_n 0, 1) := by decide +kernel
theorem dX14_comes_278 : decode cX14_comes 278 = .ok (.aload_n 2, 1) := by decide +kernel
theorem dX14_comes_279 : decode cX14_comes 279 = .ok (.iload_n 3, 1) := by decide +kernel
theorem dX14_comes_280 : decode cX14_comes 280 = .ok (.invokevirtual 393, 3) := by decide +kernel
theorem dX14_comes_283 : decode cX14_comes 283 = .ok (.aload_n 2, 1) := by decide +kernel
theorem dX14_comes_284 : decode cX14_comes 284 = .ok (.iconst 1, 1) := by decide +kernel
theorem dX14_comes_285 : decode cX14_comes 285 = .ok (.aload_n 2, 1) := by decide +kernel
theorem dX14_comes_286 : decode cX14_comes 286 = .ok (.getfield 266, 3) := by decide +kernel
theorem dX14_comes_289 : decode cX14_comes 289 = .ok (.isub, 1) := by decide +kernel
theorem dX14_comes_290 : decode cX14_comes 290 = .ok (.putfield 266, 3) := by decide +kernel
theorem dX14_comes_293 : decode cX14_comes 293 = .ok (.iload 6, 2) := by decide +kernel
theorem dX14_comes_295 : decode cX14_comes 295 = .ok (.ifCond .eq 55, 3) := by decide +kernel
theorem dX14_comes_298 : decode cX14_comes 298 = .ok (.aload 5, 2) := by decide +kernel
theorem dX14_comes_300 : decode cX14_comes 300 = .ok (.getfield 199, 3) := by decide +kernel
theorem dX14_comes_303 : decode cX14_comes 303 = .ok (.iconst 0, 1) := by decide +kernel
theorem dX14_comes_304 : decode cX14_comes 304 = .ok (.invokevirtual 76, 3) := by decide +kernel
theorem dX14_comes_307 : decode cX14_comes 307 = .ok (.checkcast 275, 3) := by decide +kernel
theorem dX14_comes_310 : decode cX14_comes 310 = .ok (.astore 7, 2) := by decide +kernel
theorem dX14_comes_312 : decode cX14_comes 312 = .ok (.aload 7, 2) := by decide +kernel
theorem dX14_comes_314 : decode cX14_comes 314 = .ok (.getfield 284, 3) := by decide +kernel
theorem dX14_comes_317 : decode cX14_comes 317 = .ok (.aload 7, 2) := by decide +kernel
theorem dX14_comes_319 : decode cX14_comes 319 = .ok (.getfield 338, 3) := by decide +kernel
theorem dX14_comes_322 : decode cX14_comes 322 = .ok (.if_icmp .lt 13, 3) := by decide +kernel
theorem dX14_comes_325 : decode cX14_comes 325 = .ok (.aload_n 0, 1) := by decide +kernel
theorem dX14_comes_326 : decode cX14_comes 326 = .ok (.iload_n 1, 1) := by decide +kernel
theorem dX14_comes_327 : decode cX14_comes 327 = .ok (.bipush 100, 2) := by decide +kernel
theorem dX14_comes_329 : decode cX14_comes 329 = .ok (.invokevirtual 290, 3) := by decide +kernel
theorem dX14_comes_332 : decode cX14_comes 332 = .ok (.goto 18, 3) := by decide +kernel
theorem dX14_comes_335 : decode cX14_comes 335 = .ok (.iload_n 3, 1) := by decide +kernel
theorem dX14_comes_336 : decode cX14_comes 336 = .ok (.aload_n 2, 1) := by decide +kernel
theorem dX14_comes_337 : decode cX14_comes 337 = .ok (.getfield 238, 3) := by decide +kernel
theorem dX14_comes_340 : decode cX14_comes 340 = .ok (.if_icmp .ge 10, 3) := by decide +kernel
theorem dX14_comes_343 : decode cX14_comes 343 = .ok (.aload_n 0, 1) := by decide +kernel
theorem dX14_comes_344 : decode cX14_comes 344 = .ok (.iload_n 1, 1) := by decide +kernel
theorem dX14_comes_345 : decode cX14_comes 345 = .ok (.bipush 104, 2) := by decide +kernel
theorem dX14_comes_347 : decode cX14_comes 347 = .ok (.invokevirtual 290, 3) := by decide +kernel
theorem dX14_comes_350 : decode cX14_comes 350 = .ok (.iconst 1, 1) := by decide +kernel
theorem dX14_comes_351 : decode cX14_comes 351 = .ok (.ireturn, 1) := by decide +kernel
set_option maxRecDepth 100000 in
set_option maxHeartbeats 4000000 in
theorem m_comes (l : Launch) (D : va_G) (cy : Nat → ClassId) {eda ca : Nat} {ia : Nat → Nat} {σ : SG} {K : KM} {g : GH} {n S hw : Nat} (h : Inv eda ia K g n S hw σ) (hY : nY g) {pp l1 t0 xe le : Nat} (x : Int32) (w : wPp K g σ x pp l1 t0 xe le) (b f0 : Int32) (hbb : 0 ≤ b.toInt ∧ b.toInt ≤ 8) (hbs : b.toInt ≤ sgSz σ le) (hin : ¬ sgI σ xe 0 = 0) (hks : ¬ sgI σ pp 2 = 115) (hf0 : 0 ≤ f0.toInt ∧ f0.toInt ≤ 65535) (hcap : sgSz σ (kG K) + b.toInt.toNat ≤ S - hw) (sz : Nat) : sgM l D cy eda ca ia σ sz yX14_comes (Cond.code yX14_comes cX14_comes 9 (some .int) :: mWall) 11 266 13 138 [.ref (kA K), .int x, .ref xe, .int b, .int f0] (fun v σ2 => (∃ y : Int32, v = some (.int y) ∧ (y = 1 ∨ y = 2)) ∧ Inv eda ia K g n S hw σ2) := by
  refine sg_ofW (cc := cX14_comes) (maxL := 9) (ret := (some .int)) (by decide) rfl (Nat.le_of_ble_eq_true rfl) (lv := [(0, .ref (kA K)), (1, .int x), (2, .ref xe), (3, .int b), (4, .int f0)]) rfl (fun p e s m below meth c ls H N hrt hnm F hB hl => ?_) sz
  have hx := F.1.1
  have hb := F.1.2.1
  have hown := F.1.2.2.2.1
  obtain ⟨tp, ⟨tl, rl, ol⟩, ⟨tt, ot, ht⟩, ⟨tle, rle, ole⟩, pn, hcp, hgr, hk1, hen, hrw⟩ := wPp_of h w
  have wc := w
  obtain ⟨⟨w1, w2⟩, hpp, hl1, h0, ha0, txe, hle, ew, ew1, ew2⟩ := w
  obtain ⟨iw1, iw2, iw3, iw4⟩ := ht.resolve_left (hY _)
  have nle : l1 ≠ le := fun z => absurd (rl.symm.trans ((congrArg (gRo g) z).trans rle)) (by decide)
  have nlG : l1 ≠ kG K := fun z => absurd (rl.symm.trans ((congrArg (gRo g) z).trans (inv_tG h).2)) (by decide)
  have nleG : le ≠ kG K := fun z => absurd (rle.symm.trans ((congrArg (gRo g) z).trans (inv_tG h).2)) (by decide)
  generalize hlo : ([] : List Loc) = locs at hB ⊢
  clear hlo
  refine lv_aload_n hx hb dX14_comes_0 rfl (lv_at hl 0 rfl) ?_
  refine gr_X14_18 F hB dX14_comes_1 (inv_A h) (inv_r2 h) ?_
  refine lv_iload_n hx hb dX14_comes_4 rfl (lv_at hl 1 rfl) ?_
  refine sg_aaldR 9 hx hb F.2.1 hB.1 rfl rfl dX14_comes_5 (inv_tP h).1 (by omega) (m_ltN (n := 12) (inv_tP h).2 (by omega)) (m_ltM (inv_tP h).2 (by decide)) hpp ?_
  refine lv_astore (lv' := [(5, .ref _), (0, .ref _), (1, .int _), (2, .ref _), (3, .int _), (4, .int _)]) hx hb dX14_comes_6 hl (by decide) rfl (fun ls hl => ?_)
  refine lv_iload hx hb dX14_comes_8 (lv_at hl 5 rfl) ?_
  by_cases s10_0 : f0 = 98
  · skip
    refine lv_lookup (tgt := 52) hx hb dX14_comes_10 (by decide) (by first | (rw [s10_0]; done) | (rw [s10_0]; rfl)) (by decide) ?_
    refine lv_aload_n hx hb dX14_comes_52 rfl (lv_at hl 1 rfl) ?_
    refine lv_aload hx hb dX14_comes_53 (lv_at hl 0 rfl) ?_
    refine gf_X14_133 F hB dX14_comes_55 tp ?_
    refine sg_callV (ci := 19) F hB (m_shut l D cy h hY _ pn.1 pn.2.1 (inv_pu h (by omega) hpp) _) (cwV 1 F.1.2.2.2.2 (mgV (mm_12 _ (List.mem_of_getElem? (i := 1) rfl)) (mm_12 _ (List.mem_of_getElem? (i := 2) rfl)) (mm_12 _ (List.mem_of_getElem? (i := 3) rfl)) (mm_3 _ (List.mem_of_getElem? (i := 23) rfl)) (mm_11 _ (List.mem_of_getElem? (i := 39) rfl))) rfl rfl rfl ⟨rfl, by decide, by decide, by decide +kernel⟩ ⟨Nat.le_of_ble_eq_true rfl, Nat.le_of_ble_eq_true rfl⟩) rfl rfl (by decide) rfl hl.1 rfl (Nat.le_of_ble_eq_true rfl) dX14_comes_58 (Nat.le_of_ble_eq_true rfl) (Nat.add_le_add_right (Nat.le_of_ble_eq_true rfl) _) (inv_A h) (fun H locs v σ58 N hBn hX58 hP => ?_)
    clear hB; have hB := hBn; clear hBn
    obtain ⟨rfl, hI58⟩ := hP
    refine lv_iconst (v := 2) hx hb dX14_comes_61 (by decide) ?_
    exact sg_iret F hB hrt dX14_comes_62 (by omega) (by omega) (⟨⟨_, rfl, Or.inr rfl⟩, hI58⟩)
  by_cases s10_1 : f0 = 99
  · skip
    refine lv_lookup (tgt := 44) hx hb dX14_comes_10 (by decide) (by first | (rw [s10_1]; done) | (rw [s10_1]; rfl)) (by decide) ?_
    refine lv_aload_n hx hb dX14_comes_44 rfl (lv_at hl 1 rfl) ?_
    refine lv_iload_n hx hb dX14_comes_45 rfl (lv_at hl 2 rfl) ?_
    refine lv_iload hx hb dX14_comes_46 (lv_at hl 5 rfl) ?_
    refine sg_callV (ci := 19) F hB (m_fails l D cy h x wc f0 hf0 _) (cwV 2 F.1.2.2.2.2 (mgV (mm_12 _ (List.mem_of_getElem? (i := 14) rfl)) (mm_12 _ (List.mem_of_getElem? (i := 15) rfl)) (mm_12 _ (List.mem_of_getElem? (i := 16) rfl)) (mm_3 _ (List.mem_of_getElem? (i := 23) rfl)) (mm_12 _ (List.mem_of_getElem? (i := 9) rfl))) rfl rfl rfl ⟨rfl, by decide, by decide, by decide +kernel⟩ ⟨Nat.le_of_ble_eq_true rfl, Nat.le_of_ble_eq_true rfl⟩) rfl rfl (by decide) rfl hl.1 rfl (Nat.le_of_ble_eq_true rfl) dX14_comes_48 (Nat.le_of_ble_eq_true rfl) (Nat.add_le_add_right (Nat.le_of_ble_eq_true rfl) _) (inv_A h) (fun H locs v σ48 N hBn hX48 hP => ?_)
    clear hB; have hB := hBn; clear hBn
    obtain ⟨rfl, hI48⟩ := hP
    exact sg_iret F hB hrt dX14_comes_51 (by omega) (by omega) (⟨⟨_, rfl, Or.inr rfl⟩, hI48⟩)
  by_cases s10_2 : f0 = 115
  · skip
    refine lv_lookup (tgt := 63) hx hb dX14_comes_10 (by decide) (by first | (rw [s10_2]; done) | (rw [s10_2]; rfl)) (by decide) ?_
    refine lv_aload_n hx hb dX14_comes_63 rfl (lv_at hl 1 rfl) ?_
    refine lv_iload_n hx hb dX14_comes_64 rfl (lv_at hl 2 rfl) ?_
    refine sg_callV (ci := 19) F hB (m_stalls l D cy h x wc _) (cwV 1 F.1.2.2.2.2 (mgV (mm_12 _ (List.mem_of_getElem? (i := 17) rfl)) (mm_12 _ (List.mem_of_getElem? (i := 18) rfl)) (mm_12 _ (List.mem_of_getElem? (i := 19) rfl)) (mm_3 _ (List.mem_of_getElem? (i := 23) rfl)) (mm_12 _ (List.mem_of_getElem? (i := 11) rfl))) rfl rfl rfl ⟨rfl, by decide, by decide, by decide +kernel⟩ ⟨Nat.le_of_ble_eq_true rfl, Nat.le_of_ble_eq_true rfl⟩) rfl rfl (by decide) rfl hl.1 rfl (Nat.le_of_ble_eq_true rfl) dX14_comes_65 (Nat.le_of_ble_eq_true rfl) (Nat.add_le_add_right (Nat.le_of_ble_eq_true rfl) _) (inv_A h) (fun H locs v σ65 N hBn hX65 hP => ?_)
    clear hB; have hB := hBn; clear hBn
    obtain ⟨rfl, hI65⟩ := hP
    exact sg_iret F hB hrt dX14_comes_68 (by omega) (by omega) (⟨⟨_, rfl, Or.inr rfl⟩, hI65⟩)
  refine lv_lookup (tgt := 69) hx hb dX14_comes_10 (by decide) (show Op.lookupswitch.offset [(98, 42), (99, 34), (115, 53)] 59 _ = 59 from (lv_osw s10_0 rfl).trans ((lv_osw s10_1 rfl).trans ((lv_osw s10_2 rfl).trans (rfl)))) (by decide) ?_
  refine lv_iload hx hb dX14_comes_69 (lv_at hl 5 rfl) ?_
  refine lv_bipush (v := 110) hx hb dX14_comes_71 (by decide) ?_
  refine lv_icmp_eq (tgt := 80) hx hb dX14_comes_73 (by decide) (fun c73 => ?_) (fun c73 => ?_)
  · refine lv_aload_n hx hb dX14_comes_80 rfl (lv_at hl 1 rfl) ?_
    refine sg_callV (ci := 19) F hB (m_notYet l D cy h _) (cwV 0 F.1.2.2.2.2 (mgV (mm_12 _ (List.mem_of_getElem? (i := 20) rfl)) (mm_12 _ (List.mem_of_getElem? (i := 21) rfl)) (mm_12 _ (List.mem_of_getElem? (i := 22) rfl)) (mm_3 _ (List.mem_of_getElem? (i := 23) rfl)) (mm_12 _ (List.mem_of_getElem? (i := 12) rfl))) rfl rfl rfl ⟨rfl, by decide, by decide, by decide +kernel⟩ ⟨Nat.le_of_ble_eq_true rfl, Nat.le_of_ble_eq_true rfl⟩) rfl rfl (by decide) rfl hl.1 rfl (Nat.le_of_ble_eq_true rfl) dX14_comes_81 (Nat.le_of_ble_eq_true rfl) (Nat.add_le_add_right (Nat.le_of_ble_eq_true rfl) _) (inv_A h) (fun H locs v σ81 N hBn hX81 hP => ?_)
    clear hB; have hB := hBn; clear hBn
    obtain ⟨rfl, hI81, -⟩ := hP
    exact sg_iret F hB hrt dX14_comes_84 (by omega) (by omega) (⟨⟨_, rfl, Or.inr rfl⟩, hI81⟩)
  · refine lv_iload_n hx hb dX14_comes_76 rfl (lv_at hl 4 rfl) ?_
    refine lv_if_ne (tgt := 85) hx hb dX14_comes_77 (by decide) (fun c77 => ?_) (fun c77 => ?_)
    · refine lv_aload_n hx hb dX14_comes_85 rfl (lv_at hl 1 rfl) ?_
      refine lv_dup hx hb dX14_comes_86 rfl ?_
      refine gf_X14_366 F hB dX14_comes_87 (inv_A h) ?_
      refine lv_iconst (v := 1) hx hb dX14_comes_90 (by decide) ?_
      refine lv_iadd hx hb dX14_comes_91 ?_
      refine pf_X14_366 F hB dX14_comes_92 (inv_A h) (fun H locs hBn => ?_)
      clear hB; have hB := hBn; clear hBn
      have hI92 := inv_PIc (t := 20) hB h (inv_A h) (by unfold iCn; omega)
      have z92 : zR l1 σ (sgPI σ (kA K) 15 (sgI σ (kA K) 15 + 1)) := zR_PI (inv_A h) (by decide) tl
      have w92 := wPp_z h wc z92
      have sle92 : sgSz (sgPI σ (kA K) 15 (sgI σ (kA K) 15 + 1)) le = sgSz σ le := sgSz_nk (by decide)
      have hk92 := z92.2.2.1 pp 2 tp (by decide)
      have hb1 : 1 ≤ b.toInt := by
        have q := m_neI c77
        rw [m_i0] at q
        have := hbb.1
        omega
      refine lv_iload hx hb dX14_comes_95 (lv_at hl 5 rfl) ?_
      refine lv_bipush (v := 116) hx hb dX14_comes_97 (by decide) ?_
      refine lv_icmp_ne (tgt := 140) hx hb dX14_comes_99 (by decide) (fun c99 => ?_) (fun c99 => ?_)
      · refine lv_iload hx hb dX14_comes_140 (lv_at hl 5 rfl) ?_
        refine lv_bipush (v := 100) hx hb dX14_comes_142 (by decide) ?_
        refine lv_icmp_ne (tgt := 160) hx hb dX14_comes_144 (by decide) (fun c144 => ?_) (fun c144 => ?_)
        · refine lv_aload_n hx hb dX14_comes_160 rfl (lv_at hl 3 rfl) ?_
          refine gf_X14_266 F hB dX14_comes_161 (by exact txe) ?_
          refine lv_aload hx hb dX14_comes_164 (lv_at hl 0 rfl) ?_
          refine gf_X14_319 F hB dX14_comes_166 (by exact tp) ?_
          refine lv_icmp_ne (tgt := 176) hx hb dX14_comes_169 (by decide) (fun c169 => ?_) (fun c169 => ?_)
          · refine lv_iconst (v := 0) hx hb dX14_comes_176 (by decide) ?_
            refine lv_istore (lv' := [(6, .int _), (5, .ref _), (0, .ref _), (1, .int _), (2, .ref _), (3, .int _), (4, .int _)]) hx hb dX14_comes_177 hl (by decide) rfl (fun ls hl => ?_)
            refine lv_aload hx hb dX14_comes_179 (lv_at hl 1 rfl) ?_
            refine lv_iconst (v := 0) hx hb dX14_comes_181 (by decide) ?_
            refine pf_X14_316 F hB dX14_comes_182 (by exact tp) (fun H locs hBn => ?_)
            clear hB; have hB := hBn; clear hBn
            have hI182 := inv_PIc (t := 18) hB hI92 (by exact tp) (by unfold iCn; omega)
            have z181 := zR_tr z92 (zPIB (l1 := l1) (t := 18) hB (by exact tp) (by decide) (by exact tl))
            have w181 := wPp_z h wc z181
            have tx4 := tFr_T z181.1 txe (by decide)
            have hle4 := (z181.2.2.2.2.1 xe 3 (by rw [txe]; decide)).trans hle
            have tl4 := tFr_T z181.1 tl (by decide)
            have tp4 := tFr_T z181.1 tp (by decide)
            have hk4 := z181.2.2.1 pp 2 tp (by decide)
            have sle4 : sgSz (sgPI (sgPI σ (kA K) 15 (sgI σ (kA K) 15 + 1)) pp 7 0) le = sgSz σ le := (sgSz_nk (by decide)).trans (sgSz_nk (by decide))
            refine lv_iload hx hb dX14_comes_185 (lv_at hl 0 rfl) ?_
            refine lv_if_eq (tgt := 262) hx hb dX14_comes_187 (by decide) (fun c187 => ?_) (fun c187 => (by first | exact absurd c187 (by decide) | exact (c187 (by decide)).elim))
            refine lv_iload hx hb dX14_comes_262 (lv_at hl 6 rfl) ?_
            refine lv_bipush (v := 97) hx hb dX14_comes_264 (by decide) ?_
            refine lv_icmp_ne (tgt := 277) hx hb dX14_comes_266 (by decide) (fun c266 => ?_) (fun c266 => ?_)
            · refine lv_aload_n hx hb dX14_comes_277 rfl (lv_at hl 2 rfl) ?_
              refine lv_aload_n hx hb dX14_comes_278 rfl (lv_at hl 4 rfl) ?_
              refine lv_iload_n hx hb dX14_comes_279 rfl (lv_at hl 5 rfl) ?_
              refine sg_callV (ci := 19) F hB (m_ack l D cy hI182 tx4 hle4 tl4 nle b hbb.1 (by rw [sle4]; exact hbs) (by omega) _) (cwV 2 F.1.2.2.2.2 (mgV (mm_12 _ (List.mem_of_getElem? (i := 23) rfl)) (mm_12 _ (List.mem_of_getElem? (i := 24) rfl)) (mm_12 _ (List.mem_of_getElem? (i := 25) rfl)) (mm_3 _ (List.mem_of_getElem? (i := 23) rfl)) (mm_12 _ (List.mem_of_getElem? (i := 13) rfl))) rfl rfl rfl ⟨rfl, by decide, by decide, by decide +kernel⟩ ⟨Nat.le_of_ble_eq_true rfl, Nat.le_of_ble_eq_true rfl⟩) rfl rfl (by decide) rfl hl.1 rfl (Nat.le_of_ble_eq_true rfl) dX14_comes_280 (Nat.le_of_ble_eq_true rfl) (Nat.add_le_add_right (Nat.le_of_ble_eq_true rfl) _) (inv_A hI182) (fun H locs v σ280 N hBn hX280 hP => ?_)
              clear hB; have hB := hBn; clear hBn
              obtain ⟨rfl, hI280, z280⟩ := hP
              have tx280 := tFr_T z280.1 tx4 (by decide)
              refine lv_aload_n hx hb dX14_comes_283 rfl (lv_at hl 4 rfl) ?_
              refine lv_iconst (v := 1) hx hb dX14_comes_284 (by decide) ?_
              refine lv_aload_n hx hb dX14_comes_285 rfl (lv_at hl 4 rfl) ?_
              refine gf_X14_266 F hB dX14_comes_286 tx280 ?_
              refine lv_isub hx hb dX14_comes_289 ?_
              refine pf_X14_266 F hB dX14_comes_290 tx280 (fun H locs hBn => ?_)
              clear hB; have hB := hBn; clear hBn
              have hI290 := inv_PIc (t := 17) hB hI280 tx280 (by unfold iCn; omega)
              have zc := zR_tr z280 (zPIB (l1 := l1) (t := 17) hB tx280 (by decide) (tFr_T z280.1 (by exact tl4) (by decide)))
              refine lv_iload hx hb dX14_comes_293 (lv_at hl 0 rfl) ?_
              refine lv_if_eq (tgt := 350) hx hb dX14_comes_295 (by decide) (fun c295 => ?_) (fun c295 => (by first | exact absurd c295 (by decide) | exact (c295 (by decide)).elim))
              first
                | have hfin := hI329b
                | have hfin := hI347b
                | have hfin : Inv eda ia K g n S hw _ := hI290
                | have hfin := inv_dnw hI290 wC (iW_tr ZC.1 (inv_T hI259) (by exact tt3) (ZC.2.1 t0 1 (by exact tt3)) (ZC.2.1 t0 2 (by exact tt3)) (ZC.2.2.2.1 xe 0 (by exact tx3) (by decide)) (ZC.2.2.2.2.1 t0 0 (Or.inr (Or.inr (Or.inr (Or.inl (by exact tt3)))))) (iW_L hB259 i248 (by exact tt3) (by exact tx3) hbb.1 hbb.2 (m_ltB hB259 ZC (by exact tt3) i248 hbb.1 hbb.2 c322)))
              refine lv_iconst (v := 1) hx hb dX14_comes_350 (by decide) ?_
              exact sg_iret F hB hrt dX14_comes_351 (by omega) (by omega) (⟨⟨_, rfl, Or.inl rfl⟩, hfin⟩)
            · refine lv_aload_n hx hb dX14_comes_269 rfl (lv_at hl 4 rfl) ?_
              refine lv_iload_n hx hb dX14_comes_270 rfl (lv_at hl 5 rfl) ?_
              refine pf_X14_269 F hB dX14_comes_271 (by exact tx4) (fun H locs hBn => ?_)
              clear hB; have hB := hBn; clear hBn
              have hI271 := inv_kpB hB hI182 (by exact tx4) (Or.inr (Or.inr (fun l q1 _ => by
                obtain rfl : le = l := Option.some.inj (Eq.trans (Eq.symm hle4) q1)
                exact ⟨hb1, hbb.2, by rw [show sgSz _ le = sgSz σ le from sle4]; exact hbs, (congrArg (sgT _) hcp).trans tp4, fun z => hks (Eq.trans (Eq.symm hk4) ((congrArg (fun a => sgI _ a 2) hcp.symm).trans z))⟩)))
              have zc := zPIB (l1 := l1) (t := 17) hB (by exact tx4) (by decide) (by exact tl4)
              refine lv_goto (tgt := 293) hx hb dX14_comes_274 (by decide) ?_
              refine lv_iload hx hb dX14_comes_293 (lv_at hl 0 rfl) ?_
              refine lv_if_eq (tgt := 350) hx hb dX14_comes_295 (by decide) (fun c295 => ?_) (fun c295 => (by first | exact absurd c295 (by decide) | exact (c295 (by decide)).elim))
              first
                | have hfin := hI329b
                | have hfin := hI347b
                | have hfin : Inv eda ia K g n S hw _ := hI271
                | have hfin := inv_dnw hI271 wC (iW_tr ZC.1 (inv_T hI259) (by exact tt3) (ZC.2.1 t0 1 (by exact tt3)) (ZC.2.1 t0 2 (by exact tt3)) (ZC.2.2.2.1 xe 0 (by exact tx3) (by decide)) (ZC.2.2.2.2.1 t0 0 (Or.inr (Or.inr (Or.inr (Or.inl (by exact tt3)))))) (iW_L hB259 i248 (by exact tt3) (by exact tx3) hbb.1 hbb.2 (m_ltB hB259 ZC (by exact tt3) i248 hbb.1 hbb.2 c322)))
              refine lv_iconst (v := 1) hx hb dX14_comes_350 (by decide) ?_
              exact sg_iret F hB hrt dX14_comes_351 (by omega) (by omega) (⟨⟨_, rfl, Or.inl rfl⟩, hfin⟩)
          · refine lv_iconst (v := 1) hx hb dX14_comes_172 (by decide) ?_
            refine lv_goto (tgt := 177) hx hb dX14_comes_173 (by decide) ?_
            refine lv_istore (lv' := [(6, .int _), (5, .ref _), (0, .ref _), (1, .int _), (2, .ref _), (3, .int _), (4, .int _)]) hx hb dX14_comes_177 hl (by decide) rfl (fun ls hl => ?_)
            refine lv_aload hx hb dX14_comes_179 (lv_at hl 1 rfl) ?_
            refine lv_iconst (v := 0) hx hb dX14_comes_181 (by decide) ?_
            refine pf_X14_316 F hB dX14_comes_182 (by exact tp) (fun H locs hBn => ?_)
            clear hB; have hB := hBn; clear hBn
            have hI182 := inv_PIc (t := 18) hB hI92 (by exact tp) (by unfold iCn; omega)
            have z181 := zR_tr z92 (zPIB (l1 := l1) (t := 18) hB (by exact tp) (by decide) (by exact tl))
            have w181 := wPp_z h wc z181
            have tx4 := tFr_T z181.1 txe (by decide)
            have hle4 := (z181.2.2.2.2.1 xe 3 (by rw [txe]; decide)).trans hle
            have tl4 := tFr_T z181.1 tl (by decide)
            have tp4 := tFr_T z181.1 tp (by decide)
            have hk4 := z181.2.2.1 pp 2 tp (by decide)
            have sle4 : sgSz (sgPI (sgPI σ (kA K) 15 (sgI σ (kA K) 15 + 1)) pp 7 0) le = sgSz σ le := (sgSz_nk (by decide)).trans (sgSz_nk (by decide))
            refine lv_iload hx hb dX14_comes_185 (lv_at hl 0 rfl) ?_
            refine lv_if_eq (tgt := 262) hx hb dX14_comes_187 (by decide) (fun c187 => (by first | exact absurd c187 (by decide) | exact (c187 (by decide)).elim)) (fun c187 => ?_)
            obtain ⟨kc, hkc⟩ : ∃ kc : Nat, kc = 0 := ⟨_, rfl⟩
            refine lv_aload hx hb dX14_comes_190 (lv_at hl 1 rfl) ?_
            refine gr_X14_199 F hB dX14_comes_192 (by exact tp) (by exact hl1) ?_
            refine lv_iconst (v := 0) hx hb dX14_comes_195 (by decide) ?_
            refine sg_callV (ci := 4) F hB (m_getL l D cy (inv_LS hI182) (by exact tl) id 0 (by decide) (by rw [m_i0]; have := w181.2.2.2.1; omega) w181.2.2.2.2.1 _) (cwV 1 F.1.2.2.2.2 (mgV (mm_4 _ (List.mem_of_getElem? (i := 3) rfl)) (mm_4 _ (List.mem_of_getElem? (i := 4) rfl)) (mm_4 _ (List.mem_of_getElem? (i := 5) rfl)) (mm_0 _ (List.mem_of_getElem? (i := 35) rfl)) (mm_3 _ (List.mem_of_getElem? (i := 34) rfl))) rfl rfl rfl ⟨rfl, by decide, by decide, by decide +kernel⟩ ⟨Nat.le_of_ble_eq_true rfl, Nat.le_of_ble_eq_true rfl⟩) rfl rfl (by decide) rfl hl.1 rfl (Nat.le_of_ble_eq_true rfl) dX14_comes_196 (Nat.le_of_ble_eq_true rfl) (Nat.add_le_add_right (Nat.le_of_ble_eq_true rfl) _) (by exact tl) (fun H locs v σ196 N hBn hX196 hP => ?_)
            clear hB; have hB := hBn; clear hBn
            obtain ⟨rfl, rfl⟩ := hP
            refine va_castY hx hb hown (F.1.2.2.2.2 _ (List.mem_cons_of_mem _ (mm_5 _ (List.mem_of_getElem? (i := 25) rfl)))) (F.2.2.1.2.2 ("HubcascadeModel$Transfer", "HubcascadeModel$Transfer") (by decide +kernel)) (sg_recv (ci := 18) F.2.1 hB (by exact tt) (by decide) rfl) dX14_comes_199 ?_
            refine lv_astore (lv' := [(7, .ref _), (6, .int _), (5, .ref _), (0, .ref _), (1, .int _), (2, .ref _), (3, .int _), (4, .int _)]) hx hb dX14_comes_202 hl (by decide) rfl (fun ls hl => ?_)
            refine W.widen (k := kc) (n := N) (by omega) (Nat.le_refl _) ?_
            refine lv_iconst (v := 0) hx hb dX14_comes_204 (by decide) ?_
            refine lv_istore (lv' := [(8, .int _), (7, .ref _), (6, .int _), (5, .ref _), (0, .ref _), (1, .int _), (2, .ref _), (3, .int _), (4, .int _)]) hx hb dX14_comes_205 hl (by decide) rfl (fun ls hl => ?_)
            have key207 : ∃ (σ3 : SG) (k9 : Int32) (nc : Nat), sgB D cy s σ σ3 H locs N nc ∧ lv_has ls 9 [(8, .int k9), (7, .ref t0), (6, .int 1), (5, .ref pp), (4, .int f0), (3, .int b), (2, .ref xe), (1, .int x), (0, .ref (kA K))] ∧ Inv eda ia K g n S hw σ3 ∧ (0 ≤ k9.toInt ∧ k9.toInt ≤ b.toInt) ∧ sgSz σ3 (kG K) = sgSz σ (kG K) + k9.toInt.toNat ∧ sgSz σ3 le = sgSz σ le ∧ (kc = k9.toInt.toNat ∧ nc = 15 * k9.toInt.toNat) ∧ zR l1 σ σ3 := ⟨_, _, _, hB, (lv_sub hl [0, 1, 2, 3, 8, 7, 6, 5, 4] rfl), hI182, ⟨by decide, by rw [m_i0]; omega⟩, by rw [m_i0]; exact ((sgSz_nk (by decide)).trans (sgSz_nk (by decide))).trans (by omega), (sgSz_nk (by decide)).trans (sgSz_nk (by decide)), ⟨by rw [m_i0]; omega, by rw [m_i0]; omega⟩, z181⟩
            clear hB hl hkc
            obtain ⟨σ3, k9, nc, hB, hl, hI3, hi, hz3, hzl, hkn, hzr⟩ := key207
            obtain ⟨d207, hd207⟩ : ∃ d : Nat, d = (b.toInt - k9.toInt).toNat := ⟨_, rfl⟩
            induction d207 using Nat.strongRecOn generalizing H locs ls N σ3 k9 nc kc
            rename_i d207 ih207
            have tx3 : sgT σ3 xe = 17 := tFr_T hzr.1 txe (by decide)
            have tp3 : sgT σ3 pp = 18 := tFr_T hzr.1 tp (by decide)
            have tle3 : sgT σ3 le = 5 := tFr_T hzr.1 tle (by decide)
            have hle3 : sgR σ3 xe 3 = some le := (hzr.2.2.2.2.1 xe 3 (by rw [txe]; decide)).trans hle
            have tl3 : sgT σ3 l1 = 5 := tFr_T hzr.1 tl (by decide)
            have tt3 : sgT σ3 t0 = 19 := tFr_T hzr.1 tt (by decide)
            have d3 : sgI σ3 t0 2 = sgI σ t0 2 := hzr.2.1 t0 2 tt
            refine lv_iload hx hb dX14_comes_207 (lv_at hl 0 rfl) ?_
            refine lv_iload_n hx hb dX14_comes_209 rfl (lv_at hl 5 rfl) ?_
            refine lv_icmp_ge (tgt := 239) hx hb dX14_comes_210 (by decide) (fun c210 => ?_) (fun c210 => ?_)
            · have hi4 := i_le c210
              refine W.widen (k := 8) (n := N) (show kc ≤ 8 from by omega) (Nat.le_refl _) ?_
              have hBn := sgB_up (n2 := 120) hB (show nc ≤ 120 from by omega)
              clear hB; have hB := hBn; clear hBn
              refine lv_aload hx hb dX14_comes_239 (lv_at hl 3 rfl) ?_
              refine lv_iconst (v := 1) hx hb dX14_comes_241 (by decide) ?_
              refine lv_aload hx hb dX14_comes_242 (lv_at hl 3 rfl) ?_
              refine gf_X14_319 F hB dX14_comes_244 tp3 ?_
              refine lv_isub hx hb dX14_comes_247 ?_
              refine pf_X14_319 F hB dX14_comes_248 tp3 (fun H locs hBn => ?_)
              clear hB; have hB := hBn; clear hBn
              have hI248 := inv_PIc (t := 18) hB hI3 tp3 (by unfold iCn; omega)
              have z248 := zR_tr hzr (zPIB (l1 := l1) (t := 18) hB tp3 (by decide) tl3)
              have w248 := wPp_z h wc z248
              refine lv_aload hx hb dX14_comes_251 (lv_at hl 1 rfl) ?_
              refine lv_dup hx hb dX14_comes_253 rfl ?_
              refine gf_X14_284 F hB dX14_comes_254 (by exact tt3) ?_
              refine lv_iload_n hx hb dX14_comes_257 rfl (lv_at hl 5 rfl) ?_
              refine lv_iadd hx hb dX14_comes_258 ?_
              refine pf_X14_284 F hB dX14_comes_259 (by exact tt3) (fun H locs hBn => ?_)
              clear hB; have hB := hBn; clear hBn
              have hI259 := inv_dnB hB hI248 (by exact tt3)
              have wB := wPp_hB hB (wPp_PI w248 (Or.inr ⟨fun z => absurd (tt3.symm.trans z) (by decide), fun z => absurd (tt3.symm.trans z) (by decide)⟩) (by exact tp3) (by exact tl3))
              have hB259 := hB
              have i248 := iW_tr z248.1 (inv_T h) tt (z248.2.1 t0 1 tt) (z248.2.1 t0 2 tt) (z248.2.2.2.1 xe 0 txe (by decide)) (z248.2.2.2.2.1 t0 0 (by rw [tt]; decide)) ⟨iw1, iw2, iw3, iw4⟩
              have ntp : pp ≠ t0 := fun z => by rw [z, tt] at tp; exact absurd tp (by decide)
              have ntl : le ≠ t0 := fun z => by rw [z, tt] at tle; exact absurd tle (by decide)
              have tx4 := tx3
              have hle4 := hle3
              have tl4 := tl3
              have tp4 := tp3
              have hk4 := (m_B2 hB ntp).trans (z248.2.2.1 pp 2 tp (by decide))
              have sle4 := (m_BS hB ntl).trans ((sgSz_nk (by decide)).trans hzl)
              refine lv_iload hx hb dX14_comes_262 (lv_at hl 4 rfl) ?_
              refine lv_bipush (v := 97) hx hb dX14_comes_264 (by decide) ?_
              refine lv_icmp_ne (tgt := 277) hx hb dX14_comes_266 (by decide) (fun c266 => ?_) (fun c266 => ?_)
              · refine lv_aload_n hx hb dX14_comes_277 rfl (lv_at hl 8 rfl) ?_
                refine lv_aload_n hx hb dX14_comes_278 rfl (lv_at hl 6 rfl) ?_
                refine lv_iload_n hx hb dX14_comes_279 rfl (lv_at hl 5 rfl) ?_
                refine sg_callV (ci := 19) F hB (m_ack l D cy hI259 tx4 hle4 tl4 nle b hbb.1 (by rw [sle4]; exact hbs) (by omega) _) (cwV 2 F.1.2.2.2.2 (mgV (mm_12 _ (List.mem_of_getElem? (i := 23) rfl)) (mm_12 _ (List.mem_of_getElem? (i := 24) rfl)) (mm_12 _ (List.mem_of_getElem? (i := 25) rfl)) (mm_3 _ (List.mem_of_getElem? (i := 23) rfl)) (mm_12 _ (List.mem_of_getElem? (i := 13) rfl))) rfl rfl rfl ⟨rfl, by decide, by decide, by decide +kernel⟩ ⟨Nat.le_of_ble_eq_true rfl, Nat.le_of_ble_eq_true rfl⟩) rfl rfl (by decide) rfl hl.1 rfl (Nat.le_of_ble_eq_true rfl) dX14_comes_280 (Nat.le_of_ble_eq_true rfl) (Nat.add_le_add_right (Nat.le_of_ble_eq_true rfl) _) (inv_A hI259) (fun H locs v σ280 N hBn hX280 hP => ?_)
                clear hB; have hB := hBn; clear hBn
                obtain ⟨rfl, hI280, z280⟩ := hP
                have tx280 := tFr_T z280.1 tx4 (by decide)
                refine lv_aload_n hx hb dX14_comes_283 rfl (lv_at hl 6 rfl) ?_
                refine lv_iconst (v := 1) hx hb dX14_comes_284 (by decide) ?_
                refine lv_aload_n hx hb dX14_comes_285 rfl (lv_at hl 6 rfl) ?_
                refine gf_X14_266 F hB dX14_comes_286 tx280 ?_
                refine lv_isub hx hb dX14_comes_289 ?_
                refine pf_X14_266 F hB dX14_comes_290 tx280 (fun H locs hBn => ?_)
                clear hB; have hB := hBn; clear hBn
                have hI290 := inv_PIc (t := 17) hB hI280 tx280 (by unfold iCn; omega)
                have zc := zR_tr z280 (zPIB (l1 := l1) (t := 17) hB tx280 (by decide) (tFr_T z280.1 (by exact tl4) (by decide)))
                refine lv_iload hx hb dX14_comes_293 (lv_at hl 2 rfl) ?_
                refine lv_if_eq (tgt := 350) hx hb dX14_comes_295 (by decide) (fun c295 => (by first | exact absurd c295 (by decide) | exact (c295 (by decide)).elim)) (fun c295 => ?_)
                have ZC := zc
                have wC := wPp_z hI259 wB ZC
                obtain ⟨tpC, ⟨tlC, -⟩, ⟨ttC, -⟩, -⟩ := wPp_of hI290 wC
                refine lv_aload hx hb dX14_comes_298 (lv_at hl 3 rfl) ?_
                refine gr_X14_199 F hB dX14_comes_300 tpC wC.2.2.1 ?_
                refine lv_iconst (v := 0) hx hb dX14_comes_303 (by decide) ?_
                refine sg_callV (ci := 4) F hB (m_getL l D cy (inv_LS hI290) tlC id 0 (by decide) (by rw [m_i0]; have := wC.2.2.2.1; omega) wC.2.2.2.2.1 _) (cwV 1 F.1.2.2.2.2 (mgV (mm_4 _ (List.mem_of_getElem? (i := 3) rfl)) (mm_4 _ (List.mem_of_getElem? (i := 4) rfl)) (mm_4 _ (List.mem_of_getElem? (i := 5) rfl)) (mm_0 _ (List.mem_of_getElem? (i := 35) rfl)) (mm_3 _ (List.mem_of_getElem? (i := 34) rfl))) rfl rfl rfl ⟨rfl, by decide, by decide, by decide +kernel⟩ ⟨Nat.le_of_ble_eq_true rfl, Nat.le_of_ble_eq_true rfl⟩) rfl rfl (by decide) rfl hl.1 rfl (Nat.le_of_ble_eq_true rfl) dX14_comes_304 (Nat.le_of_ble_eq_true rfl) (Nat.add_le_add_right (Nat.le_of_ble_eq_true rfl) _) tlC (fun H locs v σ304 N hBn hX304 hP => ?_)
                clear hB; have hB := hBn; clear hBn
                obtain ⟨rfl, rfl⟩ := hP
                refine va_castY hx hb hown (F.1.2.2.2.2 _ (List.mem_cons_of_mem _ (mm_5 _ (List.mem_of_getElem? (i := 25) rfl)))) (F.2.2.1.2.2 ("HubcascadeModel$Transfer", "HubcascadeModel$Transfer") (by decide +kernel)) (sg_recv (ci := 18) F.2.1 hB ttC (by decide) rfl) dX14_comes_307 ?_
                refine lv_astore (lv' := [(7, .ref _), (8, .int _), (6, .int _), (5, .ref _), (4, .int _), (3, .int _), (2, .ref _), (1, .int _), (0, .ref _)]) hx hb dX14_comes_310 hl (by decide) rfl (fun ls hl => ?_)
                refine lv_aload hx hb dX14_comes_312 (lv_at hl 0 rfl) ?_
                refine gf_X14_284 F hB dX14_comes_314 ttC ?_
                refine lv_aload hx hb dX14_comes_317 (lv_at hl 0 rfl) ?_
                refine gf_X14_338 F hB dX14_comes_319 ttC ?_
                refine lv_icmp_lt (tgt := 335) hx hb dX14_comes_322 (by decide) (fun c322 => ?_) (fun c322 => ?_)
                · refine lv_iload_n hx hb dX14_comes_335 rfl (lv_at hl 5 rfl) ?_
                  refine lv_aload_n hx hb dX14_comes_336 rfl (lv_at hl 6 rfl) ?_
                  refine gf_X14_238 F hB dX14_comes_337 wC.2.2.2.2.2.1 ?_
                  refine lv_icmp_ge (tgt := 350) hx hb dX14_comes_340 (by decide) (fun c340 => ?_) (fun c340 => ?_)
                  · first
                      | have hfin := hI329b
                      | have hfin := hI347b
                      | have hfin : Inv eda ia K g n S hw _ := hI290
                      | have hfin := inv_dnw hI290 wC (iW_tr ZC.1 (inv_T hI259) (by exact tt3) (ZC.2.1 t0 1 (by exact tt3)) (ZC.2.1 t0 2 (by exact tt3)) (ZC.2.2.2.1 xe 0 (by exact tx3) (by decide)) (ZC.2.2.2.2.1 t0 0 (Or.inr (Or.inr (Or.inr (Or.inl (by exact tt3)))))) (iW_L hB259 i248 (by exact tt3) (by exact tx3) hbb.1 hbb.2 (m_ltB hB259 ZC (by exact tt3) i248 hbb.1 hbb.2 c322)))
                    refine lv_iconst (v := 1) hx hb dX14_comes_350 (by decide) ?_
                    exact sg_iret F hB hrt dX14_comes_351 (by omega) (by omega) (⟨⟨_, rfl, Or.inl rfl⟩, hfin⟩)
                  · obtain ⟨m1, hm1⟩ := m_evm hB (K := K)
                    refine lv_aload_n hx hb dX14_comes_343 rfl (lv_at hl 8 rfl) ?_
                    refine lv_iload_n hx hb dX14_comes_344 rfl (lv_at hl 7 rfl) ?_
                    refine lv_bipush (v := 104) hx hb dX14_comes_345 (by decide) ?_
                    refine sg_callV (ci := 19) F hB (m_ends l D cy hI290 x 104 wC.1.1 wC.1.2 wC.2.1 wC.2.2.1 wC.2.2.2.1 hm1 _) (cwV 2 F.1.2.2.2.2 (mgV (mm_5 _ (List.mem_of_getElem? (i := 33) rfl)) (mm_5 _ (List.mem_of_getElem? (i := 34) rfl)) (mm_5 _ (List.mem_of_getElem? (i := 35) rfl)) (mm_3 _ (List.mem_of_getElem? (i := 23) rfl)) (mm_5 _ (List.mem_of_getElem? (i := 32) rfl))) rfl rfl rfl ⟨rfl, by decide, by decide, by decide +kernel⟩ ⟨Nat.le_of_ble_eq_true rfl, Nat.le_of_ble_eq_true rfl⟩) rfl rfl (by decide) rfl hl.1 rfl (Nat.le_of_ble_eq_true rfl) dX14_comes_347 (Nat.le_trans (show _ ≤ 10 from by omega) (Nat.le_of_ble_eq_true rfl)) (Nat.add_le_add_right (Nat.le_trans (show _ ≤ 138 from by omega) (Nat.le_of_ble_eq_true rfl)) _) (inv_A hI290) (fun H locs v σ347 N hBn hX347 hP => ?_)
                    clear hB; have hB := hBn; clear hBn
                    refine W.widen (k := 10) (n := N) (show _ ≤ 10 from by omega) (Nat.le_refl _) ?_
                    have hBn := sgB_up (n2 := 138) hB (show _ ≤ 138 from by omega)
                    clear hB; have hB := hBn; clear hBn
                    obtain ⟨rfl, hI347, en1_347, en2_347, en3_347, en4_347⟩ := hP
                    have hI347b := inv_dne hI290 wC hI347 en1_347 en2_347 en4_347
                    first
                      | have hfin := hI329b
                      | have hfin := hI347b
                      | have hfin : Inv eda ia K g n S hw _ := hI347b
                      | have hfin := inv_dnw hI347b wC (iW_tr ZC.1 (inv_T hI259) (by exact tt3) (ZC.2.1 t0 1 (by exact tt3)) (ZC.2.1 t0 2 (by exact tt3)) (ZC.2.2.2.1 xe 0 (by exact tx3) (by decide)) (ZC.2.2.2.2.1 t0 0 (Or.inr (Or.inr (Or.inr (Or.inl (by exact tt3)))))) (iW_L hB259 i248 (by exact tt3) (by exact tx3) hbb.1 hbb.2 (m_ltB hB259 ZC (by exact tt3) i248 hbb.1 hbb.2 c322)))
                    refine lv_iconst (v := 1) hx hb dX14_comes_350 (by decide) ?_
                    exact sg_iret F hB hrt dX14_comes_351 (by omega) (by omega) (⟨⟨_, rfl, Or.inl rfl⟩, hfin⟩)
                · obtain ⟨m1, hm1⟩ := m_evm hB (K := K)
                  refine lv_aload_n hx hb dX14_comes_325 rfl (lv_at hl 8 rfl) ?_
                  refine lv_iload_n hx hb dX14_comes_326 rfl (lv_at hl 7 rfl) ?_
                  refine lv_bipush (v := 100) hx hb dX14_comes_327 (by decide) ?_
                  refine sg_callV (ci := 19) F hB (m_ends l D cy hI290 x 100 wC.1.1 wC.1.2 wC.2.1 wC.2.2.1 wC.2.2.2.1 hm1 _) (cwV 2 F.1.2.2.2.2 (mgV (mm_5 _ (List.mem_of_getElem? (i := 33) rfl)) (mm_5 _ (List.mem_of_getElem? (i := 34) rfl)) (mm_5 _ (List.mem_of_getElem? (i := 35) rfl)) (mm_3 _ (List.mem_of_getElem? (i := 23) rfl)) (mm_5 _ (List.mem_of_getElem? (i := 32) rfl))) rfl rfl rfl ⟨rfl, by decide, by decide, by decide +kernel⟩ ⟨Nat.le_of_ble_eq_true rfl, Nat.le_of_ble_eq_true rfl⟩) rfl rfl (by decide) rfl hl.1 rfl (Nat.le_of_ble_eq_true rfl) dX14_comes_329 (Nat.le_trans (show _ ≤ 10 from by omega) (Nat.le_of_ble_eq_true rfl)) (Nat.add_le_add_right (Nat.le_trans (show _ ≤ 138 from by omega) (Nat.le_of_ble_eq_true rfl)) _) (inv_A hI290) (fun H locs v σ329 N hBn hX329 hP => ?_)
                  clear hB; have hB := hBn; clear hBn
                  refine W.widen (k := 10) (n := N) (show _ ≤ 10 from by omega) (Nat.le_refl _) ?_
                  have hBn := sgB_up (n2 := 138) hB (show _ ≤ 138 from by omega)
                  clear hB; have hB := hBn; clear hBn
                  obtain ⟨rfl, hI329, en1_329, en2_329, en3_329, en4_329⟩ := hP
                  have hI329b := inv_dne hI290 wC hI329 en1_329 en2_329 en4_329
                  refine lv_goto (tgt := 350) hx hb dX14_comes_332 (by decide) ?_
                  first
                    | have hfin := hI329b
                    | have hfin := hI347b
                    | have hfin : Inv eda ia K g n S hw _ := hI329b
                    | have hfin := inv_dnw hI329b wC (iW_tr ZC.1 (inv_T hI259) (by exact tt3) (ZC.2.1 t0 1 (by exact tt3)) (ZC.2.1 t0 2 (by exact tt3)) (ZC.2.2.2.1 xe 0 (by exact tx3) (by decide)) (ZC.2.2.2.2.1 t0 0 (Or.inr (Or.inr (Or.inr (Or.inl (by exact tt3)))))) (iW_L hB259 i248 (by exact tt3) (by exact tx3) hbb.1 hbb.2 (m_ltB hB259 ZC (by exact tt3) i248 hbb.1 hbb.2 c322)))
                  refine lv_iconst (v := 1) hx hb dX14_comes_350 (by decide) ?_
                  exact sg_iret F hB hrt dX14_comes_351 (by omega) (by omega) (⟨⟨_, rfl, Or.inl rfl⟩, hfin⟩)
              · refine lv_aload_n hx hb dX14_comes_269 rfl (lv_at hl 6 rfl) ?_
                refine lv_iload_n hx hb dX14_comes_270 rfl (lv_at hl 5 rfl) ?_
                refine pf_X14_269 F hB dX14_comes_271 (by exact tx4) (fun H locs hBn => ?_)
                clear hB; have hB := hBn; clear hBn
                have hI271 := inv_kpB hB hI259 (by exact tx4) (Or.inr (Or.inr (fun l q1 _ => by
                  obtain rfl : le = l := Option.some.inj (Eq.trans (Eq.symm hle4) q1)
                  exact ⟨hb1, hbb.2, by rw [show sgSz _ le = sgSz σ le from sle4]; exact hbs, (congrArg (sgT _) hcp).trans tp4, fun z => hks (Eq.trans (Eq.symm hk4) ((congrArg (fun a => sgI _ a 2) hcp.symm).trans z))⟩)))
                have zc := zPIB (l1 := l1) (t := 17) hB (by exact tx4) (by decide) (by exact tl4)
                refine lv_goto (tgt := 293) hx hb dX14_comes_274 (by decide) ?_
                refine lv_iload hx hb dX14_comes_293 (lv_at hl 2 rfl) ?_
                refine lv_if_eq (tgt := 350) hx hb dX14_comes_295 (by decide) (fun c295 => (by first | exact absurd c295 (by decide) | exact (c295 (by decide)).elim)) (fun c295 => ?_)
                have ZC := zc
                have wC := wPp_z hI259 wB ZC
                obtain ⟨tpC, ⟨tlC, -⟩, ⟨ttC, -⟩, -⟩ := wPp_of hI271 wC
                refine lv_aload hx hb dX14_comes_298 (lv_at hl 3 rfl) ?_
                refine gr_X14_199 F hB dX14_comes_300 tpC wC.2.2.1 ?_
                refine lv_iconst (v := 0) hx hb dX14_comes_303 (by decide) ?_
                refine sg_callV (ci := 4) F hB (m_getL l D cy (inv_LS hI271) tlC id 0 (by decide) (by rw [m_i0]; have := wC.2.2.2.1; omega) wC.2.2.2.2.1 _) (cwV 1 F.1.2.2.2.2 (mgV (mm_4 _ (List.mem_of_getElem? (i := 3) rfl)) (mm_4 _ (List.mem_of_getElem? (i := 4) rfl)) (mm_4 _ (List.mem_of_getElem? (i := 5) rfl)) (mm_0 _ (List.mem_of_getElem? (i := 35) rfl)) (mm_3 _ (List.mem_of_getElem? (i := 34) rfl))) rfl rfl rfl ⟨rfl, by decide, by decide, by decide +kernel⟩ ⟨Nat.le_of_ble_eq_true rfl, Nat.le_of_ble_eq_true rfl⟩) rfl rfl (by decide) rfl hl.1 rfl (Nat.le_of_ble_eq_true rfl) dX14_comes_304 (Nat.le_of_ble_eq_true rfl) (Nat.add_le_add_right (Nat.le_of_ble_eq_true rfl) _) tlC (fun H locs v σ304 N hBn hX304 hP => ?_)
                clear hB; have hB := hBn; clear hBn
                obtain ⟨rfl, rfl⟩ := hP
                refine va_castY hx hb hown (F.1.2.2.2.2 _ (List.mem_cons_of_mem _ (mm_5 _ (List.mem_of_getElem? (i := 25) rfl)))) (F.2.2.1.2.2 ("HubcascadeModel$Transfer", "HubcascadeModel$Transfer") (by decide +kernel)) (sg_recv (ci := 18) F.2.1 hB ttC (by decide) rfl) dX14_comes_307 ?_
                refine lv_astore (lv' := [(7, .ref _), (8, .int _), (6, .int _), (5, .ref _), (4, .int _), (3, .int _), (2, .ref _), (1, .int _), (0, .ref _)]) hx hb dX14_comes_310 hl (by decide) rfl (fun ls hl => ?_)
                refine lv_aload hx hb dX14_comes_312 (lv_at hl 0 rfl) ?_
                refine gf_X14_284 F hB dX14_comes_314 ttC ?_
                refine lv_aload hx hb dX14_comes_317 (lv_at hl 0 rfl) ?_
                refine gf_X14_338 F hB dX14_comes_319 ttC ?_
                refine lv_icmp_lt (tgt := 335) hx hb dX14_comes_322 (by decide) (fun c322 => ?_) (fun c322 => ?_)
                · refine lv_iload_n hx hb dX14_comes_335 rfl (lv_at hl 5 rfl) ?_
                  refine lv_aload_n hx hb dX14_comes_336 rfl (lv_at hl 6 rfl) ?_
                  refine gf_X14_238 F hB dX14_comes_337 wC.2.2.2.2.2.1 ?_
                  refine lv_icmp_ge (tgt := 350) hx hb dX14_comes_340 (by decide) (fun c340 => ?_) (fun c340 => ?_)
                  · first
                      | have hfin := hI329b
                      | have hfin := hI347b
                      | have hfin : Inv eda ia K g n S hw _ := hI271
                      | have hfin := inv_dnw hI271 wC (iW_tr ZC.1 (inv_T hI259) (by exact tt3) (ZC.2.1 t0 1 (by exact tt3)) (ZC.2.1 t0 2 (by exact tt3)) (ZC.2.2.2.1 xe 0 (by exact tx3) (by decide)) (ZC.2.2.2.2.1 t0 0 (Or.inr (Or.inr (Or.inr (Or.inl (by exact tt3)))))) (iW_L hB259 i248 (by exact tt3) (by exact tx3) hbb.1 hbb.2 (m_ltB hB259 ZC (by exact tt3) i248 hbb.1 hbb.2 c322)))
                    refine lv_iconst (v := 1) hx hb dX14_comes_350 (by decide) ?_
                    exact sg_iret F hB hrt dX14_comes_351 (by omega) (by omega) (⟨⟨_, rfl, Or.inl rfl⟩, hfin⟩)
                  · obtain ⟨m1, hm1⟩ := m_evm hB (K := K)
                    refine lv_aload_n hx hb dX14_comes_343 rfl (lv_at hl 8 rfl) ?_
                    refine lv_iload_n hx hb dX14_comes_344 rfl (lv_at hl 7 rfl) ?_
                    refine lv_bipush (v := 104) hx hb dX14_comes_345 (by decide) ?_
                    refine sg_callV (ci := 19) F hB (m_ends l D cy hI271 x 104 wC.1.1 wC.1.2 wC.2.1 wC.2.2.1 wC.2.2.2.1 hm1 _) (cwV 2 F.1.2.2.2.2 (mgV (mm_5 _ (List.mem_of_getElem? (i := 33) rfl)) (mm_5 _ (List.mem_of_getElem? (i := 34) rfl)) (mm_5 _ (List.mem_of_getElem? (i := 35) rfl)) (mm_3 _ (List.mem_of_getElem? (i := 23) rfl)) (mm_5 _ (List.mem_of_getElem? (i := 32) rfl))) rfl rfl rfl ⟨rfl, by decide, by decide, by decide +kernel⟩ ⟨Nat.le_of_ble_eq_true rfl, Nat.le_of_ble_eq_true rfl⟩) rfl rfl (by decide) rfl hl.1 rfl (Nat.le_of_ble_eq_true rfl) dX14_comes_347 (Nat.le_trans (show _ ≤ 10 from by omega) (Nat.le_of_ble_eq_true rfl)) (Nat.add_le_add_right (Nat.le_trans (show _ ≤ 138 from by omega) (Nat.le_of_ble_eq_true rfl)) _) (inv_A hI271) (fun H locs v σ347 N hBn hX347 hP => ?_)
                    clear hB; have hB := hBn; clear hBn
                    refine W.widen (k := 10) (n := N) (show _ ≤ 10 from by omega) (Nat.le_refl _) ?_
                    have hBn := sgB_up (n2 := 138) hB (show _ ≤ 138 from by omega)
                    clear hB; have hB := hBn; clear hBn
                    obtain ⟨rfl, hI347, en1_347, en2_347, en3_347, en4_347⟩ := hP
                    have hI347b := inv_dne hI271 wC hI347 en1_347 en2_347 en4_347
                    first
                      | have hfin := hI329b
                      | have hfin := hI347b
                      | have hfin : Inv eda ia K g n S hw _ := hI347b
                      | have hfin := inv_dnw hI347b wC (iW_tr ZC.1 (inv_T hI259) (by exact tt3) (ZC.2.1 t0 1 (by exact tt3)) (ZC.2.1 t0 2 (by exact tt3)) (ZC.2.2.2.1 xe 0 (by exact tx3) (by decide)) (ZC.2.2.2.2.1 t0 0 (Or.inr (Or.inr (Or.inr (Or.inl (by exact tt3)))))) (iW_L hB259 i248 (by exact tt3) (by exact tx3) hbb.1 hbb.2 (m_ltB hB259 ZC (by exact tt3) i248 hbb.1 hbb.2 c322)))
                    refine lv_iconst (v := 1) hx hb dX14_comes_350 (by decide) ?_
                    exact sg_iret F hB hrt dX14_comes_351 (by omega) (by omega) (⟨⟨_, rfl, Or.inl rfl⟩, hfin⟩)
                · obtain ⟨m1, hm1⟩ := m_evm hB (K := K)
                  refine lv_aload_n hx hb dX14_comes_325 rfl (lv_at hl 8 rfl) ?_
                  refine lv_iload_n hx hb dX14_comes_326 rfl (lv_at hl 7 rfl) ?_
                  refine lv_bipush (v := 100) hx hb dX14_comes_327 (by decide) ?_
                  refine sg_callV (ci := 19) F hB (m_ends l D cy hI271 x 100 wC.1.1 wC.1.2 wC.2.1 wC.2.2.1 wC.2.2.2.1 hm1 _) (cwV 2 F.1.2.2.2.2 (mgV (mm_5 _ (List.mem_of_getElem? (i := 33) rfl)) (mm_5 _ (List.mem_of_getElem? (i := 34) rfl)) (mm_5 _ (List.mem_of_getElem? (i := 35) rfl)) (mm_3 _ (List.mem_of_getElem? (i := 23) rfl)) (mm_5 _ (List.mem_of_getElem? (i := 32) rfl))) rfl rfl rfl ⟨rfl, by decide, by decide, by decide +kernel⟩ ⟨Nat.le_of_ble_eq_true rfl, Nat.le_of_ble_eq_true rfl⟩) rfl rfl (by decide) rfl hl.1 rfl (Nat.le_of_ble_eq_true rfl) dX14_comes_329 (Nat.le_trans (show _ ≤ 10 from by omega) (Nat.le_of_ble_eq_true rfl)) (Nat.add_le_add_right (Nat.le_trans (show _ ≤ 138 from by omega) (Nat.le_of_ble_eq_true rfl)) _) (inv_A hI271) (fun H locs v σ329 N hBn hX329 hP => ?_)
                  clear hB; have hB := hBn; clear hBn
                  refine W.widen (k := 10) (n := N) (show _ ≤ 10 from by omega) (Nat.le_refl _) ?_
                  have hBn := sgB_up (n2 := 138) hB (show _ ≤ 138 from by omega)
                  clear hB; have hB := hBn; clear hBn
                  obtain ⟨rfl, hI329, en1_329, en2_329, en3_329, en4_329⟩ := hP
                  have hI329b := inv_dne hI271 wC hI329 en1_329 en2_329 en4_329
                  refine lv_goto (tgt := 350) hx hb dX14_comes_332 (by decide) ?_
                  first
                    | have hfin := hI329b
                    | have hfin := hI347b
                    | have hfin : Inv eda ia K g n S hw _ := hI329b
                    | have hfin := inv_dnw hI329b wC (iW_tr ZC.1 (inv_T hI259) (by exact tt3) (ZC.2.1 t0 1 (by exact tt3)) (ZC.2.1 t0 2 (by exact tt3)) (ZC.2.2.2.1 xe 0 (by exact tx3) (by decide)) (ZC.2.2.2.2.1 t0 0 (Or.inr (Or.inr (Or.inr (Or.inl (by exact tt3)))))) (iW_L hB259 i248 (by exact tt3) (by exact tx3) hbb.1 hbb.2 (m_ltB hB259 ZC (by exact tt3) i248 hbb.1 hbb.2 c322)))
                  refine lv_iconst (v := 1) hx hb dX14_comes_350 (by decide) ?_
                  exact sg_iret F hB hrt dX14_comes_351 (by omega) (by omega) (⟨⟨_, rfl, Or.inl rfl⟩, hfin⟩)
            · have hi4 := i_nle c210
              obtain ⟨y223, a223, E223⟩ := inv_L hI3 le tle3 k9.toInt.toNat (by omega)
              have hbx : sgBx ia σ3 y223 := by unfold iEl at E223; rw [rle] at E223; exact E223
              refine lv_aload_n hx hb dX14_comes_213 rfl (lv_at hl 8 rfl) ?_
              refine gr_X14_35 F hB dX14_comes_214 (inv_A hI3) (inv_r8 hI3) ?_
              refine lv_aload_n hx hb dX14_comes_217 rfl (lv_at hl 6 rfl) ?_
              refine gr_X14_320 F hB dX14_comes_218 tx3 hle3 ?_
              refine lv_iload hx hb dX14_comes_221 (lv_at hl 0 rfl) ?_
              refine sg_callV (ci := 4) F hB (m_getL l D cy (inv_LS hI3) tle3 id k9 (by omega) (by omega) a223 _) (cwV 1 F.1.2.2.2.2 (mgV (mm_4 _ (List.mem_of_getElem? (i := 3) rfl)) (mm_4 _ (List.mem_of_getElem? (i := 4) rfl)) (mm_4 _ (List.mem_of_getElem? (i := 5) rfl)) (mm_0 _ (List.mem_of_getElem? (i := 35) rfl)) (mm_3 _ (List.mem_of_getElem? (i := 34) rfl))) rfl rfl rfl ⟨rfl, by decide, by decide, by decide +kernel⟩ ⟨Nat.le_of_ble_eq_true rfl, Nat.le_of_ble_eq_true rfl⟩) rfl rfl (by decide) rfl hl.1 rfl (Nat.le_of_ble_eq_true rfl) dX14_comes_223 (by show _ ≤ 13; omega) (Nat.add_le_add_right (by omega) _) tle3 (fun H locs v σ223 N hBn hX223 hP => ?_)
              clear hB; have hB := hBn; clear hBn
              obtain ⟨rfl, rfl⟩ := hP
              refine va_castY hx hb hown (F.1.2.2.2.2 _ (List.mem_cons_of_mem _ (mm_8 _ (List.mem_of_getElem? (i := 3) rfl)))) (F.2.2.1.2.2 ("java/lang/Integer", "java/lang/Integer") (by decide +kernel)) (sg_rbx F hB hbx) dX14_comes_226 ?_
              obtain ⟨ra229, za229, zb229⟩ := (inv_LS hI3).1 _ (inv_tG hI3).1 id
              refine sg_callV (ci := 4) F hB (m_add l D cy za229 (fun j y h1 h2 => (inv_LS hI3).2.2.1 ra229 j y h1 h2) y223 (iEl_K (l0 := _) (g := g) (j := 0) (by unfold iEl; rw [(inv_tG hI3).2]; exact hbx)) zb229 _) (cwV 1 F.1.2.2.2.2 (mgV (mm_3 _ (List.mem_of_getElem? (i := 9) rfl)) (mm_3 _ (List.mem_of_getElem? (i := 10) rfl)) (mm_3 _ (List.mem_of_getElem? (i := 11) rfl)) (mm_0 _ (List.mem_of_getElem? (i := 35) rfl)) (mm_2 _ (List.mem_of_getElem? (i := 29) rfl))) rfl rfl rfl ⟨rfl, by decide, by decide, by decide +kernel⟩ ⟨Nat.le_of_ble_eq_true rfl, Nat.le_of_ble_eq_true rfl⟩) rfl rfl (by decide) rfl hl.1 rfl (Nat.le_of_ble_eq_true rfl) dX14_comes_229 (by show _ ≤ 13; omega) (Nat.add_le_add_right (by omega) _) (inv_tG hI3).1 (fun H locs v σ229 N hBn hX229 hP => ?_)
              clear hB; have hB := hBn; clear hBn
              obtain ⟨rfl, hAd229⟩ := hP
              obtain ⟨hI229, ada229, adb229, adc229, add229, ade229, adf229, adg229, adh229⟩ := inv_ad hI3 (inv_tG hI3).1 za229 hAd229 (sg_eda F hB) (by unfold iEl; rw [(inv_tG hI3).2]; exact hbx) (by rw [(inv_tG hI3).2]; refine inv_cap ?_ (Or.inl rfl); omega) (Or.inl ⟨inv_nD hI3 (by rw [(inv_tG hI3).2]; decide), rfl⟩) (nr7 (inv_tG hI3).2 (by decide))
              have hz229 : zR l1 σ σ229 := zR_tr hzr (zR_l (l2 := kG K) add229 adf229 adg229 adh229 tl3 nlG)
              have sle229 : sgSz σ229 le = sgSz σ3 le := (adh229 le tle3 (fun z => z.elim id nleG)).1
              refine lv_pop hx hb dX14_comes_232 rfl ?_
              refine lv_iinc (lv' := [(8, .int _), (7, .ref _), (6, .int _), (5, .ref _), (4, .int _), (3, .int _), (2, .ref _), (1, .int _), (0, .ref _)]) hx hb dX14_comes_233 hl (k := 0) rfl rfl (by decide) rfl (fun ls hl => ?_)
              refine lv_goto (tgt := 207) hx hb dX14_comes_236 (by decide) ?_
              have hi3 := i_nle c210
              have e9 : (k9 + Int32.ofInt 1).toInt = k9.toInt + 1 := m_add1 (by omega) (by omega)
              exact ih207 _ (by subst hd207; rw [e9]; omega) _ _ _ _ _ _ _ _ hB (lv_sub hl [0, 1, 2, 3, 4, 5, 6, 7, 8] rfl) hI229 ⟨by rw [e9]; omega, by rw [e9]; omega⟩ (by rw [e9, ada229]; omega) (sle229.trans hzl) ⟨by rw [e9]; show kc + 0 + 1 = _; omega, by rw [e9]; omega⟩ hz229 rfl
        · refine lv_aload_n hx hb dX14_comes_147 rfl (lv_at hl 3 rfl) ?_
          refine lv_iload_n hx hb dX14_comes_148 rfl (lv_at hl 4 rfl) ?_
          refine pf_X14_269 F hB dX14_comes_149 (by exact txe) (fun H locs hBn => ?_)
          clear hB; have hB := hBn; clear hBn
          have hI149 := inv_kpB hB hI92 (by exact txe) (Or.inr (Or.inr (fun l q1 _ => by
            obtain rfl : le = l := Option.some.inj (Eq.trans (Eq.symm hle) q1)
            exact ⟨hb1, hbb.2, by rw [show sgSz _ le = sgSz σ le from sle92]; exact hbs, (congrArg (sgT _) hcp).trans tp, fun z => hks (Eq.trans (Eq.symm hk92) ((congrArg (fun a => sgI _ a 2) hcp.symm).trans z))⟩)))
          refine lv_aload_n hx hb dX14_comes_152 rfl (lv_at hl 1 rfl) ?_
          refine lv_iload_n hx hb dX14_comes_153 rfl (lv_at hl 2 rfl) ?_
          refine lv_iload hx hb dX14_comes_154 (lv_at hl 5 rfl) ?_
          refine sg_callV (ci := 19) F hB (m_fails l D cy hI149 x (wPp_PI w92 (Or.inl ⟨by decide, by decide, by decide⟩) (by exact tp) (by exact tl)) f0 hf0 _) (cwV 2 F.1.2.2.2.2 (mgV (mm_12 _ (List.mem_of_getElem? (i := 14) rfl)) (mm_12 _ (List.mem_of_getElem? (i := 15) rfl)) (mm_12 _ (List.mem_of_getElem? (i := 16) rfl)) (mm_3 _ (List.mem_of_getElem? (i := 23) rfl)) (mm_12 _ (List.mem_of_getElem? (i := 9) rfl))) rfl rfl rfl ⟨rfl, by decide, by decide, by decide +kernel⟩ ⟨Nat.le_of_ble_eq_true rfl, Nat.le_of_ble_eq_true rfl⟩) rfl rfl (by decide) rfl hl.1 rfl (Nat.le_of_ble_eq_true rfl) dX14_comes_156 (Nat.le_of_ble_eq_true rfl) (Nat.add_le_add_right (Nat.le_of_ble_eq_true rfl) _) (inv_A hI149) (fun H locs v σ156 N hBn hX156 hP => ?_)
          clear hB; have hB := hBn; clear hBn
          obtain ⟨rfl, hI156⟩ := hP
          exact sg_iret F hB hrt dX14_comes_159 (by omega) (by omega) (⟨⟨_, rfl, Or.inr rfl⟩, hI156⟩)
      · refine lv_aload_n hx hb dX14_comes_102 rfl (lv_at hl 1 rfl) ?_
        refine lv_aload_n hx hb dX14_comes_103 rfl (lv_at hl 3 rfl) ?_
        refine lv_iload_n hx hb dX14_comes_104 rfl (lv_at hl 4 rfl) ?_
        refine sg_callV (ci := 19) F hB (m_ack l D cy hI92 (by exact txe) (by exact hle) (by exact tl) nle b hbb.1 (by rw [sgSz_nk (by decide)]; exact hbs) (by omega) _) (cwV 2 F.1.2.2.2.2 (mgV (mm_12 _ (List.mem_of_getElem? (i := 23) rfl)) (mm_12 _ (List.mem_of_getElem? (i := 24) rfl)) (mm_12 _ (List.mem_of_getElem? (i := 25) rfl)) (mm_3 _ (List.mem_of_getElem? (i := 23) rfl)) (mm_12 _ (List.mem_of_getElem? (i := 13) rfl))) rfl rfl rfl ⟨rfl, by decide, by decide, by decide +kernel⟩ ⟨Nat.le_of_ble_eq_true rfl, Nat.le_of_ble_eq_true rfl⟩) rfl rfl (by decide) rfl hl.1 rfl (Nat.le_of_ble_eq_true rfl) dX14_comes_105 (Nat.le_of_ble_eq_true rfl) (Nat.add_le_add_right (Nat.le_of_ble_eq_true rfl) _) (inv_A hI92) (fun H locs v σ105 N hBn hX105 hP => ?_)
        clear hB; have hB := hBn; clear hBn
        obtain ⟨rfl, hI105, z105⟩ := hP
        have w105 := wPp_z hI92 w92 z105
        obtain ⟨tp5, -, -, -, ⟨pa5, pb5, -⟩, -⟩ := wPp_of hI105 w105
        refine lv_aload_n hx hb dX14_comes_108 rfl (lv_at hl 1 rfl) ?_
        refine gr_X14_10 F hB dX14_comes_109 (inv_A hI105) (inv_r1 hI105) ?_
        refine lv_aload hx hb dX14_comes_112 (lv_at hl 0 rfl) ?_
        refine gf_X14_133 F hB dX14_comes_114 tp5 ?_
        refine sg_callV (ci := 4) F hB (m_getD l D cy hI105 (sgI σ105 pp 0) (by omega) (by omega) _) (cwV 1 F.1.2.2.2.2 (mgV (mm_4 _ (List.mem_of_getElem? (i := 3) rfl)) (mm_4 _ (List.mem_of_getElem? (i := 4) rfl)) (mm_4 _ (List.mem_of_getElem? (i := 5) rfl)) (mm_0 _ (List.mem_of_getElem? (i := 35) rfl)) (mm_3 _ (List.mem_of_getElem? (i := 34) rfl))) rfl rfl rfl ⟨rfl, by decide, by decide, by decide +kernel⟩ ⟨Nat.le_of_ble_eq_true rfl, Nat.le_of_ble_eq_true rfl⟩) rfl rfl (by decide) rfl hl.1 rfl (Nat.le_of_ble_eq_true rfl) dX14_comes_117 (Nat.le_of_ble_eq_true rfl) (Nat.add_le_add_right (Nat.le_of_ble_eq_true rfl) _) (inv_tD hI105).1 (fun H locs v σ117 N hBn hX117 hP => ?_)
        clear hB; have hB := hBn; clear hBn
        obtain ⟨rfl, rfl⟩ := hP
        have dv117 := (inv_dv hI105 (k := ((sgI σ105 pp 0) : Int32).toInt.toNat) (by omega)).2.1
        refine va_castY hx hb hown (F.1.2.2.2.2 _ (List.mem_cons_of_mem _ (mm_4 _ (List.mem_of_getElem? (i := 2) rfl)))) (F.2.2.1.2.2 ("HubcascadeModel$Device", "HubcascadeModel$Device") (by decide +kernel)) (sg_recv (ci := 15) F.2.1 hB (by assumption) (by decide) rfl) dX14_comes_120 ?_
        refine lv_dup hx hb dX14_comes_123 rfl ?_
        refine gf_X14_180 F hB dX14_comes_124 dv117 ?_
        refine lv_iconst (v := 1) hx hb dX14_comes_127 (by decide) ?_
        refine lv_iadd hx hb dX14_comes_128 ?_
        refine pf_X14_180 F hB dX14_comes_129 dv117 (fun H locs hBn => ?_)
        clear hB; have hB := hBn; clear hBn
        have hI129 := inv_PIc (t := 16) hB hI105 dv117 (by unfold iCn; omega)
        refine lv_aload hx hb dX14_comes_132 (lv_at hl 0 rfl) ?_
        refine lv_iconst (v := 0) hx hb dX14_comes_134 (by decide) ?_
        refine pf_X14_316 F hB dX14_comes_135 (by exact tp5) (fun H locs hBn => ?_)
        clear hB; have hB := hBn; clear hBn
        have hI135 := inv_PIc (t := 18) hB hI129 (by exact tp5) (by unfold iCn; omega)
        refine lv_iconst (v := 1) hx hb dX14_comes_138 (by decide) ?_
        exact sg_iret F hB hrt dX14_comes_139 (by omega) (by omega) (⟨⟨_, rfl, Or.inl rfl⟩, hI135⟩)
    · refine lv_aload_n hx hb dX14_comes_80 rfl (lv_at hl 1 rfl) ?_
      refine sg_callV (ci := 19) F hB (m_notYet l D cy h _) (cwV 0 F.1.2.2.2.2 (mgV (mm_12 _ (List.mem_of_getElem? (i := 20) rfl)) (mm_12 _ (List.mem_of_getElem? (i := 21) rfl)) (mm_12 _ (List.mem_of_getElem? (i := 22) rfl)) (mm_3 _ (List.mem_of_getElem? (i := 23) rfl)) (mm_12 _ (List.mem_of_getElem? (i := 12) rfl))) rfl rfl rfl ⟨rfl, by decide, by decide, by decide +kernel⟩ ⟨Nat.le_of_ble_eq_true rfl, Nat.le_of_ble_eq_true rfl⟩) rfl rfl (by decide) rfl hl.1 rfl (Nat.le_of_ble_eq_true rfl) dX14_comes_81 (Nat.le_of_ble_eq_true rfl) (Nat.add_le_add_right (Nat.le_of_ble_eq_true rfl) _) (inv_A h) (fun H locs v σ81 N hBn hX81 hP => ?_)
      clear hB; have hB := hBn; clear hBn
      obtain ⟨rfl, hI81, -⟩ := hP
      exact sg_iret F hB hrt dX14_comes_84 (by omega) (by omega) (⟨⟨_, rfl, Or.inr rfl⟩, hI81⟩)
end MM29
