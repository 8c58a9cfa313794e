section MM31
theorem m_maxI {x y : Int32} : (if x < y then y else x).toInt = max x.toInt y.toInt := by
  by_cases q : x < y
  · rw [if_pos q]
    have := i_lt q
    omega
  · rw [if_neg q]
    have := i_nlt q
    omega
/-- what is left of the host's frame goes down -/
theorem inv_hl {eda n S hw hw2 : Nat} {ia : Nat → Nat} {K : KM} {g : GH} {σ : SG} {v : Int32} (h : Inv eda ia K g n S hw σ) (hv : v.toInt = hw2) (hle : hw2 ≤ hw) : Inv eda ia K g n S hw2 (sgPI σ (kA K) 11 v) := by
  have tA := inv_A h
  have f : ∀ a j t, sgT σ a = t → t ≠ 20 → sgI (sgPI σ (kA K) 11 v) a j = sgI σ a j := fun a j t h1 h2 => by rw [sgI_PI, if_neg (fun z => h2 (by rw [← h1, z.1]; exact tA))]
  refine inv_ci (c2 := g.2.2.2.2.1) (y2 := g.2.2.2.2.2) h (fun _ _ => ⟨rfl, rfl⟩) (fun _ z => Or.inl z) (inv_LS h).2.2.2 (fun _ _ _ _ => rfl) (fun a ha => f a 2 5 ha (by decide)) (fun a ha => ⟨f a 0 17 ha (by decide), f a 1 17 ha (by decide)⟩) (fun a j ha _ => f a j 18 ha (by decide)) (fun a ha => ⟨f a 1 19 ha (by decide), Or.inl (f a 2 19 ha (by decide))⟩) (fun _ z => z) (fun x l hx _ _ => Or.inl ⟨rfl, f x 4 17 hx (by decide)⟩) (by omega) ?_ (iO_tr h (fun _ => rfl) (fun _ _ => rfl) (fun _ _ => ⟨rfl, rfl⟩) (fun j p _ hp => hp) (fun p j hp _ => f p j 18 hp (by decide)) (fun _ _ => rfl) (fun e j x _ hx => hx) (fun d hd hu _ => by rw [f d 6 16 hd (by decide)]; exact hu)) (iR_tr h (fun _ _ => rfl) (fun _ _ z => z) (fun a j ha _ => f a j 16 ha (by decide)))
  have hMi := (inv_M h).2.2
  unfold iMi at hMi ⊢
  rw [sgI_nk (j := 10) (k := 11) (by decide), sgI_nk (j := 9) (k := 11) (by decide), sgI_PI, if_pos ⟨rfl, rfl⟩]
  obtain ⟨q1, q2, q3, q4, q5, q6⟩ := hMi
  exact ⟨q1, hv, by omega, q4, q5, q6⟩
theorem inv_hlB {D : va_G} {cy : Nat → ClassId} {s : State} {σ00 σ : SG} {H : Heap} {locs : List Loc} {N n9 eda n S hw hw2 : Nat} {ia : Nat → Nat} {K : KM} {g : GH} {v : Int32} (_hB : sgB D cy s σ00 (sgPI σ (kA K) 11 v) H locs N n9) (h : Inv eda ia K g n S hw σ) (hv : v.toInt = hw2) (hle : hw2 ≤ hw) : Inv eda ia K g n S hw2 (sgPI σ (kA K) 11 v) := inv_hl h hv hle
theorem inv_hwI {eda n S hw : Nat} {ia : Nat → Nat} {K : KM} {g : GH} {σ : SG} (h : Inv eda ia K g n S hw σ) : (sgI σ (kA K) 11).toInt = hw ∧ hw ≤ 100 := ⟨(inv_M h).2.2.2.1, (inv_M h).2.2.2.2.1⟩
theorem zz4 {D : va_G} {cy : Nat → ClassId} {s : State} {σ00 σ : SG} {H : Heap} {locs : List Loc} {N n9 l1 a b k j : Nat} {u1 u3 u4 : Int32} {u2 : Int64} (_hB : sgB D cy s σ00 (sgPI (sgPI (sgPJ (sgPI σ a 11 u1) a j u2) b k u3) a 14 u4) H locs N n9) (ta : sgT σ a = 20) (tb : sgT σ b = 100) (tl : sgT σ l1 = 5) : zR l1 σ (sgPI (sgPI (sgPJ (sgPI σ a 11 u1) a j u2) b k u3) a 14 u4) :=
  zR_tr (zR_PI ta (by decide) tl) (zR_tr zR_J (zR_tr (zR_PI (t := 100) (show sgT (sgPJ (sgPI σ a 11 u1) a j u2) b = 100 from tb) ⟨by decide, by decide, Or.inl (by decide), Or.inl (by decide)⟩ tl) (zR_PI (t := 20) (show sgT (sgPI (sgPJ (sgPI σ a 11 u1) a j u2) b k u3) a = 20 from ta) (by decide) tl)))
theorem zz5 {D : va_G} {cy : Nat → ClassId} {s : State} {σ00 σ0 σ : SG} {H : Heap} {locs : List Loc} {N n9 l1 b k : Nat} {u : Int32} (_hB : sgB D cy s σ00 (sgPI σ b k u) H locs N n9) (z : zR l1 σ0 σ) (tb : sgT σ b = 100) (tl : sgT σ l1 = 5) : zR l1 σ0 (sgPI σ b k u) := zR_tr z (zR_PI tb ⟨by decide, by decide, Or.inl (by decide), Or.inl (by decide)⟩ tl)
theorem m_hlv {v w : Int32} {hw hw2 : Nat} (hv : v.toInt = hw) (h1 : hw ≤ 100) (hw1 : 1 ≤ w.toInt) (hw8 : w.toInt ≤ 8) (h2 : (hw2 : Int) = hw - 2 - w.toInt) : (v - (2 + w)).toInt = hw2 := by
  have e2 : (2 : Int32).toInt = 2 := rfl
  have e : (2 + w).toInt = 2 + w.toInt := by rw [i_add (by rw [e2]; omega) (by rw [e2]; omega), e2]
  rw [i_sub (by rw [e]; omega) (by rw [e]; omega), e]
  omega
theorem m_hcv {w : Int32} (hw1 : 1 ≤ w.toInt) (hw8 : w.toInt ≤ 8) : (2 + w).toInt = 2 + w.toInt := by
  have e2 : (2 : Int32).toInt = 2 := rfl
  rw [i_add (by rw [e2]; omega) (by rw [e2]; omega), e2]
theorem m_sounds (l : Launch) (D : va_G) (cy : Nat → ClassId) {eda ca : Nat} {ia : Nat → Nat} {σ : SG} {K : KM} {g : GH} {n S hw : Nat} (h : Inv eda ia K g n S hw σ) (hY : nY g) {pp l1 t0 xe le : Nat} (x : Int32) (w : wPp K g σ x pp l1 t0 xe le) (b f0 : Int32) (hbb : 0 ≤ b.toInt ∧ b.toInt ≤ 8) (hI : ¬ sgI σ xe 0 = 0 → b.toInt ≤ sgSz σ le) (hO : sgI σ xe 0 = 0 → b.toInt ≤ (sgI σ t0 1).toInt - (sgI σ t0 2).toInt) (hks : sgI σ pp 2 = 115) (hf0 : 0 ≤ f0.toInt ∧ f0.toInt ≤ 65535) (hcap : sgSz σ le + b.toInt.toNat ≤ S - hw) (hcapG : sgSz σ (kG K) + b.toInt.toNat ≤ S - hw) (sz : Nat) : sgM l D cy eda ca ia σ sz yX14_sounds (Cond.code yX14_sounds cX14_sounds 9 (some .int) :: mWall) 11 266 18 146 [.ref (kA K), .int x, .ref xe, .int b, .int f0] (fun v σ2 => (∃ y : Int32, v = some (.int y) ∧ (y = 1 ∨ y = 2)) ∧ Inv eda ia K g n S hw σ2) := by
  by_cases hin : sgI σ xe 0 = 0
  · exact m_soundsO l D cy h hY x w b f0 hbb hin (hO hin) hks hf0 hcap hcapG sz
  · exact m_soundsI l D cy h hY x w b f0 hbb hin (hI hin) hks hf0 hcap hcapG sz
theorem dX14_does_0 : decode cX14_does 0 = .ok (.aload_n 0, 1) := by decide +kernel
theorem dX14_does_1 : decode cX14_does 1 = .ok (.getfield 18, 3) := by decide +kernel
theorem dX14_does_4 : decode cX14_does 4 = .ok (.iload_n 1, 1) := by decide +kernel
theorem dX14_does_5 : decode cX14_does 5 = .ok (.aaload, 1) := by decide +kernel
theorem dX14_does_6 : decode cX14_does 6 = .ok (.astore_n 2, 1) := by decide +kernel
theorem dX14_does_7 : decode cX14_does 7 = .ok (.aload_n 2, 1) := by decide +kernel
theorem dX14_does_8 : decode cX14_does 8 = .ok (.ifnull 41, 3) := by decide +kernel
theorem dX14_does_11 : decode cX14_does 11 = .ok (.aload_n 2, 1) := by decide +kernel
theorem dX14_does_12 : decode cX14_does 12 = .ok (.getfield 313, 3) := by decide +kernel
theorem dX14_does_15 : decode cX14_does 15 = .ok (.ifCond .ne 34, 3) := by decide +kernel
theorem dX14_does_18 : decode cX14_does 18 = .ok (.aload_n 2, 1) := by decide +kernel
theorem dX14_does_19 : decode cX14_does 19 = .ok (.getfield 199, 3) := by decide +kernel
theorem dX14_does_22 : decode cX14_does 22 = .ok (.invokevirtual 202, 3) := by decide +kernel
theorem dX14_does_25 : decode cX14_does 25 = .ok (.ifCond .ne 24, 3) := by decide +kernel
theorem dX14_does_28 : decode cX14_does 28 = .ok (.aload_n 2, 1) := by decide +kernel
theorem dX14_does_29 : decode cX14_does 29 = .ok (.getfield 199, 3) := by decide +kernel
theorem dX14_does_32 : decode cX14_does 32 = .ok (.iconst 0, 1) := by decide +kernel
theorem dX14_does_33 : decode cX14_does 33 = .ok (.invokevirtual 76, 3) := by decide +kernel
theorem dX14_does_36 : decode cX14_does 36 = .ok (.checkcast 275, 3) := by decide +kernel
theorem dX14_does_39 : decode cX14_does 39 = .ok (.getfield 310, 3) := by decide +kernel
theorem dX14_does_42 : decode cX14_does 42 = .ok (.ifCond .eq 7, 3) := by decide +kernel
theorem dX14_does_45 : decode cX14_does 45 = .ok (.iconst 1, 1) := by decide +kernel
theorem dX14_does_46 : decode cX14_does 46 = .ok (.goto 4, 3) := by decide +kernel
theorem dX14_does_49 : decode cX14_does 49 = .ok (.iconst 0, 1) := by decide +kernel
theorem dX14_does_50 : decode cX14_does 50 = .ok (.istore_n 3, 1) := by decide +kernel
theorem dX14_does_51 : decode cX14_does 51 = .ok (.iload_n 3, 1) := by decide +kernel
theorem dX14_does_52 : decode cX14_does 52 = .ok (.ifCond .eq 53, 3) := by decide +kernel
theorem dX14_does_55 : decode cX14_does 55 = .ok (.aload_n 0, 1) := by decide +kernel
theorem dX14_does_56 : decode cX14_does 56 = .ok (.getfield 10, 3) := by decide +kernel
theorem dX14_does_59 : decode cX14_does 59 = .ok (.aload_n 2, 1) := by decide +kernel
theorem dX14_does_60 : decode cX14_does 60 = .ok (.getfield 133, 3) := by decide +kernel
theorem dX14_does_63 : decode cX14_does 63 = .ok (.invokevirtual 76, 3) := by decide +kernel
theorem dX14_does_66 : decode cX14_does 66 = .ok (.checkcast 48, 3) := by decide +kernel
theorem dX14_does_69 : decode cX14_does 69 = .ok (.getfield 53, 3) := by decide +kernel
theorem dX14_does_72 : decode cX14_does 72 = .ok (.bipush 99, 2) := by decide +kernel
theorem dX14_does_74 : decode cX14_does 74 = .ok (.if_icmp .ne 31, 3) := by decide +kernel
theorem dX14_does_77 : decode cX14_does 77 = .ok (.aload_n 0, 1) := by decide +kernel
theorem dX14_does_78 : decode cX14_does 78 = .ok (.getfield 205, 3) := by decide +kernel
theorem dX14_does_81 : decode cX14_does 81 = .ok (.aload_n 0, 1) := by decide +kernel
theorem dX14_does_82 : decode cX14_does 82 = .ok (.getfield 10, 3) := by decide +kernel
theorem dX14_does_85 : decode cX14_does 85 = .ok (.aload_n 2, 1) := by decide +kernel
theorem dX14_does_86 : decode cX14_does 86 = .ok (.getfield 133, 3) := by decide +kernel
theorem dX14_does_89 : decode cX14_does 89 = .ok (.invokevirtual 76, 3) := by decide +kernel
theorem dX14_does_92 : decode cX14_does 92 = .ok (.checkcast 48, 3) := by decide +kernel
theorem dX14_does_95 : decode cX14_does 95 = .ok (.getfield 146, 3) := by decide +kernel
theorem dX14_does_98 : decode cX14_does 98 = .ok (.if_icmp .le 7, 3) := by decide +kernel
theorem dX14_does_101 : decode cX14_does 101 = .ok (.iconst 1, 1) := by decide +kernel
theorem dX14_does_102 : decode cX14_does 102 = .ok (.goto 4, 3) := by decide +kernel
theorem dX14_does_105 : decode cX14_does 105 = .ok (.iconst 0, 1) := by decide +kernel
theorem dX14_does_106 : decode cX14_does 106 = .ok (.istore_n 3, 1) := by decide +kernel
theorem dX14_does_107 : decode cX14_does 107 = .ok (.iload_n 3, 1) := by decide +kernel
theorem dX14_does_108 : decode cX14_does 108 = .ok (.ifCond .ne 5, 3) := by decide +kernel
theorem dX14_does_111 : decode cX14_does 111 = .ok (.iconst 0, 1) := by decide +kernel
theorem dX14_does_112 : decode cX14_does 112 = .ok (.ireturn, 1) := by decide +kernel
theorem dX14_does_113 : decode cX14_does 113 = .ok (.aload_n 0, 1) := by decide +kernel
theorem dX14_does_114 : decode cX14_does 114 = .ok (.aload_n 2, 1) := by decide +kernel
theorem dX14_does_115 : decode cX14_does 115 = .ok (.invokevirtual 296, 3) := by decide +kernel
theorem dX14_does_118 : decode cX14_does 118 = .ok (.astore 4, 2) := by decide +kernel
theorem dX14_does_120 : decode cX14_does 120 = .ok (.aload_n 0, 1) := by decide +kernel
theorem dX14_does_121 : decode cX14_does 121 = .ok (.aload_n 2, 1) := by decide +kernel
theorem dX14_does_122 : decode cX14_does 122 = .ok (.invokevirtual 344, 3) := by decide +kernel
theorem dX14_does_125 : decode cX14_does 125 = .ok (.istore 5, 2) := by decide +kernel
theorem dX14_does_127 : decode cX14_does 127 = .ok (.aload 4, 2) := by decide +kernel
theorem dX14_does_129 : decode cX14_does 129 = .ok (.getfield 300, 3) := by decide +kernel
theorem dX14_does_132 : decode cX14_does 132 = .ok (.ifCond .eq 12, 3) := by decide +kernel
theorem dX14_does_135 : decode cX14_does 135 = .ok (.iconst 1, 1) := by decide +kernel
theorem dX14_does_136 : decode cX14_does 136 = .ok (.iload 5, 2) := by decide +kernel
theorem dX14_does_138 : decode cX14_does 138 = .ok (.invokestatic 251, 3) := by decide +kernel
theorem dX14_does_141 : decode cX14_does 141 = .ok (.goto 5, 3) := by decide +kernel
theorem dX14_does_144 : decode cX14_does 144 = .ok (.iload 5, 2) := by decide +kernel
theorem dX14_does_146 : decode cX14_does 146 = .ok (.istore 6, 2) := by decide +kernel
theorem dX14_does_148 : decode cX14_does 148 = .ok (.aload_n 0, 1) := by decide +kernel
theorem dX14_does_149 : decode cX14_does 149 = .ok (.aload_n 2, 1) := by decide +kernel
theorem dX14_does_150 : decode cX14_does 150 = .ok (.getfield 133, 3) := by decide +kernel
theorem dX14_does_153 : decode cX14_does 153 = .ok (.invokevirtual 156, 3) := by decide +kernel
theorem dX14_does_156 : decode cX14_does 156 = .ok (.istore 7, 2) := by decide +kernel
theorem dX14_does_158 : decode cX14_does 158 = .ok (.aload_n 0, 1) := by decide +kernel
theorem dX14_does_159 : decode cX14_does 159 = .ok (.aload_n 2, 1) := by decide +kernel
theorem dX14_does_160 : decode cX14_does 160 = .ok (.getfield 133, 3) := by decide +kernel
theorem dX14_does_163 : decode cX14_does 163 = .ok (.iload 6, 2) := by decide +kernel
theorem dX14_does_165 : decode cX14_does 165 = .ok (.invokevirtual 241, 3) := by decide +kernel
theorem dX14_does_168 : decode cX14_does 168 = .ok (.istore 8, 2) := by decide +kernel
theorem dX14_does_170 : decode cX14_does 170 = .ok (.iload 6, 2) := by decide +kernel
theorem dX14_does_172 : decode cX14_does 172 = .ok (.invokestatic 245, 3) := by decide +kernel
theorem dX14_does_175 : decode cX14_does 175 = .ok (.aload_n 0, 1) := by decide +kernel
theorem dX14_does_176 : decode cX14_does 176 = .ok (.getfield 42, 3) := by decide +kernel
theorem dX14_does_179 : decode cX14_does 179 = .ok (.if_icmp .gt 20, 3) := by decide +kernel
theorem dX14_does_182 : decode cX14_does 182 = .ok (.iload 8, 2) := by decide +kernel
theorem dX14_does_184 : decode cX14_does 184 = .ok (.ifCond .le 17, 3) := by decide +kernel
theorem dX14_does_187 : decode cX14_does 187 = .ok (.iload 8, 2) := by decide +kernel
theorem dX14_does_189 : decode cX14_does 189 = .ok (.aload_n 0, 1) := by decide +kernel
theorem dX14_does_190 : decode cX14_does 190 = .ok (.getfield 45, 3) := by decide +kernel
theorem dX14_does_193 : decode cX14_does 193 = .ok (.iload 7, 2) := by decide +kernel
theorem dX14_does_195 : decode cX14_does 195 = .ok (.iaload, 1) := by decide +kernel
theorem dX14_does_196 : decode cX14_does 196 = .ok (.if_icmp .le 5, 3) := by decide +kernel
theorem dX14_does_199 : decode cX14_does 199 = .ok (.iconst 0, 1) := by decide +kernel
theorem dX14_does_200 : decode cX14_does 200 = .ok (.ireturn, 1) := by decide +kernel
theorem dX14_does_201 : decode cX14_does 201 = .ok (.aload_n 0, 1) := by decide +kernel
theorem dX14_does_202 : decode cX14_does 202 = .ok (.dup, 1) := by decide +kernel
theorem dX14_does_203 : decode cX14_does 203 = .ok (.getfield 42, 3) := by decide +kernel
theorem dX14_does_206 : decode cX14_does 206 = .ok (.iload 6, 2) := by decide +kernel
theorem dX14_does_208 : decode cX14_does 208 = .ok (.invokestatic 245, 3) := by decide +kernel
theorem dX14_does_211 : decode cX14_does 211 = .ok (.isub, 1) := by decide +kernel
theorem dX14_does_212 : decode cX14_does 212 = .ok (.putfield 42, 3) := by decide +kernel
theorem dX14_does_215 : decode cX14_does 215 = .ok (.aload_n 0, 1) := by decide +kernel
theorem dX14_does_216 : decode cX14_does 216 = .ok (.dup, 1) := by decide +kernel
theorem dX14_does_217 : decode cX14_does 217 = .ok (.getfield 347, 3) := by decide +kernel
theorem dX14_does_220 : decode cX14_does 220 = .ok (.iload 6, 2) := by decide +kernel
theorem dX14_does_222 : decode cX14_does 222 = .ok (.invokestatic 245, 3) := by decide +kernel
theorem dX14_does_225 : decode cX14_does 225 = .ok (.i2l, 1) := by decide +kernel
theorem dX14_does_226 : decode cX14_does 226 = .ok (.ladd, 1) := by decide +kernel
theorem dX14_does_227 : decode cX14_does 227 = .ok (.putfield 347, 3) := by decide +kernel
theorem dX14_does_230 : decode cX14_does 230 = .ok (.aload_n 0, 1) := by decide +kernel
theorem dX14_does_231 : decode cX14_does 231 = .ok (.getfield 45, 3) := by decide +kernel
theorem dX14_does_234 : decode cX14_does 234 = .ok (.iload 7, 2) := by decide +kernel
theorem dX14_does_236 : decode cX14_does 236 = .ok (.dup2, 1) := by decide +kernel
theorem dX14_does_237 : decode cX14_does 237 = .ok (.iaload, 1) := by decide +kernel
theorem dX14_does_238 : decode cX14_does 238 = .ok (.iload 8, 2) := by decide +kernel
theorem dX14_does_240 : decode cX14_does 240 = .ok (.isub, 1) := by decide +kernel
theorem dX14_does_241 : decode cX14_does 241 = .ok (.iastore, 1) := by decide +kernel
theorem dX14_does_242 : decode cX14_does 242 = .ok (.aload_n 0, 1) := by decide +kernel
theorem dX14_does_243 : decode cX14_does 243 = .ok (.dup, 1) := by decide +kernel
theorem dX14_does_244 : decode cX14_does 244 = .ok (.getfield 163, 3) := by decide +kernel
theorem dX14_does_247 : decode cX14_does 247 = .ok (.iconst 1, 1) := by decide +kernel
theorem dX14_does_248 : decode cX14_does 248 = .ok (.iadd, 1) := by decide +kernel
theorem dX14_does_249 : decode cX14_does 249 = .ok (.putfield 163, 3) := by decide +kernel
theorem dX14_does_252 : decode cX14_does 252 = .ok (.aload_n 0, 1) := by decide +kernel
theorem dX14_does_253 : decode cX14_does 253 = .ok (.getfield 10, 3) := by decide +kernel
theorem dX14_does_256 : decode cX14_does 256 = .ok (.aload_n 2, 1) := by decide +kernel
theorem dX14_does_257 : decode cX14_does 257 = .ok (.getfield 133, 3) := by decide +kernel
theorem dX14_does_260 : decode cX14_does 260 = .ok (.invokevirtual 76, 3) := by decide +kernel
theorem dX14_does_263 : decode cX14_does 263 = .ok (.checkcast 48, 3) := by decide +kernel
theorem dX14_does_266 : decode cX14_does 266 = .ok (.astore 9, 2) := by decide +kernel
theorem dX14_does_268 : decode cX14_does 268 = .ok (.aload 9, 2) := by decide +kernel
theorem dX14_does_270 : decode cX14_does 270 = .ok (.getfield 166, 3) := by decide +kernel
theorem dX14_does_273 : decode cX14_does 273 = .ok (.aload_n 2, 1) := by decide +kernel
theorem dX14_does_274 : decode cX14_does 274 = .ok (.getfield 235, 3) := by decide +kernel
theorem dX14_does_277 : decode cX14_does 277 = .ok (.iaload, 1) := by decide +kernel
theorem dX14_does_278 : decode cX14_does 278 = .ok (.ifCond .le 16, 3) := by decide +kernel
theorem dX14_does_281 : decode cX14_does 281 = .ok (.aload 9, 2) := by decide +kernel
theorem dX14_does_283 : decode cX14_does 283 = .ok (.getfield 334, 3) := by decide +kernel
theorem dX14_does_286 : decode cX14_does 286 = .ok (.aload_n 2, 1) := by decide +kernel
theorem dX14_does_287 : decode cX14_does 287 = .ok (.getfield 235, 3) := by decide +kernel
theorem dX14_does_290 : decode cX14_does 290 = .ok (.caload, 1) := by decide +kernel
theorem dX14_does_291 : decode cX14_does 291 = .ok (.goto 5, 3) := by decide +kernel
theorem dX14_does_294 : decode cX14_does 294 = .ok (.bipush 32, 2) := by decide +kernel
theorem dX14_does_296 : decode cX14_does 296 = .ok (.istore 10, 2) := by decide +kernel
theorem dX14_does_298 : decode cX14_does 298 = .ok (.aload 9, 2) := by decide +kernel
theorem dX14_does_300 : decode cX14_does 300 = .ok (.getfield 166, 3) := by decide +kernel
theorem dX14_does_303 : decode cX14_does 303 = .ok (.aload_n 2, 1) := by decide +kernel
theorem dX14_does_304 : decode cX14_does 304 = .ok (.getfield 235, 3) := by decide +kernel
theorem dX14_does_307 : decode cX14_does 307 = .ok (.dup2, 1) := by decide +kernel
theorem dX14_does_308 : decode cX14_does 308 = .ok (.iaload, 1) := by decide +kernel
theorem dX14_does_309 : decode cX14_does 309 = .ok (.iload 10, 2) := by decide +kernel
theorem dX14_does_311 : decode cX14_does 311 = .ok (.bipush 32, 2) := by decide +kernel
theorem dX14_does_313 : decode cX14_does 313 = .ok (.if_icmp .ne 7, 3) := by decide +kernel
theorem dX14_does_316 : decode cX14_does 316 = .ok (.iconst 0, 1) := by decide +kernel
theorem dX14_does_317 : decode cX14_does 317 = .ok (.goto 4, 3) := by decide +kernel
theorem dX14_does_320 : decode cX14_does 320 = .ok (.iconst 1, 1) := by decide +kernel
theorem dX14_does_321 : decode cX14_does 321 = .ok (.isub, 1) := by decide +kernel
theorem dX14_does_322 : decode cX14_does 322 = .ok (.iastore, 1) := by decide +kernel
theorem dX14_does_323 : decode cX14_does 323 = .ok (.aload_n 2, 1) := by decide +kernel
theorem dX14_does_324 : decode cX14_does 324 = .ok (.getfield 350, 3) := by decide +kernel
theorem dX14_does_327 : decode cX14_does 327 = .ok (.bipush 115, 2) := by decide +kernel
theorem dX14_does_329 : decode cX14_does 329 = .ok (.if_icmp .ne 17, 3) := by decide +kernel
theorem dX14_does_332 : decode cX14_does 332 = .ok (.aload_n 0, 1) := by decide +kernel
theorem dX14_does_333 : decode cX14_does 333 = .ok (.iload_n 1, 1) := by decide +kernel
theorem dX14_does_334 : decode cX14_does 334 = .ok (.aload 4, 2) := by decide +kernel
theorem dX14_does_336 : decode cX14_does 336 = .ok (.iload 5, 2) := by decide +kernel
theorem dX14_does_338 : decode cX14_does 338 = .ok (.iload 10, 2) := by decide +kernel
theorem dX14_does_340 : decode cX14_does 340 = .ok (.invokevirtual 352, 3) := by decide +kernel
theorem dX14_does_343 : decode cX14_does 343 = .ok (.goto 36, 3) := by decide +kernel
theorem dX14_does_346 : decode cX14_does 346 = .ok (.aload 4, 2) := by decide +kernel
theorem dX14_does_348 : decode cX14_does 348 = .ok (.getfield 300, 3) := by decide +kernel
theorem dX14_does_351 : decode cX14_does 351 = .ok (.ifCond .eq 17, 3) := by decide +kernel
theorem dX14_does_354 : decode cX14_does 354 = .ok (.aload_n 0, 1) := by decide +kernel
theorem dX14_does_355 : decode cX14_does 355 = .ok (.iload_n 1, 1) := by decide +kernel
theorem dX14_does_356 : decode cX14_does 356 = .ok (.aload 4, 2) := by decide +kernel
theorem dX14_does_358 : decode cX14_does 358 = .ok (.iload 5, 2) := by decide +kernel
theorem dX14_does_360 : decode cX14_does 360 = .ok (.iload 10, 2) := by decide +kernel
theorem dX14_does_362 : decode cX14_does 362 = .ok (.invokevirtual 356, 3) := by decide +kernel
theorem dX14_does_365 : decode cX14_does 365 = .ok (.goto 14, 3) := by decide +kernel
theorem dX14_does_368 : decode cX14_does 368 = .ok (.aload_n 0, 1) := by decide +kernel
theorem dX14_does_369 : decode cX14_does 369 = .ok (.iload_n 1, 1) := by decide +kernel
theorem dX14_does_370 : decode cX14_does 370 = .ok (.aload 4, 2) := by decide +kernel
theorem dX14_does_372 : decode cX14_does 372 = .ok (.iload 5, 2) := by decide +kernel
theorem dX14_does_374 : decode cX14_does 374 = .ok (.iload 10, 2) := by decide +kernel
theorem dX14_does_376 : decode cX14_does 376 = .ok (.invokevirtual 359, 3) := by decide +kernel
theorem dX14_does_379 : decode cX14_does 379 = .ok (.ireturn, 1) := by decide +kernel
set_option maxRecDepth 100000 in
set_option maxHeartbeats 4000000 in
theorem m_does (l : Launch) (D : va_G) (cy : Nat → ClassId) {eda ca : Nat} {ia : Nat → Nat} {σ : SG} {K : KM} {g : GH} {n S hw : Nat} (h : Inv eda ia K g n S hw σ) (hY : nY g) (x : Int32) (hx1 : 0 ≤ x.toInt) (hx2 : x.toInt ≤ 11) (sz : Nat) : sgMd l D cy eda ca ia σ sz yX14_does (Cond.code yX14_does cX14_does 11 (some .int) :: mWall) 12 294 18 146 [.ref (kA K), .int x] (fun v σ2 => ∃ (y : Int32) (hw2 : Nat), v = some (.int y) ∧ Inv eda ia K g n S hw2 σ2 ∧ ((y = 0 ∧ hw2 = hw ∧ σ2 = σ) ∨ ((y = 1 ∨ y = 2) ∧ hw2 + 3 ≤ hw))) := by
  refine sg_ofWd (cc := cX14_does) (maxL := 11) (ret := (some .int)) (by decide) rfl (Nat.le_of_ble_eq_true rfl) (lv := [(0, .ref (kA K)), (1, .int x)]) rfl (fun p e s m below meth c ls H N hrt hnm F hB hl => ?_) sz
  have hx := F.1.1
  have hb := F.1.2.1
  have hown := F.1.2.2.2.1
  obtain ⟨z1, z2, z3⟩ := inv_sz h
  obtain ⟨hwe, hw100⟩ := inv_hwI h
  have hS2 : 200 ≤ S := (inv_M h).2.2.2.2.2.1
  refine lv_aload_n hx hb dX14_does_0 rfl (lv_at hl 0 rfl) ?_
  refine gr_X14_18 F hB dX14_does_1 (inv_A h) (inv_r2 h) ?_
  refine lv_iload_n hx hb dX14_does_4 rfl (lv_at hl 1 rfl) ?_
  refine sg_aald 9 hx hb F.2.1 hB.1 rfl rfl dX14_does_5 (inv_tP h).1 (by omega) (m_ltN (n := 12) (inv_tP h).2 (by omega)) (m_ltM (inv_tP h).2 (by decide)) ?_
  refine sg_split (fun hz5 => ?_) (fun b5 hz5 => ?_)
  · skip
    refine lv_astore_nN (lv' := [(2, .null), (0, .ref _), (1, .int _)]) hx hb dX14_does_6 rfl hl (by decide) rfl (fun ls hl => ?_)
    refine lv_aload_nN hx hb dX14_does_7 rfl (lv_at hl 0 rfl) ?_
    refine lv_ifnullN (tgt := 49) hx hb dX14_does_8 (by decide) ?_
    refine lv_iconst (v := 0) hx hb dX14_does_49 (by decide) ?_
    refine lv_istore_n (lv' := [(3, .int _), (2, .null), (0, .ref _), (1, .int _)]) hx hb dX14_does_50 rfl hl (by decide) rfl (fun ls hl => ?_)
    refine lv_iload_n hx hb dX14_does_51 rfl (lv_at hl 0 rfl) ?_
    refine lv_if_eq (tgt := 105) hx hb dX14_does_52 (by decide) (fun c52 => ?_) (fun c52 => (by first | exact absurd c52 (by decide) | exact (c52 (by decide)).elim))
    refine lv_iconst (v := 0) hx hb dX14_does_105 (by decide) ?_
    refine lv_istore_n (lv' := [(3, .int _), (2, .null), (0, .ref _), (1, .int _)]) hx hb dX14_does_106 rfl hl (by decide) rfl (fun ls hl => ?_)
    refine lv_iload_n hx hb dX14_does_107 rfl (lv_at hl 0 rfl) ?_
    refine lv_if_ne (tgt := 113) hx hb dX14_does_108 (by decide) (fun c108 => (by first | exact absurd c108 (by decide) | exact (c108 (by decide)).elim)) (fun c108 => ?_)
    refine lv_iconst (v := 0) hx hb dX14_does_111 (by decide) ?_
    exact sg_iretd F hB hrt dX14_does_112 (by decide) (by decide) (fun _ => ⟨rfl, rfl, Nat.le_refl _⟩) (⟨_, hw, rfl, h, Or.inl ⟨rfl, rfl, rfl⟩⟩)
  · skip
    have tp := inv_pp h (j := x.toInt.toNat) (by omega) hz5
    obtain ⟨l1, hl1, tl, rl, ol, sl, sl4⟩ := inv_pl h tp
    obtain ⟨e2, x2, ⟨pn1, pn2, pn3, pn4, pn5⟩, -⟩ := inv_pe h tp
    refine lv_astore_n (lv' := [(2, .ref _), (0, .ref _), (1, .int _)]) hx hb dX14_does_6 rfl hl (by decide) rfl (fun ls hl => ?_)
    refine lv_aload_n hx hb dX14_does_7 rfl (lv_at hl 0 rfl) ?_
    refine lv_ifnull hx hb dX14_does_8 ?_
    refine lv_aload_n hx hb dX14_does_11 rfl (lv_at hl 0 rfl) ?_
    refine gf_X14_313 F hB dX14_does_12 tp ?_
    refine lv_if_ne (tgt := 49) hx hb dX14_does_15 (by decide) (fun c15 => ?_) (fun c15 => ?_)
    · refine lv_iconst (v := 0) hx hb dX14_does_49 (by decide) ?_
      refine lv_istore_n (lv' := [(3, .int _), (2, .ref _), (0, .ref _), (1, .int _)]) hx hb dX14_does_50 rfl hl (by decide) rfl (fun ls hl => ?_)
      refine lv_iload_n hx hb dX14_does_51 rfl (lv_at hl 0 rfl) ?_
      refine lv_if_eq (tgt := 105) hx hb dX14_does_52 (by decide) (fun c52 => ?_) (fun c52 => (by first | exact absurd c52 (by decide) | exact (c52 (by decide)).elim))
      refine lv_iconst (v := 0) hx hb dX14_does_105 (by decide) ?_
      refine lv_istore_n (lv' := [(3, .int _), (2, .ref _), (0, .ref _), (1, .int _)]) hx hb dX14_does_106 rfl hl (by decide) rfl (fun ls hl => ?_)
      refine lv_iload_n hx hb dX14_does_107 rfl (lv_at hl 0 rfl) ?_
      refine lv_if_ne (tgt := 113) hx hb dX14_does_108 (by decide) (fun c108 => (by first | exact absurd c108 (by decide) | exact (c108 (by decide)).elim)) (fun c108 => ?_)
      refine lv_iconst (v := 0) hx hb dX14_does_111 (by decide) ?_
      exact sg_iretd F hB hrt dX14_does_112 (by decide) (by decide) (fun _ => ⟨rfl, rfl, Nat.le_refl _⟩) (⟨_, hw, rfl, h, Or.inl ⟨rfl, rfl, rfl⟩⟩)
    · refine lv_aload_n hx hb dX14_does_18 rfl (lv_at hl 0 rfl) ?_
      refine gr_X14_199 F hB dX14_does_19 tp hl1 ?_
      refine sg_callV (ci := 4) F hB (m_isEmpty l D cy tl _) (cwV 0 F.1.2.2.2.2 (mgV (mm_7 _ (List.mem_of_getElem? (i := 8) rfl)) (mm_7 _ (List.mem_of_getElem? (i := 9) rfl)) (mm_7 _ (List.mem_of_getElem? (i := 10) rfl)) (mm_0 _ (List.mem_of_getElem? (i := 35) rfl)) (mm_7 _ (List.mem_of_getElem? (i := 7) rfl))) rfl rfl rfl ⟨rfl, by decide, by decide, by decide +kernel⟩ ⟨Nat.le_of_ble_eq_true rfl, Nat.le_of_ble_eq_true rfl⟩) rfl rfl (by decide) rfl hl.1 rfl (Nat.le_of_ble_eq_true rfl) dX14_does_22 (Nat.le_of_ble_eq_true rfl) (Nat.add_le_add_right (Nat.le_of_ble_eq_true rfl) _) tl (fun H locs v σ22 N hBn hX22 hP => ?_)
      clear hB; have hB := hBn; clear hBn
      obtain ⟨b22, rfl, rfl, hb22⟩ := hP
      refine lv_if_ne (tgt := 49) hx hb dX14_does_25 (by decide) (fun c25 => ?_) (fun c25 => ?_)
      · refine lv_iconst (v := 0) hx hb dX14_does_49 (by decide) ?_
        refine lv_istore_n (lv' := [(3, .int _), (2, .ref _), (0, .ref _), (1, .int _)]) hx hb dX14_does_50 rfl hl (by decide) rfl (fun ls hl => ?_)
        refine lv_iload_n hx hb dX14_does_51 rfl (lv_at hl 0 rfl) ?_
        refine lv_if_eq (tgt := 105) hx hb dX14_does_52 (by decide) (fun c52 => ?_) (fun c52 => (by first | exact absurd c52 (by decide) | exact (c52 (by decide)).elim))
        refine lv_iconst (v := 0) hx hb dX14_does_105 (by decide) ?_
        refine lv_istore_n (lv' := [(3, .int _), (2, .ref _), (0, .ref _), (1, .int _)]) hx hb dX14_does_106 rfl hl (by decide) rfl (fun ls hl => ?_)
        refine lv_iload_n hx hb dX14_does_107 rfl (lv_at hl 0 rfl) ?_
        refine lv_if_ne (tgt := 113) hx hb dX14_does_108 (by decide) (fun c108 => (by first | exact absurd c108 (by decide) | exact (c108 (by decide)).elim)) (fun c108 => ?_)
        refine lv_iconst (v := 0) hx hb dX14_does_111 (by decide) ?_
        exact sg_iretd F hB hrt dX14_does_112 (by decide) (by decide) (fun _ => ⟨rfl, rfl, Nat.le_refl _⟩) (⟨_, hw, rfl, h, Or.inl ⟨rfl, rfl, rfl⟩⟩)
      · have h01 := sgb_f hb22 c25
        have h0 : 0 < sgSz σ l1 := by omega
        obtain ⟨t0, xe, le, w⟩ := wPp_mk h hx1 hx2 hz5 hl1 h0
        obtain ⟨-, -, ⟨tt, ot, ht⟩, ⟨tle, rle, ole⟩, -, hcp, hgr, hk1, hen, -⟩ := wPp_of h w
        have txe := w.2.2.2.2.2.1
        have ha0 := w.2.2.2.2.1
        refine lv_aload_n hx hb dX14_does_28 rfl (lv_at hl 0 rfl) ?_
        refine gr_X14_199 F hB dX14_does_29 tp hl1 ?_
        refine lv_iconst (v := 0) hx hb dX14_does_32 (by decide) ?_
        refine sg_callV (ci := 4) F hB (m_getL l D cy (inv_LS h) tl id 0 (by decide) (by rw [m_i0]; omega) ha0 _) (cwV 1 F.1.2.2.2.2 (mgV (mm_4 _ (List.mem_of_getElem? (i := 3) rfl)) (mm_4 _ (List.mem_of_getElem? (i := 4) rfl)) (mm_4 _ (List.mem_of_getElem? (i := 5) rfl)) (mm_0 _ (List.mem_of_getElem? (i := 35) rfl)) (mm_3 _ (List.mem_of_getElem? (i := 34) rfl))) rfl rfl rfl ⟨rfl, by decide, by decide, by decide +kernel⟩ ⟨Nat.le_of_ble_eq_true rfl, Nat.le_of_ble_eq_true rfl⟩) rfl rfl (by decide) rfl hl.1 rfl (Nat.le_of_ble_eq_true rfl) dX14_does_33 (Nat.le_of_ble_eq_true rfl) (Nat.add_le_add_right (Nat.le_of_ble_eq_true rfl) _) tl (fun H locs v σ33 N hBn hX33 hP => ?_)
        clear hB; have hB := hBn; clear hBn
        obtain ⟨rfl, rfl⟩ := hP
        refine va_castY hx hb hown (F.1.2.2.2.2 _ (List.mem_cons_of_mem _ (mm_5 _ (List.mem_of_getElem? (i := 25) rfl)))) (F.2.2.1.2.2 ("HubcascadeModel$Transfer", "HubcascadeModel$Transfer") (by decide +kernel)) (sg_recv (ci := 18) F.2.1 hB tt (by decide) rfl) dX14_does_36 ?_
        refine gf_X14_310 F hB dX14_does_39 tt ?_
        refine lv_if_eq (tgt := 49) hx hb dX14_does_42 (by decide) (fun c42 => ?_) (fun c42 => ?_)
        · refine lv_iconst (v := 0) hx hb dX14_does_49 (by decide) ?_
          refine lv_istore_n (lv' := [(3, .int _), (2, .ref _), (0, .ref _), (1, .int _)]) hx hb dX14_does_50 rfl hl (by decide) rfl (fun ls hl => ?_)
          refine lv_iload_n hx hb dX14_does_51 rfl (lv_at hl 0 rfl) ?_
          refine lv_if_eq (tgt := 105) hx hb dX14_does_52 (by decide) (fun c52 => ?_) (fun c52 => (by first | exact absurd c52 (by decide) | exact (c52 (by decide)).elim))
          refine lv_iconst (v := 0) hx hb dX14_does_105 (by decide) ?_
          refine lv_istore_n (lv' := [(3, .int _), (2, .ref _), (0, .ref _), (1, .int _)]) hx hb dX14_does_106 rfl hl (by decide) rfl (fun ls hl => ?_)
          refine lv_iload_n hx hb dX14_does_107 rfl (lv_at hl 0 rfl) ?_
          refine lv_if_ne (tgt := 113) hx hb dX14_does_108 (by decide) (fun c108 => (by first | exact absurd c108 (by decide) | exact (c108 (by decide)).elim)) (fun c108 => ?_)
          refine lv_iconst (v := 0) hx hb dX14_does_111 (by decide) ?_
          exact sg_iretd F hB hrt dX14_does_112 (by decide) (by decide) (fun _ => ⟨rfl, rfl, Nat.le_refl _⟩) (⟨_, hw, rfl, h, Or.inl ⟨rfl, rfl, rfl⟩⟩)
        · refine lv_iconst (v := 1) hx hb dX14_does_45 (by decide) ?_
          refine lv_goto (tgt := 50) hx hb dX14_does_46 (by decide) ?_
          refine lv_istore_n (lv' := [(3, .int _), (2, .ref _), (0, .ref _), (1, .int _)]) hx hb dX14_does_50 rfl hl (by decide) rfl (fun ls hl => ?_)
          refine lv_iload_n hx hb dX14_does_51 rfl (lv_at hl 0 rfl) ?_
          refine lv_if_eq (tgt := 105) hx hb dX14_does_52 (by decide) (fun c52 => (by first | exact absurd c52 (by decide) | exact (c52 (by decide)).elim)) (fun c52 => ?_)
          refine lv_aload_n hx hb dX14_does_55 rfl (lv_at hl 2 rfl) ?_
          refine gr_X14_10 F hB dX14_does_56 (inv_A h) (inv_r1 h) ?_
          refine lv_aload_n hx hb dX14_does_59 rfl (lv_at hl 1 rfl) ?_
          refine gf_X14_133 F hB dX14_does_60 tp ?_
          refine sg_callV (ci := 4) F hB (m_getD l D cy h (sgI σ b5 0) (by omega) (by omega) _) (cwV 1 F.1.2.2.2.2 (mgV (mm_4 _ (List.mem_of_getElem? (i := 3) rfl)) (mm_4 _ (List.mem_of_getElem? (i := 4) rfl)) (mm_4 _ (List.mem_of_getElem? (i := 5) rfl)) (mm_0 _ (List.mem_of_getElem? (i := 35) rfl)) (mm_3 _ (List.mem_of_getElem? (i := 34) rfl))) rfl rfl rfl ⟨rfl, by decide, by decide, by decide +kernel⟩ ⟨Nat.le_of_ble_eq_true rfl, Nat.le_of_ble_eq_true rfl⟩) rfl rfl (by decide) rfl hl.1 rfl (Nat.le_of_ble_eq_true rfl) dX14_does_63 (Nat.le_of_ble_eq_true rfl) (Nat.add_le_add_right (Nat.le_of_ble_eq_true rfl) _) (inv_tD h).1 (fun H locs v σ63 N hBn hX63 hP => ?_)
          clear hB; have hB := hBn; clear hBn
          obtain ⟨rfl, rfl⟩ := hP
          have dv63 := (inv_dv h (k := ((sgI σ b5 0) : Int32).toInt.toNat) (by omega)).2.1
          refine va_castY hx hb hown (F.1.2.2.2.2 _ (List.mem_cons_of_mem _ (mm_4 _ (List.mem_of_getElem? (i := 2) rfl)))) (F.2.2.1.2.2 ("HubcascadeModel$Device", "HubcascadeModel$Device") (by decide +kernel)) (sg_recv (ci := 15) F.2.1 hB (by assumption) (by decide) rfl) dX14_does_66 ?_
          refine gf_X14_53 F hB dX14_does_69 dv63 ?_
          refine lv_bipush (v := 99) hx hb dX14_does_72 (by decide) ?_
          refine lv_icmp_ne (tgt := 105) hx hb dX14_does_74 (by decide) (fun c74 => ?_) (fun c74 => ?_)
          · refine lv_iconst (v := 0) hx hb dX14_does_105 (by decide) ?_
            refine lv_istore_n (lv' := [(3, .int _), (2, .ref _), (0, .ref _), (1, .int _)]) hx hb dX14_does_106 rfl hl (by decide) rfl (fun ls hl => ?_)
            refine lv_iload_n hx hb dX14_does_107 rfl (lv_at hl 0 rfl) ?_
            refine lv_if_ne (tgt := 113) hx hb dX14_does_108 (by decide) (fun c108 => (by first | exact absurd c108 (by decide) | exact (c108 (by decide)).elim)) (fun c108 => ?_)
            refine lv_iconst (v := 0) hx hb dX14_does_111 (by decide) ?_
            exact sg_iretd F hB hrt dX14_does_112 (by decide) (by decide) (fun _ => ⟨rfl, rfl, Nat.le_refl _⟩) (⟨_, hw, rfl, h, Or.inl ⟨rfl, rfl, rfl⟩⟩)
          · refine lv_aload_n hx hb dX14_does_77 rfl (lv_at hl 2 rfl) ?_
            refine gf_X14_205 F hB dX14_does_78 (inv_A h) ?_
            refine lv_aload_n hx hb dX14_does_81 rfl (lv_at hl 2 rfl) ?_
            refine gr_X14_10 F hB dX14_does_82 (inv_A h) (inv_r1 h) ?_
            refine lv_aload_n hx hb dX14_does_85 rfl (lv_at hl 1 rfl) ?_
            refine gf_X14_133 F hB dX14_does_86 tp ?_
            refine sg_callV (ci := 4) F hB (m_getD l D cy h (sgI σ b5 0) (by omega) (by omega) _) (cwV 1 F.1.2.2.2.2 (mgV (mm_4 _ (List.mem_of_getElem? (i := 3) rfl)) (mm_4 _ (List.mem_of_getElem? (i := 4) rfl)) (mm_4 _ (List.mem_of_getElem? (i := 5) rfl)) (mm_0 _ (List.mem_of_getElem? (i := 35) rfl)) (mm_3 _ (List.mem_of_getElem? (i := 34) rfl))) rfl rfl rfl ⟨rfl, by decide, by decide, by decide +kernel⟩ ⟨Nat.le_of_ble_eq_true rfl, Nat.le_of_ble_eq_true rfl⟩) rfl rfl (by decide) rfl hl.1 rfl (Nat.le_of_ble_eq_true rfl) dX14_does_89 (Nat.le_of_ble_eq_true rfl) (Nat.add_le_add_right (Nat.le_of_ble_eq_true rfl) _) (inv_tD h).1 (fun H locs v σ89 N hBn hX89 hP => ?_)
            clear hB; have hB := hBn; clear hBn
            obtain ⟨rfl, rfl⟩ := hP
            have dv89 := (inv_dv h (k := ((sgI σ b5 0) : Int32).toInt.toNat) (by omega)).2.1
            refine va_castY hx hb hown (F.1.2.2.2.2 _ (List.mem_cons_of_mem _ (mm_4 _ (List.mem_of_getElem? (i := 2) rfl)))) (F.2.2.1.2.2 ("HubcascadeModel$Device", "HubcascadeModel$Device") (by decide +kernel)) (sg_recv (ci := 15) F.2.1 hB (by assumption) (by decide) rfl) dX14_does_92 ?_
            refine gf_X14_146 F hB dX14_does_95 dv89 ?_
            refine lv_icmp_le (tgt := 105) hx hb dX14_does_98 (by decide) (fun c98 => ?_) (fun c98 => ?_)
            · refine lv_iconst (v := 0) hx hb dX14_does_105 (by decide) ?_
              refine lv_istore_n (lv' := [(3, .int _), (2, .ref _), (0, .ref _), (1, .int _)]) hx hb dX14_does_106 rfl hl (by decide) rfl (fun ls hl => ?_)
              refine lv_iload_n hx hb dX14_does_107 rfl (lv_at hl 0 rfl) ?_
              refine lv_if_ne (tgt := 113) hx hb dX14_does_108 (by decide) (fun c108 => (by first | exact absurd c108 (by decide) | exact (c108 (by decide)).elim)) (fun c108 => ?_)
              refine lv_iconst (v := 0) hx hb dX14_does_111 (by decide) ?_
              exact sg_iretd F hB hrt dX14_does_112 (by decide) (by decide) (fun _ => ⟨rfl, rfl, Nat.le_refl _⟩) (⟨_, hw, rfl, h, Or.inl ⟨rfl, rfl, rfl⟩⟩)
            · refine lv_iconst (v := 1) hx hb dX14_does_101 (by decide) ?_
              refine lv_goto (tgt := 106) hx hb dX14_does_102 (by decide) ?_
              refine lv_istore_n (lv' := [(3, .int _), (2, .ref _), (0, .ref _), (1, .int _)]) hx hb dX14_does_106 rfl hl (by decide) rfl (fun ls hl => ?_)
              refine lv_iload_n hx hb dX14_does_107 rfl (lv_at hl 0 rfl) ?_
              refine lv_if_ne (tgt := 113) hx hb dX14_does_108 (by decide) (fun c108 => ?_) (fun c108 => (by first | exact absurd c108 (by decide) | exact (c108 (by decide)).elim))
              refine lv_aload_n hx hb dX14_does_113 rfl (lv_at hl 2 rfl) ?_
              refine lv_aload_n hx hb dX14_does_114 rfl (lv_at hl 1 rfl) ?_
              refine sg_callV (ci := 19) F hB (m_endOf l D cy h tp _) (cwV 1 F.1.2.2.2.2 (mgV (mm_9 _ (List.mem_of_getElem? (i := 10) rfl)) (mm_9 _ (List.mem_of_getElem? (i := 11) rfl)) (mm_9 _ (List.mem_of_getElem? (i := 12) rfl)) (mm_3 _ (List.mem_of_getElem? (i := 23) rfl)) (mm_9 _ (List.mem_of_getElem? (i := 5) rfl))) rfl rfl rfl ⟨rfl, by decide, by decide, by decide +kernel⟩ ⟨Nat.le_of_ble_eq_true rfl, Nat.le_of_ble_eq_true rfl⟩) rfl rfl (by decide) rfl hl.1 rfl (Nat.le_of_ble_eq_true rfl) dX14_does_115 (Nat.le_of_ble_eq_true rfl) (Nat.add_le_add_right (Nat.le_of_ble_eq_true rfl) _) (inv_A h) (fun H locs v σ115 N hBn hX115 hP => ?_)
              clear hB; have hB := hBn; clear hBn
              obtain ⟨x115, rfl, rfl, tx115, en115⟩ := hP
              obtain rfl : xe = x115 := Option.some.inj (hen.symm.trans en115)
              refine lv_astore (lv' := [(4, .ref _), (3, .int _), (2, .ref _), (0, .ref _), (1, .int _)]) hx hb dX14_does_118 hl (by decide) rfl (fun ls hl => ?_)
              refine lv_aload_n hx hb dX14_does_120 rfl (lv_at hl 3 rfl) ?_
              refine lv_aload_n hx hb dX14_does_121 rfl (lv_at hl 2 rfl) ?_
              refine sg_callV (ci := 19) F hB (m_packet l D cy h hY x w _) (cwV 1 F.1.2.2.2.2 (mgV (mm_12 _ (List.mem_of_getElem? (i := 29) rfl)) (mm_12 _ (List.mem_of_getElem? (i := 30) rfl)) (mm_12 _ (List.mem_of_getElem? (i := 31) rfl)) (mm_3 _ (List.mem_of_getElem? (i := 23) rfl)) (mm_11 _ (List.mem_of_getElem? (i := 38) rfl))) rfl rfl rfl ⟨rfl, by decide, by decide, by decide +kernel⟩ ⟨Nat.le_of_ble_eq_true rfl, Nat.le_of_ble_eq_true rfl⟩) rfl rfl (by decide) rfl hl.1 rfl (Nat.le_of_ble_eq_true rfl) dX14_does_122 (Nat.le_of_ble_eq_true rfl) (Nat.add_le_add_right (Nat.le_of_ble_eq_true rfl) _) (inv_A h) (fun H locs v σ122 N hBn hX122 hP => ?_)
              clear hB; have hB := hBn; clear hBn
              obtain ⟨b122, rfl, rfl, hb122, hb0, hb1⟩ := hP
              refine lv_istore (lv' := [(5, .int _), (4, .ref _), (3, .int _), (2, .ref _), (0, .ref _), (1, .int _)]) hx hb dX14_does_125 hl (by decide) rfl (fun ls hl => ?_)
              refine lv_aload hx hb dX14_does_127 (lv_at hl 1 rfl) ?_
              refine gf_X14_300 F hB dX14_does_129 txe ?_
              refine lv_if_eq (tgt := 144) hx hb dX14_does_132 (by decide) (fun c132 => ?_) (fun c132 => ?_)
              · refine lv_iload hx hb dX14_does_144 (lv_at hl 0 rfl) ?_
                refine lv_istore (lv' := [(6, .int _), (5, .int _), (4, .ref _), (3, .int _), (2, .ref _), (0, .ref _), (1, .int _)]) hx hb dX14_does_146 hl (by decide) rfl (fun ls hl => ?_)
                have m1 : (1 : Int32).toInt = 1 := rfl
                first
                  | (have hsn : (1 ≤ (if (1 : Int32) < b122 then b122 else 1).toInt ∧ (if (1 : Int32) < b122 then b122 else 1).toInt ≤ 8) ∧ b122.toInt ≤ (if (1 : Int32) < b122 then b122 else 1).toInt := by
                       have := hb1 c132
                       rw [m_maxI, m1]
                       omega
                     generalize (if (1 : Int32) < b122 then b122 else 1) = sn at hl hsn)
                  | (have hsn : (1 ≤ b122.toInt ∧ b122.toInt ≤ 8) ∧ b122.toInt ≤ b122.toInt := ⟨⟨(hb0 c132).1, hb122.2⟩, Int.le_refl _⟩
                     obtain ⟨sn, esn⟩ : ∃ sn : Int32, sn = b122 := ⟨_, rfl⟩
                     have hl : lv_has ls 11 [(6, .int sn), (5, .int b122), (4, .ref xe), (3, .int 1), (2, .ref b5), (0, .ref (kA K)), (1, .int x)] := by rw [esn]; exact hl
                     have hsn : (1 ≤ sn.toInt ∧ sn.toInt ≤ 8) ∧ b122.toInt ≤ sn.toInt := by rw [esn]; exact hsn)
                refine lv_aload_n hx hb dX14_does_148 rfl (lv_at hl 5 rfl) ?_
                refine lv_aload_n hx hb dX14_does_149 rfl (lv_at hl 4 rfl) ?_
                refine gf_X14_133 F hB dX14_does_150 tp ?_
                refine sg_callV (ci := 19) F hB (m_translatorOf l D cy h hY _ pn1 pn2 (inv_pu h (by omega) hz5) _) (cwV 1 F.1.2.2.2.2 (mgV (mm_6 _ (List.mem_of_getElem? (i := 17) rfl)) (mm_6 _ (List.mem_of_getElem? (i := 18) rfl)) (mm_6 _ (List.mem_of_getElem? (i := 19) rfl)) (mm_3 _ (List.mem_of_getElem? (i := 23) rfl)) (mm_4 _ (List.mem_of_getElem? (i := 12) rfl))) rfl rfl rfl ⟨rfl, by decide, by decide, by decide +kernel⟩ ⟨Nat.le_of_ble_eq_true rfl, Nat.le_of_ble_eq_true rfl⟩) rfl rfl (by decide) rfl hl.1 rfl (Nat.le_of_ble_eq_true rfl) dX14_does_153 (Nat.le_of_ble_eq_true rfl) (Nat.add_le_add_right (Nat.le_of_ble_eq_true rfl) _) (inv_A h) (fun H locs v σ153 N hBn hX153 hP => ?_)
                clear hB; have hB := hBn; clear hBn
                obtain ⟨y153, rfl, rfl, h153a, h153b⟩ := hP
                refine lv_istore (lv' := [(7, .int _), (6, .int _), (5, .int _), (4, .ref _), (3, .int _), (2, .ref _), (0, .ref _), (1, .int _)]) hx hb dX14_does_156 hl (by decide) rfl (fun ls hl => ?_)
                refine lv_aload_n hx hb dX14_does_158 rfl (lv_at hl 6 rfl) ?_
                refine lv_aload_n hx hb dX14_does_159 rfl (lv_at hl 5 rfl) ?_
                refine gf_X14_133 F hB dX14_does_160 tp ?_
                refine lv_iload hx hb dX14_does_163 (lv_at hl 1 rfl) ?_
                refine sg_callV (ci := 19) F hB (m_hubCost l D cy h _ (by omega) pn2 _ _) (cwV 2 F.1.2.2.2.2 (mgV (mm_8 _ (List.mem_of_getElem? (i := 16) rfl)) (mm_8 _ (List.mem_of_getElem? (i := 17) rfl)) (mm_8 _ (List.mem_of_getElem? (i := 18) rfl)) (mm_3 _ (List.mem_of_getElem? (i := 23) rfl)) (mm_8 _ (List.mem_of_getElem? (i := 11) rfl))) rfl rfl rfl ⟨rfl, by decide, by decide, by decide +kernel⟩ ⟨Nat.le_of_ble_eq_true rfl, Nat.le_of_ble_eq_true rfl⟩) rfl rfl (by decide) rfl hl.1 rfl (Nat.le_of_ble_eq_true rfl) dX14_does_165 (Nat.le_of_ble_eq_true rfl) (Nat.add_le_add_right (Nat.le_of_ble_eq_true rfl) _) (inv_A h) (fun H locs v σ165 N hBn hX165 hP => ?_)
                clear hB; have hB := hBn; clear hBn
                obtain ⟨y165, rfl, rfl, -⟩ := hP
                refine lv_istore (lv' := [(8, .int _), (7, .int _), (6, .int _), (5, .int _), (4, .ref _), (3, .int _), (2, .ref _), (0, .ref _), (1, .int _)]) hx hb dX14_does_168 hl (by decide) rfl (fun ls hl => ?_)
                refine lv_iload hx hb dX14_does_170 (lv_at hl 2 rfl) ?_
                refine sg_callS F hB (m_hostCost l D cy _ _) (cwS 1 F.1.2.2.2.2 (mgS (mm_8 _ (List.mem_of_getElem? (i := 19) rfl)) (mm_8 _ (List.mem_of_getElem? (i := 20) rfl)) (mm_3 _ (List.mem_of_getElem? (i := 23) rfl)) (mm_8 _ (List.mem_of_getElem? (i := 10) rfl))) rfl rfl rfl ⟨rfl, by decide, by decide, by decide +kernel⟩ ⟨Nat.le_of_ble_eq_true rfl, Nat.le_of_ble_eq_true rfl⟩) rfl hl.1 rfl (Nat.le_of_ble_eq_true rfl) dX14_does_172 (Nat.le_of_ble_eq_true rfl) (Nat.add_le_add_right (Nat.le_of_ble_eq_true rfl) _)  (fun H locs v σ172 N hBn hX172 hP => ?_)
                clear hB; have hB := hBn; clear hBn
                obtain ⟨rfl, rfl⟩ := hP
                refine lv_aload_n hx hb dX14_does_175 rfl (lv_at hl 7 rfl) ?_
                refine gf_X14_42 F hB dX14_does_176 (inv_A h) ?_
                refine lv_icmp_gt (tgt := 199) hx hb dX14_does_179 (by decide) (fun c179 => ?_) (fun c179 => ?_)
                · refine lv_iconst (v := 0) hx hb dX14_does_199 (by decide) ?_
                  exact sg_iretd F hB hrt dX14_does_200 (by decide) (by decide) (fun _ => ⟨rfl, rfl, Nat.le_refl _⟩) (⟨_, hw, rfl, h, Or.inl ⟨rfl, rfl, rfl⟩⟩)
                · refine lv_iload hx hb dX14_does_182 (lv_at hl 0 rfl) ?_
                  refine lv_if_le (tgt := 201) hx hb dX14_does_184 (by decide) (fun c184 => ?_) (fun c184 => ?_)
                  · have hle9 := i_nlt c179
                    refine lv_aload_n hx hb dX14_does_201 rfl (lv_at hl 7 rfl) ?_
                    refine lv_dup hx hb dX14_does_202 rfl ?_
                    refine gf_X14_42 F hB dX14_does_203 (inv_A h) ?_
                    refine lv_iload hx hb dX14_does_206 (lv_at hl 2 rfl) ?_
                    refine sg_callS F hB (m_hostCost l D cy _ _) (cwS 1 F.1.2.2.2.2 (mgS (mm_8 _ (List.mem_of_getElem? (i := 19) rfl)) (mm_8 _ (List.mem_of_getElem? (i := 20) rfl)) (mm_3 _ (List.mem_of_getElem? (i := 23) rfl)) (mm_8 _ (List.mem_of_getElem? (i := 10) rfl))) rfl rfl rfl ⟨rfl, by decide, by decide, by decide +kernel⟩ ⟨Nat.le_of_ble_eq_true rfl, Nat.le_of_ble_eq_true rfl⟩) rfl hl.1 rfl (Nat.le_of_ble_eq_true rfl) dX14_does_208 (Nat.le_of_ble_eq_true rfl) (Nat.add_le_add_right (Nat.le_of_ble_eq_true rfl) _)  (fun H locs v σ208 N hBn hX208 hP => ?_)
                    clear hB; have hB := hBn; clear hBn
                    obtain ⟨rfl, rfl⟩ := hP
                    refine lv_isub hx hb dX14_does_211 ?_
                    refine pf_X14_42 F hB dX14_does_212 (inv_A h) (fun H locs hBn => ?_)
                    clear hB; have hB := hBn; clear hBn
                    obtain ⟨hw2, hh2⟩ : ∃ hw2 : Nat, (hw2 : Int) = hw - 2 - sn.toInt := ⟨(hw - 2 - sn.toInt).toNat, by rw [m_hcv hsn.1.1 hsn.1.2] at hle9; omega⟩
                    have hI212 := inv_hlB hB h (m_hlv hwe hw100 hsn.1.1 hsn.1.2 hh2) (by omega)
                    refine lv_aload_n hx hb dX14_does_215 rfl (lv_at hl 7 rfl) ?_
                    refine lv_dup hx hb dX14_does_216 rfl ?_
                    refine gf_X14_347 F hB dX14_does_217 (inv_A hI212) ?_
                    refine lv_iload hx hb dX14_does_220 (lv_at hl 2 rfl) ?_
                    refine sg_callS F hB (m_hostCost l D cy _ _) (cwS 1 F.1.2.2.2.2 (mgS (mm_8 _ (List.mem_of_getElem? (i := 19) rfl)) (mm_8 _ (List.mem_of_getElem? (i := 20) rfl)) (mm_3 _ (List.mem_of_getElem? (i := 23) rfl)) (mm_8 _ (List.mem_of_getElem? (i := 10) rfl))) rfl rfl rfl ⟨rfl, by decide, by decide, by decide +kernel⟩ ⟨Nat.le_of_ble_eq_true rfl, Nat.le_of_ble_eq_true rfl⟩) rfl hl.1 rfl (Nat.le_of_ble_eq_true rfl) dX14_does_222 (Nat.le_of_ble_eq_true rfl) (Nat.add_le_add_right (Nat.le_of_ble_eq_true rfl) _)  (fun H locs v σ222 N hBn hX222 hP => ?_)
                    clear hB; have hB := hBn; clear hBn
                    obtain ⟨rfl, rfl⟩ := hP
                    refine lv_i2l hx hb dX14_does_225 rfl ?_
                    refine lv_ladd hx hb dX14_does_226 ?_
                    refine pf_X14_347 F hB dX14_does_227 (inv_A hI212) (fun H locs hBn => ?_)
                    clear hB; have hB := hBn; clear hBn
                    have hI227 := inv_PJc hB hI212
                    refine lv_aload_n hx hb dX14_does_230 rfl (lv_at hl 7 rfl) ?_
                    refine gr_X14_45 F hB dX14_does_231 (inv_A hI227) (inv_r12 hI227) ?_
                    refine lv_iload hx hb dX14_does_234 (lv_at hl 1 rfl) ?_
                    refine lv_dup2_11 hx hb dX14_does_236 rfl rfl ?_
                    refine sg_iald hx hb F.2.1 hB.1 dX14_does_237 (inv_tH hI227).1 (by omega) (m_ltN (n := 16) (inv_tH hI227).2 (by omega)) (m_ltM (inv_tH hI227).2 (by decide)) ?_
                    refine lv_iload hx hb dX14_does_238 (lv_at hl 0 rfl) ?_
                    refine lv_isub hx hb dX14_does_240 ?_
                    refine sg_iast hx hb F.2.1 hB.1 dX14_does_241 (inv_tH hI227).1 (by omega) (m_ltN (n := 16) (inv_tH hI227).2 (by omega)) (m_ltM (inv_tH hI227).2 (by decide)) (fun H locs hs1 => ?_)
                    have hBn := sgB_w hB hs1 (fun _ => rfl) (fun _ => rfl) (Nat.le_of_eq (sgPot_I (Or.inl (by rw [show sgT _ _ = _ from (inv_tH hI227).1]; decide))))
                    clear hB; have hB := hBn; clear hBn
                    have hI241 := inv_PIc (t := 100) hB hI227 (inv_tH hI227).1 (by unfold iCn; omega)
                    refine lv_aload_n hx hb dX14_does_242 rfl (lv_at hl 7 rfl) ?_
                    refine lv_dup hx hb dX14_does_243 rfl ?_
                    refine gf_X14_163 F hB dX14_does_244 (inv_A hI241) ?_
                    refine lv_iconst (v := 1) hx hb dX14_does_247 (by decide) ?_
                    refine lv_iadd hx hb dX14_does_248 ?_
                    refine pf_X14_163 F hB dX14_does_249 (inv_A hI241) (fun H locs hBn => ?_)
                    clear hB; have hB := hBn; clear hBn
                    have hI249 := inv_PIc (t := 20) hB hI241 (inv_A hI241) (by unfold iCn; omega)
                    have Zc := zz4 (l1 := l1) hB (inv_A h) (inv_tH h).1 tl
                    have ZL := zz4 (l1 := le) hB (inv_A h) (inv_tH h).1 tle
                    have ZG := zz4 (l1 := kG K) hB (inv_A h) (inv_tH h).1 (inv_tG h).1
                    obtain ⟨ee, ff, lf, en1, en2, en3, en4, en5, en6, en7, en8, en9⟩ := inv_ends h (k := (sgI σ b5 0).toInt.toNat) (by omega)
                    refine lv_aload_n hx hb dX14_does_252 rfl (lv_at hl 7 rfl) ?_
                    refine gr_X14_10 F hB dX14_does_253 (inv_A hI249) (inv_r1 hI249) ?_
                    refine lv_aload_n hx hb dX14_does_256 rfl (lv_at hl 6 rfl) ?_
                    refine gf_X14_133 F hB dX14_does_257 (by exact tp) ?_
                    rw [Zc.2.2.1 b5 0 tp (by decide)]
                    refine sg_callV (ci := 4) F hB (m_getD l D cy hI249 (sgI σ b5 0) (by omega) (by omega) _) (cwV 1 F.1.2.2.2.2 (mgV (mm_4 _ (List.mem_of_getElem? (i := 3) rfl)) (mm_4 _ (List.mem_of_getElem? (i := 4) rfl)) (mm_4 _ (List.mem_of_getElem? (i := 5) rfl)) (mm_0 _ (List.mem_of_getElem? (i := 35) rfl)) (mm_3 _ (List.mem_of_getElem? (i := 34) rfl))) rfl rfl rfl ⟨rfl, by decide, by decide, by decide +kernel⟩ ⟨Nat.le_of_ble_eq_true rfl, Nat.le_of_ble_eq_true rfl⟩) rfl rfl (by decide) rfl hl.1 rfl (Nat.le_of_ble_eq_true rfl) dX14_does_260 (Nat.le_of_ble_eq_true rfl) (Nat.add_le_add_right (Nat.le_of_ble_eq_true rfl) _) (inv_tD hI249).1 (fun H locs v σ260 N hBn hX260 hP => ?_)
                    clear hB; have hB := hBn; clear hBn
                    obtain ⟨rfl, rfl⟩ := hP
                    have dv260 := (inv_dv hI249 (k := ((sgI σ b5 0) : Int32).toInt.toNat) (by omega)).2.1
                    refine va_castY hx hb hown (F.1.2.2.2.2 _ (List.mem_cons_of_mem _ (mm_4 _ (List.mem_of_getElem? (i := 2) rfl)))) (F.2.2.1.2.2 ("HubcascadeModel$Device", "HubcascadeModel$Device") (by decide +kernel)) (sg_recv (ci := 15) F.2.1 hB (by assumption) (by decide) rfl) dX14_does_263 ?_
                    refine lv_astore (lv' := [(9, .ref _), (8, .int _), (7, .int _), (6, .int _), (5, .int _), (4, .ref _), (3, .int _), (2, .ref _), (0, .ref _), (1, .int _)]) hx hb dX14_does_266 hl (by decide) rfl (fun ls hl => ?_)
                    refine lv_aload hx hb dX14_does_268 (lv_at hl 0 rfl) ?_
                    refine gr_X14_166 F hB dX14_does_270 dv260 (by exact en3) ?_
                    refine lv_aload_n hx hb dX14_does_273 rfl (lv_at hl 7 rfl) ?_
                    refine gf_X14_235 F hB dX14_does_274 (by exact tp) ?_
                    rw [Zc.2.2.1 b5 1 tp (by decide)]
                    refine sg_iald hx hb F.2.1 hB.1 dX14_does_277 (by exact en8) (by omega) (m_ltN en9 (by omega)) (m_ltM en9 (by decide)) ?_
                    refine lv_if_le (tgt := 294) hx hb dX14_does_278 (by decide) (fun c278 => ?_) (fun c278 => ?_)
                    · refine lv_bipush (v := 32) hx hb dX14_does_294 (by decide) ?_
                      refine lv_istore (lv' := [(10, .int _), (9, .ref _), (8, .int _), (7, .int _), (6, .int _), (5, .int _), (4, .ref _), (3, .int _), (2, .ref _), (0, .ref _), (1, .int _)]) hx hb dX14_does_296 hl (by decide) rfl (fun ls hl => ?_)
                      refine lv_aload hx hb dX14_does_298 (lv_at hl 1 rfl) ?_
                      refine gr_X14_166 F hB dX14_does_300 dv260 (by exact en3) ?_
                      refine lv_aload_n hx hb dX14_does_303 rfl (lv_at hl 8 rfl) ?_
                      refine gf_X14_235 F hB dX14_does_304 (by exact tp) ?_
                      rw [Zc.2.2.1 b5 1 tp (by decide)]
                      refine lv_dup2_11 hx hb dX14_does_307 rfl rfl ?_
                      refine sg_iald hx hb F.2.1 hB.1 dX14_does_308 (by exact en8) (by omega) (m_ltN en9 (by omega)) (m_ltM en9 (by decide)) ?_
                      refine lv_iload hx hb dX14_does_309 (lv_at hl 0 rfl) ?_
                      refine lv_bipush (v := 32) hx hb dX14_does_311 (by decide) ?_
                      refine lv_icmp_ne (tgt := 320) hx hb dX14_does_313 (by decide) (fun c313 => (by first | exact absurd c313 (by decide) | exact (c313 (by decide)).elim)) (fun c313 => ?_)
                      refine lv_iconst (v := 0) hx hb dX14_does_316 (by decide) ?_
                      refine lv_goto (tgt := 321) hx hb dX14_does_317 (by decide) ?_
                      refine lv_isub hx hb dX14_does_321 ?_
                      refine sg_iast hx hb F.2.1 hB.1 dX14_does_322 (by exact en8) (by omega) (m_ltN en9 (by omega)) (m_ltM en9 (by decide)) (fun H locs hs1 => ?_)
                      have hBn := sgB_w hB hs1 (fun _ => rfl) (fun _ => rfl) (Nat.le_of_eq (sgPot_I (Or.inl (by rw [show sgT _ _ = _ from (by exact en8)]; decide))))
                      clear hB; have hB := hBn; clear hBn
                      have hI322 := inv_PIc (t := 100) hB hI249 (by exact en8) (by unfold iCn; omega)
                      have Z5 := zz5 hB Zc (by exact en8) (by exact tl)
                      have Z5L := zz5 hB ZL (by exact en8) (by exact tle)
                      have Z5G := zz5 hB ZG (by exact en8) (by exact (inv_tG h).1)
                      have wZ := wPp_z h w Z5
                      have s5 := Z5L.2.2.2.2.2.1
                      have sG5 := Z5G.2.2.2.2.2.1
                      have d5 := Z5.2.2.2.1 xe 0 txe (by decide)
                      have e51 := Z5.2.1 t0 1 tt
                      have e52 := Z5.2.1 t0 2 tt
                      have qG := (inv_szG h).2
                      have qL := (inv_el h txe).elim (fun l0 q => (Option.some.inj (q.1.symm.trans w.2.2.2.2.2.2.1)) ▸ q.2.2.2.2.2)
                      refine lv_aload_n hx hb dX14_does_323 rfl (lv_at hl 8 rfl) ?_
                      refine gf_X14_350 F hB dX14_does_324 (by exact tp) ?_
                      refine lv_bipush (v := 115) hx hb dX14_does_327 (by decide) ?_
                      refine lv_icmp_ne (tgt := 346) hx hb dX14_does_329 (by decide) (fun c329 => ?_) (fun c329 => ?_)
                      · refine lv_aload hx hb dX14_does_346 (lv_at hl 6 rfl) ?_
                        refine gf_X14_300 F hB dX14_does_348 (by exact txe) ?_
                        refine lv_if_eq (tgt := 368) hx hb dX14_does_351 (by decide) (fun c351 => ?_) (fun c351 => ?_)
                        · refine lv_aload_n hx hb dX14_does_368 rfl (lv_at hl 9 rfl) ?_
                          refine lv_iload_n hx hb dX14_does_369 rfl (lv_at hl 10 rfl) ?_
                          refine lv_aload hx hb dX14_does_370 (lv_at hl 6 rfl) ?_
                          refine lv_iload hx hb dX14_does_372 (lv_at hl 5 rfl) ?_
                          refine lv_iload hx hb dX14_does_374 (lv_at hl 0 rfl) ?_
                          refine sg_callV (ci := 19) F hB (m_goes l D cy hI322 hY x wZ b122 _ ⟨(hb0 (d5.symm.trans c351)).1, hb122.2⟩ (by rw [e51, e52]; exact (hb0 (d5.symm.trans c351)).2) c351 (by first | exact ⟨by decide, by decide⟩ | exact hch) (by rw [s5]; omega) _) (cwV 4 F.1.2.2.2.2 (mgV (mm_12 _ (List.mem_of_getElem? (i := 38) rfl)) (mm_12 _ (List.mem_of_getElem? (i := 39) rfl)) (mm_13 _ (List.mem_of_getElem? (i := 0) rfl)) (mm_3 _ (List.mem_of_getElem? (i := 23) rfl)) (mm_12 _ (List.mem_of_getElem? (i := 27) rfl))) rfl rfl rfl ⟨rfl, by decide, by decide, by decide +kernel⟩ ⟨Nat.le_of_ble_eq_true rfl, Nat.le_of_ble_eq_true rfl⟩) rfl rfl (by decide) rfl hl.1 rfl (Nat.le_of_ble_eq_true rfl) dX14_does_376 (Nat.le_of_ble_eq_true rfl) (Nat.add_le_add_right (Nat.le_of_ble_eq_true rfl) _) (inv_A hI322) (fun H locs v σ376 N hBn hX376 hP => ?_)
                          clear hB; have hB := hBn; clear hBn
                          obtain ⟨⟨y376, rfl, hy376⟩, hI376⟩ := hP
                          exact sg_iretd F hB hrt dX14_does_379 (by decide) (by decide) (fun z => by first | (rcases hy340 with q | q <;> (rw [q] at z; exact absurd z (by decide))) | (rcases hy362 with q | q <;> (rw [q] at z; exact absurd z (by decide))) | (rcases hy376 with q | q <;> (rw [q] at z; exact absurd z (by decide)))) (by first | exact ⟨_, hw2, rfl, hI376, Or.inr ⟨hy340, by omega⟩⟩ | exact ⟨_, hw2, rfl, hI376, Or.inr ⟨hy362, by omega⟩⟩ | exact ⟨_, hw2, rfl, hI376, Or.inr ⟨hy376, by omega⟩⟩)
                        · refine lv_aload_n hx hb dX14_does_354 rfl (lv_at hl 9 rfl) ?_
                          refine lv_iload_n hx hb dX14_does_355 rfl (lv_at hl 10 rfl) ?_
                          refine lv_aload hx hb dX14_does_356 (lv_at hl 6 rfl) ?_
                          refine lv_iload hx hb dX14_does_358 (lv_at hl 5 rfl) ?_
                          refine lv_iload hx hb dX14_does_360 (lv_at hl 0 rfl) ?_
                          refine sg_callV (ci := 19) F hB (m_comes l D cy hI322 hY x wZ b122 _ hb122 (by rw [s5]; exact (hb1 (fun q => c351 (d5.trans q))).1) c351 c329 (by first | exact ⟨by decide, by decide⟩ | exact hch) (by rw [sG5]; omega) _) (cwV 4 F.1.2.2.2.2 (mgV (mm_12 _ (List.mem_of_getElem? (i := 35) rfl)) (mm_12 _ (List.mem_of_getElem? (i := 36) rfl)) (mm_12 _ (List.mem_of_getElem? (i := 37) rfl)) (mm_3 _ (List.mem_of_getElem? (i := 23) rfl)) (mm_12 _ (List.mem_of_getElem? (i := 26) rfl))) rfl rfl rfl ⟨rfl, by decide, by decide, by decide +kernel⟩ ⟨Nat.le_of_ble_eq_true rfl, Nat.le_of_ble_eq_true rfl⟩) rfl rfl (by decide) rfl hl.1 rfl (Nat.le_of_ble_eq_true rfl) dX14_does_362 (Nat.le_of_ble_eq_true rfl) (Nat.add_le_add_right (Nat.le_of_ble_eq_true rfl) _) (inv_A hI322) (fun H locs v σ362 N hBn hX362 hP => ?_)
                          clear hB; have hB := hBn; clear hBn
                          obtain ⟨⟨y362, rfl, hy362⟩, hI362⟩ := hP
                          refine lv_goto (tgt := 379) hx hb dX14_does_365 (by decide) ?_
                          exact sg_iretd F hB hrt dX14_does_379 (by decide) (by decide) (fun z => by first | (rcases hy340 with q | q <;> (rw [q] at z; exact absurd z (by decide))) | (rcases hy362 with q | q <;> (rw [q] at z; exact absurd z (by decide))) | (rcases hy376 with q | q <;> (rw [q] at z; exact absurd z (by decide)))) (by first | exact ⟨_, hw2, rfl, hI362, Or.inr ⟨hy340, by omega⟩⟩ | exact ⟨_, hw2, rfl, hI362, Or.inr ⟨hy362, by omega⟩⟩ | exact ⟨_, hw2, rfl, hI362, Or.inr ⟨hy376, by omega⟩⟩)
                      · refine lv_aload_n hx hb dX14_does_332 rfl (lv_at hl 9 rfl) ?_
                        refine lv_iload_n hx hb dX14_does_333 rfl (lv_at hl 10 rfl) ?_
                        refine lv_aload hx hb dX14_does_334 (lv_at hl 6 rfl) ?_
                        refine lv_iload hx hb dX14_does_336 (lv_at hl 5 rfl) ?_
                        refine lv_iload hx hb dX14_does_338 (lv_at hl 0 rfl) ?_
                        refine sg_callV (ci := 19) F hB (m_sounds l D cy hI322 hY x wZ b122 _ hb122 (fun z => by rw [s5]; exact (hb1 (fun q => z (d5.trans q))).1) (fun z => by rw [e51, e52]; exact (hb0 (d5.symm.trans z)).2) c329 (by first | exact ⟨by decide, by decide⟩ | exact hch) (by rw [s5]; omega) (by rw [sG5]; omega) _) (cwV 4 F.1.2.2.2.2 (mgV (mm_12 _ (List.mem_of_getElem? (i := 32) rfl)) (mm_12 _ (List.mem_of_getElem? (i := 33) rfl)) (mm_12 _ (List.mem_of_getElem? (i := 34) rfl)) (mm_3 _ (List.mem_of_getElem? (i := 23) rfl)) (mm_12 _ (List.mem_of_getElem? (i := 4) rfl))) rfl rfl rfl ⟨rfl, by decide, by decide, by decide +kernel⟩ ⟨Nat.le_of_ble_eq_true rfl, Nat.le_of_ble_eq_true rfl⟩) rfl rfl (by decide) rfl hl.1 rfl (Nat.le_of_ble_eq_true rfl) dX14_does_340 (Nat.le_of_ble_eq_true rfl) (Nat.add_le_add_right (Nat.le_of_ble_eq_true rfl) _) (inv_A hI322) (fun H locs v σ340 N hBn hX340 hP => ?_)
                        clear hB; have hB := hBn; clear hBn
                        obtain ⟨⟨y340, rfl, hy340⟩, hI340⟩ := hP
                        refine lv_goto (tgt := 379) hx hb dX14_does_343 (by decide) ?_
                        exact sg_iretd F hB hrt dX14_does_379 (by decide) (by decide) (fun z => by first | (rcases hy340 with q | q <;> (rw [q] at z; exact absurd z (by decide))) | (rcases hy362 with q | q <;> (rw [q] at z; exact absurd z (by decide))) | (rcases hy376 with q | q <;> (rw [q] at z; exact absurd z (by decide)))) (by first | exact ⟨_, hw2, rfl, hI340, Or.inr ⟨hy340, by omega⟩⟩ | exact ⟨_, hw2, rfl, hI340, Or.inr ⟨hy362, by omega⟩⟩ | exact ⟨_, hw2, rfl, hI340, Or.inr ⟨hy376, by omega⟩⟩)
                    · refine lv_aload hx hb dX14_does_281 (lv_at hl 0 rfl) ?_
                      refine gr_X14_334 F hB dX14_does_283 dv260 (by exact en2) ?_
                      refine lv_aload_n hx hb dX14_does_286 rfl (lv_at hl 7 rfl) ?_
                      refine gf_X14_235 F hB dX14_does_287 (by exact tp) ?_
                      rw [Zc.2.2.1 b5 1 tp (by decide)]
                      refine sg_cald hx hb F.2.1 hB.1 dX14_does_290 (by exact en6) (by omega) (m_ltN en7 (by omega)) (m_ltM en7 (by decide)) ?_
                      have hch := hB.1.1.2.2.1 ff (sgI σ b5 1).toInt.toNat (by exact en6)
                      refine lv_goto (tgt := 296) hx hb dX14_does_291 (by decide) ?_
                      refine lv_istore (lv' := [(10, .int _), (9, .ref _), (8, .int _), (7, .int _), (6, .int _), (5, .int _), (4, .ref _), (3, .int _), (2, .ref _), (0, .ref _), (1, .int _)]) hx hb dX14_does_296 hl (by decide) rfl (fun ls hl => ?_)
                      refine lv_aload hx hb dX14_does_298 (lv_at hl 1 rfl) ?_
                      refine gr_X14_166 F hB dX14_does_300 dv260 (by exact en3) ?_
                      refine lv_aload_n hx hb dX14_does_303 rfl (lv_at hl 8 rfl) ?_
                      refine gf_X14_235 F hB dX14_does_304 (by exact tp) ?_
                      rw [Zc.2.2.1 b5 1 tp (by decide)]
                      refine lv_dup2_11 hx hb dX14_does_307 rfl rfl ?_
                      refine sg_iald hx hb F.2.1 hB.1 dX14_does_308 (by exact en8) (by omega) (m_ltN en9 (by omega)) (m_ltM en9 (by decide)) ?_
                      refine lv_iload hx hb dX14_does_309 (lv_at hl 0 rfl) ?_
                      refine lv_bipush (v := 32) hx hb dX14_does_311 (by decide) ?_
                      refine lv_icmp_ne (tgt := 320) hx hb dX14_does_313 (by decide) (fun c313 => ?_) (fun c313 => ?_)
                      · refine lv_iconst (v := 1) hx hb dX14_does_320 (by decide) ?_
                        refine lv_isub hx hb dX14_does_321 ?_
                        refine sg_iast hx hb F.2.1 hB.1 dX14_does_322 (by exact en8) (by omega) (m_ltN en9 (by omega)) (m_ltM en9 (by decide)) (fun H locs hs1 => ?_)
                        have hBn := sgB_w hB hs1 (fun _ => rfl) (fun _ => rfl) (Nat.le_of_eq (sgPot_I (Or.inl (by rw [show sgT _ _ = _ from (by exact en8)]; decide))))
                        clear hB; have hB := hBn; clear hBn
                        have hI322 := inv_PIc (t := 100) hB hI249 (by exact en8) (by unfold iCn; omega)
                        have Z5 := zz5 hB Zc (by exact en8) (by exact tl)
                        have Z5L := zz5 hB ZL (by exact en8) (by exact tle)
                        have Z5G := zz5 hB ZG (by exact en8) (by exact (inv_tG h).1)
                        have wZ := wPp_z h w Z5
                        have s5 := Z5L.2.2.2.2.2.1
                        have sG5 := Z5G.2.2.2.2.2.1
                        have d5 := Z5.2.2.2.1 xe 0 txe (by decide)
                        have e51 := Z5.2.1 t0 1 tt
                        have e52 := Z5.2.1 t0 2 tt
                        have qG := (inv_szG h).2
                        have qL := (inv_el h txe).elim (fun l0 q => (Option.some.inj (q.1.symm.trans w.2.2.2.2.2.2.1)) ▸ q.2.2.2.2.2)
                        refine lv_aload_n hx hb dX14_does_323 rfl (lv_at hl 8 rfl) ?_
                        refine gf_X14_350 F hB dX14_does_324 (by exact tp) ?_
                        refine lv_bipush (v := 115) hx hb dX14_does_327 (by decide) ?_
                        refine lv_icmp_ne (tgt := 346) hx hb dX14_does_329 (by decide) (fun c329 => ?_) (fun c329 => ?_)
                        · refine lv_aload hx hb dX14_does_346 (lv_at hl 6 rfl) ?_
                          refine gf_X14_300 F hB dX14_does_348 (by exact txe) ?_
                          refine lv_if_eq (tgt := 368) hx hb dX14_does_351 (by decide) (fun c351 => ?_) (fun c351 => ?_)
                          · refine lv_aload_n hx hb dX14_does_368 rfl (lv_at hl 9 rfl) ?_
                            refine lv_iload_n hx hb dX14_does_369 rfl (lv_at hl 10 rfl) ?_
                            refine lv_aload hx hb dX14_does_370 (lv_at hl 6 rfl) ?_
                            refine lv_iload hx hb dX14_does_372 (lv_at hl 5 rfl) ?_
                            refine lv_iload hx hb dX14_does_374 (lv_at hl 0 rfl) ?_
                            refine sg_callV (ci := 19) F hB (m_goes l D cy hI322 hY x wZ b122 _ ⟨(hb0 (d5.symm.trans c351)).1, hb122.2⟩ (by rw [e51, e52]; exact (hb0 (d5.symm.trans c351)).2) c351 (by first | exact ⟨by decide, by decide⟩ | exact hch) (by rw [s5]; omega) _) (cwV 4 F.1.2.2.2.2 (mgV (mm_12 _ (List.mem_of_getElem? (i := 38) rfl)) (mm_12 _ (List.mem_of_getElem? (i := 39) rfl)) (mm_13 _ (List.mem_of_getElem? (i := 0) rfl)) (mm_3 _ (List.mem_of_getElem? (i := 23) rfl)) (mm_12 _ (List.mem_of_getElem? (i := 27) rfl))) rfl rfl rfl ⟨rfl, by decide, by decide, by decide +kernel⟩ ⟨Nat.le_of_ble_eq_true rfl, Nat.le_of_ble_eq_true rfl⟩) rfl rfl (by decide) rfl hl.1 rfl (Nat.le_of_ble_eq_true rfl) dX14_does_376 (Nat.le_of_ble_eq_true rfl) (Nat.add_le_add_right (Nat.le_of_ble_eq_true rfl) _) (inv_A hI322) (fun H locs v σ376 N hBn hX376 hP => ?_)
                            clear hB; have hB := hBn; clear hBn
                            obtain ⟨⟨y376, rfl, hy376⟩, hI376⟩ := hP
                            exact sg_iretd F hB hrt dX14_does_379 (by decide) (by decide) (fun z => by first | (rcases hy340 with q | q <;> (rw [q] at z; exact absurd z (by decide))) | (rcases hy362 with q | q <;> (rw [q] at z; exact absurd z (by decide))) | (rcases hy376 with q | q <;> (rw [q] at z; exact absurd z (by decide)))) (by first | exact ⟨_, hw2, rfl, hI376, Or.inr ⟨hy340, by omega⟩⟩ | exact ⟨_, hw2, rfl, hI376, Or.inr ⟨hy362, by omega⟩⟩ | exact ⟨_, hw2, rfl, hI376, Or.inr ⟨hy376, by omega⟩⟩)
                          · refine lv_aload_n hx hb dX14_does_354 rfl (lv_at hl 9 rfl) ?_
                            refine lv_iload_n hx hb dX14_does_355 rfl (lv_at hl 10 rfl) ?_
                            refine lv_aload hx hb dX14_does_356 (lv_at hl 6 rfl) ?_
                            refine lv_iload hx hb dX14_does_358 (lv_at hl 5 rfl) ?_
                            refine lv_iload hx hb dX14_does_360 (lv_at hl 0 rfl) ?_
                            refine sg_callV (ci := 19) F hB (m_comes l D cy hI322 hY x wZ b122 _ hb122 (by rw [s5]; exact (hb1 (fun q => c351 (d5.trans q))).1) c351 c329 (by first | exact ⟨by decide, by decide⟩ | exact hch) (by rw [sG5]; omega) _) (cwV 4 F.1.2.2.2.2 (mgV (mm_12 _ (List.mem_of_getElem? (i := 35) rfl)) (mm_12 _ (List.mem_of_getElem? (i := 36) rfl)) (mm_12 _ (List.mem_of_getElem? (i := 37) rfl)) (mm_3 _ (List.mem_of_getElem? (i := 23) rfl)) (mm_12 _ (List.mem_of_getElem? (i := 26) rfl))) rfl rfl rfl ⟨rfl, by decide, by decide, by decide +kernel⟩ ⟨Nat.le_of_ble_eq_true rfl, Nat.le_of_ble_eq_true rfl⟩) rfl rfl (by decide) rfl hl.1 rfl (Nat.le_of_ble_eq_true rfl) dX14_does_362 (Nat.le_of_ble_eq_true rfl) (Nat.add_le_add_right (Nat.le_of_ble_eq_true rfl) _) (inv_A hI322) (fun H locs v σ362 N hBn hX362 hP => ?_)
                            clear hB; have hB := hBn; clear hBn
                            obtain ⟨⟨y362, rfl, hy362⟩, hI362⟩ := hP
                            refine lv_goto (tgt := 379) hx hb dX14_does_365 (by decide) ?_
                            exact sg_iretd F hB hrt dX14_does_379 (by decide) (by decide) (fun z => by first | (rcases hy340 with q | q <;> (rw [q] at z; exact absurd z (by decide))) | (rcases hy362 with q | q <;> (rw [q] at z; exact absurd z (by decide))) | (rcases hy376 with q | q <;> (rw [q] at z; exact absurd z (by decide)))) (by first | exact ⟨_, hw2, rfl, hI362, Or.inr ⟨hy340, by omega⟩⟩ | exact ⟨_, hw2, rfl, hI362, Or.inr ⟨hy362, by omega⟩⟩ | exact ⟨_, hw2, rfl, hI362, Or.inr ⟨hy376, by omega⟩⟩)
                        · refine lv_aload_n hx hb dX14_does_332 rfl (lv_at hl 9 rfl) ?_
                          refine lv_iload_n hx hb dX14_does_333 rfl (lv_at hl 10 rfl) ?_
                          refine lv_aload hx hb dX14_does_334 (lv_at hl 6 rfl) ?_
                          refine lv_iload hx hb dX14_does_336 (lv_at hl 5 rfl) ?_
                          refine lv_iload hx hb dX14_does_338 (lv_at hl 0 rfl) ?_
                          refine sg_callV (ci := 19) F hB (m_sounds l D cy hI322 hY x wZ b122 _ hb122 (fun z => by rw [s5]; exact (hb1 (fun q => z (d5.trans q))).1) (fun z => by rw [e51, e52]; exact (hb0 (d5.symm.trans z)).2) c329 (by first | exact ⟨by decide, by decide⟩ | exact hch) (by rw [s5]; omega) (by rw [sG5]; omega) _) (cwV 4 F.1.2.2.2.2 (mgV (mm_12 _ (List.mem_of_getElem? (i := 32) rfl)) (mm_12 _ (List.mem_of_getElem? (i := 33) rfl)) (mm_12 _ (List.mem_of_getElem? (i := 34) rfl)) (mm_3 _ (List.mem_of_getElem? (i := 23) rfl)) (mm_12 _ (List.mem_of_getElem? (i := 4) rfl))) rfl rfl rfl ⟨rfl, by decide, by decide, by decide +kernel⟩ ⟨Nat.le_of_ble_eq_true rfl, Nat.le_of_ble_eq_true rfl⟩) rfl rfl (by decide) rfl hl.1 rfl (Nat.le_of_ble_eq_true rfl) dX14_does_340 (Nat.le_of_ble_eq_true rfl) (Nat.add_le_add_right (Nat.le_of_ble_eq_true rfl) _) (inv_A hI322) (fun H locs v σ340 N hBn hX340 hP => ?_)
                          clear hB; have hB := hBn; clear hBn
                          obtain ⟨⟨y340, rfl, hy340⟩, hI340⟩ := hP
                          refine lv_goto (tgt := 379) hx hb dX14_does_343 (by decide) ?_
                          exact sg_iretd F hB hrt dX14_does_379 (by decide) (by decide) (fun z => by first | (rcases hy340 with q | q <;> (rw [q] at z; exact absurd z (by decide))) | (rcases hy362 with q | q <;> (rw [q] at z; exact absurd z (by decide))) | (rcases hy376 with q | q <;> (rw [q] at z; exact absurd z (by decide)))) (by first | exact ⟨_, hw2, rfl, hI340, Or.inr ⟨hy340, by omega⟩⟩ | exact ⟨_, hw2, rfl, hI340, Or.inr ⟨hy362, by omega⟩⟩ | exact ⟨_, hw2, rfl, hI340, Or.inr ⟨hy376, by omega⟩⟩)
                      · refine lv_iconst (v := 0) hx hb dX14_does_316 (by decide) ?_
                        refine lv_goto (tgt := 321) hx hb dX14_does_317 (by decide) ?_
                        refine lv_isub hx hb dX14_does_321 ?_
                        refine sg_iast hx hb F.2.1 hB.1 dX14_does_322 (by exact en8) (by omega) (m_ltN en9 (by omega)) (m_ltM en9 (by decide)) (fun H locs hs1 => ?_)
                        have hBn := sgB_w hB hs1 (fun _ => rfl) (fun _ => rfl) (Nat.le_of_eq (sgPot_I (Or.inl (by rw [show sgT _ _ = _ from (by exact en8)]; decide))))
                        clear hB; have hB := hBn; clear hBn
                        have hI322 := inv_PIc (t := 100) hB hI249 (by exact en8) (by unfold iCn; omega)
                        have Z5 := zz5 hB Zc (by exact en8) (by exact tl)
                        have Z5L := zz5 hB ZL (by exact en8) (by exact tle)
                        have Z5G := zz5 hB ZG (by exact en8) (by exact (inv_tG h).1)
                        have wZ := wPp_z h w Z5
                        have s5 := Z5L.2.2.2.2.2.1
                        have sG5 := Z5G.2.2.2.2.2.1
                        have d5 := Z5.2.2.2.1 xe 0 txe (by decide)
                        have e51 := Z5.2.1 t0 1 tt
                        have e52 := Z5.2.1 t0 2 tt
                        have qG := (inv_szG h).2
                        have qL := (inv_el h txe).elim (fun l0 q => (Option.some.inj (q.1.symm.trans w.2.2.2.2.2.2.1)) ▸ q.2.2.2.2.2)
                        refine lv_aload_n hx hb dX14_does_323 rfl (lv_at hl 8 rfl) ?_
                        refine gf_X14_350 F hB dX14_does_324 (by exact tp) ?_
                        refine lv_bipush (v := 115) hx hb dX14_does_327 (by decide) ?_
                        refine lv_icmp_ne (tgt := 346) hx hb dX14_does_329 (by decide) (fun c329 => ?_) (fun c329 => ?_)
                        · refine lv_aload hx hb dX14_does_346 (lv_at hl 6 rfl) ?_
                          refine gf_X14_300 F hB dX14_does_348 (by exact txe) ?_
                          refine lv_if_eq (tgt := 368) hx hb dX14_does_351 (by decide) (fun c351 => ?_) (fun c351 => ?_)
                          · refine lv_aload_n hx hb dX14_does_368 rfl (lv_at hl 9 rfl) ?_
                            refine lv_iload_n hx hb dX14_does_369 rfl (lv_at hl 10 rfl) ?_
                            refine lv_aload hx hb dX14_does_370 (lv_at hl 6 rfl) ?_
                            refine lv_iload hx hb dX14_does_372 (lv_at hl 5 rfl) ?_
                            refine lv_iload hx hb dX14_does_374 (lv_at hl 0 rfl) ?_
                            refine sg_callV (ci := 19) F hB (m_goes l D cy hI322 hY x wZ b122 _ ⟨(hb0 (d5.symm.trans c351)).1, hb122.2⟩ (by rw [e51, e52]; exact (hb0 (d5.symm.trans c351)).2) c351 (by first | exact ⟨by decide, by decide⟩ | exact hch) (by rw [s5]; omega) _) (cwV 4 F.1.2.2.2.2 (mgV (mm_12 _ (List.mem_of_getElem? (i := 38) rfl)) (mm_12 _ (List.mem_of_getElem? (i := 39) rfl)) (mm_13 _ (List.mem_of_getElem? (i := 0) rfl)) (mm_3 _ (List.mem_of_getElem? (i := 23) rfl)) (mm_12 _ (List.mem_of_getElem? (i := 27) rfl))) rfl rfl rfl ⟨rfl, by decide, by decide, by decide +kernel⟩ ⟨Nat.le_of_ble_eq_true rfl, Nat.le_of_ble_eq_true rfl⟩) rfl rfl (by decide) rfl hl.1 rfl (Nat.le_of_ble_eq_true rfl) dX14_does_376 (Nat.le_of_ble_eq_true rfl) (Nat.add_le_add_right (Nat.le_of_ble_eq_true rfl) _) (inv_A hI322) (fun H locs v σ376 N hBn hX376 hP => ?_)
                            clear hB; have hB := hBn; clear hBn
                            obtain ⟨⟨y376, rfl, hy376⟩, hI376⟩ := hP
                            exact sg_iretd F hB hrt dX14_does_379 (by decide) (by decide) (fun z => by first | (rcases hy340 with q | q <;> (rw [q] at z; exact absurd z (by decide))) | (rcases hy362 with q | q <;> (rw [q] at z; exact absurd z (by decide))) | (rcases hy376 with q | q <;> (rw [q] at z; exact absurd z (by decide)))) (by first | exact ⟨_, hw2, rfl, hI376, Or.inr ⟨hy340, by omega⟩⟩ | exact ⟨_, hw2, rfl, hI376, Or.inr ⟨hy362, by omega⟩⟩ | exact ⟨_, hw2, rfl, hI376, Or.inr ⟨hy376, by omega⟩⟩)
                          · refine lv_aload_n hx hb dX14_does_354 rfl (lv_at hl 9 rfl) ?_
                            refine lv_iload_n hx hb dX14_does_355 rfl (lv_at hl 10 rfl) ?_
                            refine lv_aload hx hb dX14_does_356 (lv_at hl 6 rfl) ?_
                            refine lv_iload hx hb dX14_does_358 (lv_at hl 5 rfl) ?_
                            refine lv_iload hx hb dX14_does_360 (lv_at hl 0 rfl) ?_
                            refine sg_callV (ci := 19) F hB (m_comes l D cy hI322 hY x wZ b122 _ hb122 (by rw [s5]; exact (hb1 (fun q => c351 (d5.trans q))).1) c351 c329 (by first | exact ⟨by decide, by decide⟩ | exact hch) (by rw [sG5]; omega) _) (cwV 4 F.1.2.2.2.2 (mgV (mm_12 _ (List.mem_of_getElem? (i := 35) rfl)) (mm_12 _ (List.mem_of_getElem? (i := 36) rfl)) (mm_12 _ (List.mem_of_getElem? (i := 37) rfl)) (mm_3 _ (List.mem_of_getElem? (i := 23) rfl)) (mm_12 _ (List.mem_of_getElem? (i := 26) rfl))) rfl rfl rfl ⟨rfl, by decide, by decide, by decide +kernel⟩ ⟨Nat.le_of_ble_eq_true rfl, Nat.le_of_ble_eq_true rfl⟩) rfl rfl (by decide) rfl hl.1 rfl (Nat.le_of_ble_eq_true rfl) dX14_does_362 (Nat.le_of_ble_eq_true rfl) (Nat.add_le_add_right (Nat.le_of_ble_eq_true rfl) _) (inv_A hI322) (fun H locs v σ362 N hBn hX362 hP => ?_)
                            clear hB; have hB := hBn; clear hBn
                            obtain ⟨⟨y362, rfl, hy362⟩, hI362⟩ := hP
                            refine lv_goto (tgt := 379) hx hb dX14_does_365 (by decide) ?_
                            exact sg_iretd F hB hrt dX14_does_379 (by decide) (by decide) (fun z => by first | (rcases hy340 with q | q <;> (rw [q] at z; exact absurd z (by decide))) | (rcases hy362 with q | q <;> (rw [q] at z; exact absurd z (by decide))) | (rcases hy376 with q | q <;> (rw [q] at z; exact absurd z (by decide)))) (by first | exact ⟨_, hw2, rfl, hI362, Or.inr ⟨hy340, by omega⟩⟩ | exact ⟨_, hw2, rfl, hI362, Or.inr ⟨hy362, by omega⟩⟩ | exact ⟨_, hw2, rfl, hI362, Or.inr ⟨hy376, by omega⟩⟩)
                        · refine lv_aload_n hx hb dX14_does_332 rfl (lv_at hl 9 rfl) ?_
                          refine lv_iload_n hx hb dX14_does_333 rfl (lv_at hl 10 rfl) ?_
                          refine lv_aload hx hb dX14_does_334 (lv_at hl 6 rfl) ?_
                          refine lv_iload hx hb dX14_does_336 (lv_at hl 5 rfl) ?_
                          refine lv_iload hx hb dX14_does_338 (lv_at hl 0 rfl) ?_
                          refine sg_callV (ci := 19) F hB (m_sounds l D cy hI322 hY x wZ b122 _ hb122 (fun z => by rw [s5]; exact (hb1 (fun q => z (d5.trans q))).1) (fun z => by rw [e51, e52]; exact (hb0 (d5.symm.trans z)).2) c329 (by first | exact ⟨by decide, by decide⟩ | exact hch) (by rw [s5]; omega) (by rw [sG5]; omega) _) (cwV 4 F.1.2.2.2.2 (mgV (mm_12 _ (List.mem_of_getElem? (i := 32) rfl)) (mm_12 _ (List.mem_of_getElem? (i := 33) rfl)) (mm_12 _ (List.mem_of_getElem? (i := 34) rfl)) (mm_3 _ (List.mem_of_getElem? (i := 23) rfl)) (mm_12 _ (List.mem_of_getElem? (i := 4) rfl))) rfl rfl rfl ⟨rfl, by decide, by decide, by decide +kernel⟩ ⟨Nat.le_of_ble_eq_true rfl, Nat.le_of_ble_eq_true rfl⟩) rfl rfl (by decide) rfl hl.1 rfl (Nat.le_of_ble_eq_true rfl) dX14_does_340 (Nat.le_of_ble_eq_true rfl) (Nat.add_le_add_right (Nat.le_of_ble_eq_true rfl) _) (inv_A hI322) (fun H locs v σ340 N hBn hX340 hP => ?_)
                          clear hB; have hB := hBn; clear hBn
                          obtain ⟨⟨y340, rfl, hy340⟩, hI340⟩ := hP
                          refine lv_goto (tgt := 379) hx hb dX14_does_343 (by decide) ?_
                          exact sg_iretd F hB hrt dX14_does_379 (by decide) (by decide) (fun z => by first | (rcases hy340 with q | q <;> (rw [q] at z; exact absurd z (by decide))) | (rcases hy362 with q | q <;> (rw [q] at z; exact absurd z (by decide))) | (rcases hy376 with q | q <;> (rw [q] at z; exact absurd z (by decide)))) (by first | exact ⟨_, hw2, rfl, hI340, Or.inr ⟨hy340, by omega⟩⟩ | exact ⟨_, hw2, rfl, hI340, Or.inr ⟨hy362, by omega⟩⟩ | exact ⟨_, hw2, rfl, hI340, Or.inr ⟨hy376, by omega⟩⟩)
                  · refine lv_iload hx hb dX14_does_187 (lv_at hl 0 rfl) ?_
                    refine lv_aload_n hx hb dX14_does_189 rfl (lv_at hl 7 rfl) ?_
                    refine gr_X14_45 F hB dX14_does_190 (inv_A h) (inv_r12 h) ?_
                    refine lv_iload hx hb dX14_does_193 (lv_at hl 1 rfl) ?_
                    refine sg_iald hx hb F.2.1 hB.1 dX14_does_195 (inv_tH h).1 (by omega) (m_ltN (n := 16) (inv_tH h).2 (by omega)) (m_ltM (inv_tH h).2 (by decide)) ?_
                    refine lv_icmp_le (tgt := 201) hx hb dX14_does_196 (by decide) (fun c196 => ?_) (fun c196 => ?_)
                    · have hle9 := i_nlt c179
                      refine lv_aload_n hx hb dX14_does_201 rfl (lv_at hl 7 rfl) ?_
                      refine lv_dup hx hb dX14_does_202 rfl ?_
                      refine gf_X14_42 F hB dX14_does_203 (inv_A h) ?_
                      refine lv_iload hx hb dX14_does_206 (lv_at hl 2 rfl) ?_
                      refine sg_callS F hB (m_hostCost l D cy _ _) (cwS 1 F.1.2.2.2.2 (mgS (mm_8 _ (List.mem_of_getElem? (i := 19) rfl)) (mm_8 _ (List.mem_of_getElem? (i := 20) rfl)) (mm_3 _ (List.mem_of_getElem? (i := 23) rfl)) (mm_8 _ (List.mem_of_getElem? (i := 10) rfl))) rfl rfl rfl ⟨rfl, by decide, by decide, by decide +kernel⟩ ⟨Nat.le_of_ble_eq_true rfl, Nat.le_of_ble_eq_true rfl⟩) rfl hl.1 rfl (Nat.le_of_ble_eq_true rfl) dX14_does_208 (Nat.le_of_ble_eq_true rfl) (Nat.add_le_add_right (Nat.le_of_ble_eq_true rfl) _)  (fun H locs v σ208 N hBn hX208 hP => ?_)
                      clear hB; have hB := hBn; clear hBn
                      obtain ⟨rfl, rfl⟩ := hP
                      refine lv_isub hx hb dX14_does_211 ?_
                      refine pf_X14_42 F hB dX14_does_212 (inv_A h) (fun H locs hBn => ?_)
                      clear hB; have hB := hBn; clear hBn
                      obtain ⟨hw2, hh2⟩ : ∃ hw2 : Nat, (hw2 : Int) = hw - 2 - sn.toInt := ⟨(hw - 2 - sn.toInt).toNat, by rw [m_hcv hsn.1.1 hsn.1.2] at hle9; omega⟩
                      have hI212 := inv_hlB hB h (m_hlv hwe hw100 hsn.1.1 hsn.1.2 hh2) (by omega)
                      refine lv_aload_n hx hb dX14_does_215 rfl (lv_at hl 7 rfl) ?_
                      refine lv_dup hx hb dX14_does_216 rfl ?_
                      refine gf_X14_347 F hB dX14_does_217 (inv_A hI212) ?_
                      refine lv_iload hx hb dX14_does_220 (lv_at hl 2 rfl) ?_
                      refine sg_callS F hB (m_hostCost l D cy _ _) (cwS 1 F.1.2.2.2.2 (mgS (mm_8 _ (List.mem_of_getElem? (i := 19) rfl)) (mm_8 _ (List.mem_of_getElem? (i := 20) rfl)) (mm_3 _ (List.mem_of_getElem? (i := 23) rfl)) (mm_8 _ (List.mem_of_getElem? (i := 10) rfl))) rfl rfl rfl ⟨rfl, by decide, by decide, by decide +kernel⟩ ⟨Nat.le_of_ble_eq_true rfl, Nat.le_of_ble_eq_true rfl⟩) rfl hl.1 rfl (Nat.le_of_ble_eq_true rfl) dX14_does_222 (Nat.le_of_ble_eq_true rfl) (Nat.add_le_add_right (Nat.le_of_ble_eq_true rfl) _)  (fun H locs v σ222 N hBn hX222 hP => ?_)
                      clear hB; have hB := hBn; clear hBn
                      obtain ⟨rfl, rfl⟩ := hP
                      refine lv_i2l hx hb dX14_does_225 rfl ?_
                      refine lv_ladd hx hb dX14_does_226 ?_
                      refine pf_X14_347 F hB dX14_does_227 (inv_A hI212) (fun H locs hBn => ?_)
                      clear hB; have hB := hBn; clear hBn
                      have hI227 := inv_PJc hB hI212
                      refine lv_aload_n hx hb dX14_does_230 rfl (lv_at hl 7 rfl) ?_
                      refine gr_X14_45 F hB dX14_does_231 (inv_A hI227) (inv_r12 hI227) ?_
                      refine lv_iload hx hb dX14_does_234 (lv_at hl 1 rfl) ?_
                      refine lv_dup2_11 hx hb dX14_does_236 rfl rfl ?_
                      refine sg_iald hx hb F.2.1 hB.1 dX14_does_237 (inv_tH hI227).1 (by omega) (m_ltN (n := 16) (inv_tH hI227).2 (by omega)) (m_ltM (inv_tH hI227).2 (by decide)) ?_
                      refine lv_iload hx hb dX14_does_238 (lv_at hl 0 rfl) ?_
                      refine lv_isub hx hb dX14_does_240 ?_
                      refine sg_iast hx hb F.2.1 hB.1 dX14_does_241 (inv_tH hI227).1 (by omega) (m_ltN (n := 16) (inv_tH hI227).2 (by omega)) (m_ltM (inv_tH hI227).2 (by decide)) (fun H locs hs1 => ?_)
                      have hBn := sgB_w hB hs1 (fun _ => rfl) (fun _ => rfl) (Nat.le_of_eq (sgPot_I (Or.inl (by rw [show sgT _ _ = _ from (inv_tH hI227).1]; decide))))
                      clear hB; have hB := hBn; clear hBn
                      have hI241 := inv_PIc (t := 100) hB hI227 (inv_tH hI227).1 (by unfold iCn; omega)
                      refine lv_aload_n hx hb dX14_does_242 rfl (lv_at hl 7 rfl) ?_
                      refine lv_dup hx hb dX14_does_243 rfl ?_
                      refine gf_X14_163 F hB dX14_does_244 (inv_A hI241) ?_
                      refine lv_iconst (v := 1) hx hb dX14_does_247 (by decide) ?_
                      refine lv_iadd hx hb dX14_does_248 ?_
                      refine pf_X14_163 F hB dX14_does_249 (inv_A hI241) (fun H locs hBn => ?_)
                      clear hB; have hB := hBn; clear hBn
                      have hI249 := inv_PIc (t := 20) hB hI241 (inv_A hI241) (by unfold iCn; omega)
                      have Zc := zz4 (l1 := l1) hB (inv_A h) (inv_tH h).1 tl
                      have ZL := zz4 (l1 := le) hB (inv_A h) (inv_tH h).1 tle
                      have ZG := zz4 (l1 := kG K) hB (inv_A h) (inv_tH h).1 (inv_tG h).1
                      obtain ⟨ee, ff, lf, en1, en2, en3, en4, en5, en6, en7, en8, en9⟩ := inv_ends h (k := (sgI σ b5 0).toInt.toNat) (by omega)
                      refine lv_aload_n hx hb dX14_does_252 rfl (lv_at hl 7 rfl) ?_
                      refine gr_X14_10 F hB dX14_does_253 (inv_A hI249) (inv_r1 hI249) ?_
                      refine lv_aload_n hx hb dX14_does_256 rfl (lv_at hl 6 rfl) ?_
                      refine gf_X14_133 F hB dX14_does_257 (by exact tp) ?_
                      rw [Zc.2.2.1 b5 0 tp (by decide)]
                      refine sg_callV (ci := 4) F hB (m_getD l D cy hI249 (sgI σ b5 0) (by omega) (by omega) _) (cwV 1 F.1.2.2.2.2 (mgV (mm_4 _ (List.mem_of_getElem? (i := 3) rfl)) (mm_4 _ (List.mem_of_getElem? (i := 4) rfl)) (mm_4 _ (List.mem_of_getElem? (i := 5) rfl)) (mm_0 _ (List.mem_of_getElem? (i := 35) rfl)) (mm_3 _ (List.mem_of_getElem? (i := 34) rfl))) rfl rfl rfl ⟨rfl, by decide, by decide, by decide +kernel⟩ ⟨Nat.le_of_ble_eq_true rfl, Nat.le_of_ble_eq_true rfl⟩) rfl rfl (by decide) rfl hl.1 rfl (Nat.le_of_ble_eq_true rfl) dX14_does_260 (Nat.le_of_ble_eq_true rfl) (Nat.add_le_add_right (Nat.le_of_ble_eq_true rfl) _) (inv_tD hI249).1 (fun H locs v σ260 N hBn hX260 hP => ?_)
                      clear hB; have hB := hBn; clear hBn
                      obtain ⟨rfl, rfl⟩ := hP
                      have dv260 := (inv_dv hI249 (k := ((sgI σ b5 0) : Int32).toInt.toNat) (by omega)).2.1
                      refine va_castY hx hb hown (F.1.2.2.2.2 _ (List.mem_cons_of_mem _ (mm_4 _ (List.mem_of_getElem? (i := 2) rfl)))) (F.2.2.1.2.2 ("HubcascadeModel$Device", "HubcascadeModel$Device") (by decide +kernel)) (sg_recv (ci := 15) F.2.1 hB (by assumption) (by decide) rfl) dX14_does_263 ?_
                      refine lv_astore (lv' := [(9, .ref _), (8, .int _), (7, .int _), (6, .int _), (5, .int _), (4, .ref _), (3, .int _), (2, .ref _), (0, .ref _), (1, .int _)]) hx hb dX14_does_266 hl (by decide) rfl (fun ls hl => ?_)
                      refine lv_aload hx hb dX14_does_268 (lv_at hl 0 rfl) ?_
                      refine gr_X14_166 F hB dX14_does_270 dv260 (by exact en3) ?_
                      refine lv_aload_n hx hb dX14_does_273 rfl (lv_at hl 7 rfl) ?_
                      refine gf_X14_235 F hB dX14_does_274 (by exact tp) ?_
                      rw [Zc.2.2.1 b5 1 tp (by decide)]
                      refine sg_iald hx hb F.2.1 hB.1 dX14_does_277 (by exact en8) (by omega) (m_ltN en9 (by omega)) (m_ltM en9 (by decide)) ?_
                      refine lv_if_le (tgt := 294) hx hb dX14_does_278 (by decide) (fun c278 => ?_) (fun c278 => ?_)
                      · refine lv_bipush (v := 32) hx hb dX14_does_294 (by decide) ?_
                        refine lv_istore (lv' := [(10, .int _), (9, .ref _), (8, .int _), (7, .int _), (6, .int _), (5, .int _), (4, .ref _), (3, .int _), (2, .ref _), (0, .ref _), (1, .int _)]) hx hb dX14_does_296 hl (by decide) rfl (fun ls hl => ?_)
                        refine lv_aload hx hb dX14_does_298 (lv_at hl 1 rfl) ?_
                        refine gr_X14_166 F hB dX14_does_300 dv260 (by exact en3) ?_
                        refine lv_aload_n hx hb dX14_does_303 rfl (lv_at hl 8 rfl) ?_
                        refine gf_X14_235 F hB dX14_does_304 (by exact tp) ?_
                        rw [Zc.2.2.1 b5 1 tp (by decide)]
                        refine lv_dup2_11 hx hb dX14_does_307 rfl rfl ?_
                        refine sg_iald hx hb F.2.1 hB.1 dX14_does_308 (by exact en8) (by omega) (m_ltN en9 (by omega)) (m_ltM en9 (by decide)) ?_
                        refine lv_iload hx hb dX14_does_309 (lv_at hl 0 rfl) ?_
                        refine lv_bipush (v := 32) hx hb dX14_does_311 (by decide) ?_
                        refine lv_icmp_ne (tgt := 320) hx hb dX14_does_313 (by decide) (fun c313 => (by first | exact absurd c313 (by decide) | exact (c313 (by decide)).elim)) (fun c313 => ?_)
                        refine lv_iconst (v := 0) hx hb dX14_does_316 (by decide) ?_
                        refine lv_goto (tgt := 321) hx hb dX14_does_317 (by decide) ?_
                        refine lv_isub hx hb dX14_does_321 ?_
                        refine sg_iast hx hb F.2.1 hB.1 dX14_does_322 (by exact en8) (by omega) (m_ltN en9 (by omega)) (m_ltM en9 (by decide)) (fun H locs hs1 => ?_)
                        have hBn := sgB_w hB hs1 (fun _ => rfl) (fun _ => rfl) (Nat.le_of_eq (sgPot_I (Or.inl (by rw [show sgT _ _ = _ from (by exact en8)]; decide))))
                        clear hB; have hB := hBn; clear hBn
                        have hI322 := inv_PIc (t := 100) hB hI249 (by exact en8) (by unfold iCn; omega)
                        have Z5 := zz5 hB Zc (by exact en8) (by exact tl)
                        have Z5L := zz5 hB ZL (by exact en8) (by exact tle)
                        have Z5G := zz5 hB ZG (by exact en8) (by exact (inv_tG h).1)
                        have wZ := wPp_z h w Z5
                        have s5 := Z5L.2.2.2.2.2.1
                        have sG5 := Z5G.2.2.2.2.2.1
                        have d5 := Z5.2.2.2.1 xe 0 txe (by decide)
                        have e51 := Z5.2.1 t0 1 tt
                        have e52 := Z5.2.1 t0 2 tt
                        have qG := (inv_szG h).2
                        have qL := (inv_el h txe).elim (fun l0 q => (Option.some.inj (q.1.symm.trans w.2.2.2.2.2.2.1)) ▸ q.2.2.2.2.2)
                        refine lv_aload_n hx hb dX14_does_323 rfl (lv_at hl 8 rfl) ?_
                        refine gf_X14_350 F hB dX14_does_324 (by exact tp) ?_
                        refine lv_bipush (v := 115) hx hb dX14_does_327 (by decide) ?_
                        refine lv_icmp_ne (tgt := 346) hx hb dX14_does_329 (by decide) (fun c329 => ?_) (fun c329 => ?_)
                        · refine lv_aload hx hb dX14_does_346 (lv_at hl 6 rfl) ?_
                          refine gf_X14_300 F hB dX14_does_348 (by exact txe) ?_
                          refine lv_if_eq (tgt := 368) hx hb dX14_does_351 (by decide) (fun c351 => ?_) (fun c351 => ?_)
                          · refine lv_aload_n hx hb dX14_does_368 rfl (lv_at hl 9 rfl) ?_
                            refine lv_iload_n hx hb dX14_does_369 rfl (lv_at hl 10 rfl) ?_
                            refine lv_aload hx hb dX14_does_370 (lv_at hl 6 rfl) ?_
                            refine lv_iload hx hb dX14_does_372 (lv_at hl 5 rfl) ?_
                            refine lv_iload hx hb dX14_does_374 (lv_at hl 0 rfl) ?_
                            refine sg_callV (ci := 19) F hB (m_goes l D cy hI322 hY x wZ b122 _ ⟨(hb0 (d5.symm.trans c351)).1, hb122.2⟩ (by rw [e51, e52]; exact (hb0 (d5.symm.trans c351)).2) c351 (by first | exact ⟨by decide, by decide⟩ | exact hch) (by rw [s5]; omega) _) (cwV 4 F.1.2.2.2.2 (mgV (mm_12 _ (List.mem_of_getElem? (i := 38) rfl)) (mm_12 _ (List.mem_of_getElem? (i := 39) rfl)) (mm_13 _ (List.mem_of_getElem? (i := 0) rfl)) (mm_3 _ (List.mem_of_getElem? (i := 23) rfl)) (mm_12 _ (List.mem_of_getElem? (i := 27) rfl))) rfl rfl rfl ⟨rfl, by decide, by decide, by decide +kernel⟩ ⟨Nat.le_of_ble_eq_true rfl, Nat.le_of_ble_eq_true rfl⟩) rfl rfl (by decide) rfl hl.1 rfl (Nat.le_of_ble_eq_true rfl) dX14_does_376 (Nat.le_of_ble_eq_true rfl) (Nat.add_le_add_right (Nat.le_of_ble_eq_true rfl) _) (inv_A hI322) (fun H locs v σ376 N hBn hX376 hP => ?_)
                            clear hB; have hB := hBn; clear hBn
                            obtain ⟨⟨y376, rfl, hy376⟩, hI376⟩ := hP
                            exact sg_iretd F hB hrt dX14_does_379 (by decide) (by decide) (fun z => by first | (rcases hy340 with q | q <;> (rw [q] at z; exact absurd z (by decide))) | (rcases hy362 with q | q <;> (rw [q] at z; exact absurd z (by decide))) | (rcases hy376 with q | q <;> (rw [q] at z; exact absurd z (by decide)))) (by first | exact ⟨_, hw2, rfl, hI376, Or.inr ⟨hy340, by omega⟩⟩ | exact ⟨_, hw2, rfl, hI376, Or.inr ⟨hy362, by omega⟩⟩ | exact ⟨_, hw2, rfl, hI376, Or.inr ⟨hy376, by omega⟩⟩)
                          · refine lv_aload_n hx hb dX14_does_354 rfl (lv_at hl 9 rfl) ?_
                            refine lv_iload_n hx hb dX14_does_355 rfl (lv_at hl 10 rfl) ?_
                            refine lv_aload hx hb dX14_does_356 (lv_at hl 6 rfl) ?_
                            refine lv_iload hx hb dX14_does_358 (lv_at hl 5 rfl) ?_
                            refine lv_iload hx hb dX14_does_360 (lv_at hl 0 rfl) ?_
                            refine sg_callV (ci := 19) F hB (m_comes l D cy hI322 hY x wZ b122 _ hb122 (by rw [s5]; exact (hb1 (fun q => c351 (d5.trans q))).1) c351 c329 (by first | exact ⟨by decide, by decide⟩ | exact hch) (by rw [sG5]; omega) _) (cwV 4 F.1.2.2.2.2 (mgV (mm_12 _ (List.mem_of_getElem? (i := 35) rfl)) (mm_12 _ (List.mem_of_getElem? (i := 36) rfl)) (mm_12 _ (List.mem_of_getElem? (i := 37) rfl)) (mm_3 _ (List.mem_of_getElem? (i := 23) rfl)) (mm_12 _ (List.mem_of_getElem? (i := 26) rfl))) rfl rfl rfl ⟨rfl, by decide, by decide, by decide +kernel⟩ ⟨Nat.le_of_ble_eq_true rfl, Nat.le_of_ble_eq_true rfl⟩) rfl rfl (by decide) rfl hl.1 rfl (Nat.le_of_ble_eq_true rfl) dX14_does_362 (Nat.le_of_ble_eq_true rfl) (Nat.add_le_add_right (Nat.le_of_ble_eq_true rfl) _) (inv_A hI322) (fun H locs v σ362 N hBn hX362 hP => ?_)
                            clear hB; have hB := hBn; clear hBn
                            obtain ⟨⟨y362, rfl, hy362⟩, hI362⟩ := hP
                            refine lv_goto (tgt := 379) hx hb dX14_does_365 (by decide) ?_
                            exact sg_iretd F hB hrt dX14_does_379 (by decide) (by decide) (fun z => by first | (rcases hy340 with q | q <;> (rw [q] at z; exact absurd z (by decide))) | (rcases hy362 with q | q <;> (rw [q] at z; exact absurd z (by decide))) | (rcases hy376 with q | q <;> (rw [q] at z; exact absurd z (by decide)))) (by first | exact ⟨_, hw2, rfl, hI362, Or.inr ⟨hy340, by omega⟩⟩ | exact ⟨_, hw2, rfl, hI362, Or.inr ⟨hy362, by omega⟩⟩ | exact ⟨_, hw2, rfl, hI362, Or.inr ⟨hy376, by omega⟩⟩)
                        · refine lv_aload_n hx hb dX14_does_332 rfl (lv_at hl 9 rfl) ?_
                          refine lv_iload_n hx hb dX14_does_333 rfl (lv_at hl 10 rfl) ?_
                          refine lv_aload hx hb dX14_does_334 (lv_at hl 6 rfl) ?_
                          refine lv_iload hx hb dX14_does_336 (lv_at hl 5 rfl) ?_
                          refine lv_iload hx hb dX14_does_338 (lv_at hl 0 rfl) ?_
                          refine sg_callV (ci := 19) F hB (m_sounds l D cy hI322 hY x wZ b122 _ hb122 (fun z => by rw [s5]; exact (hb1 (fun q => z (d5.trans q))).1) (fun z => by rw [e51, e52]; exact (hb0 (d5.symm.trans z)).2) c329 (by first | exact ⟨by decide, by decide⟩ | exact hch) (by rw [s5]; omega) (by rw [sG5]; omega) _) (cwV 4 F.1.2.2.2.2 (mgV (mm_12 _ (List.mem_of_getElem? (i := 32) rfl)) (mm_12 _ (List.mem_of_getElem? (i := 33) rfl)) (mm_12 _ (List.mem_of_getElem? (i := 34) rfl)) (mm_3 _ (List.mem_of_getElem? (i := 23) rfl)) (mm_12 _ (List.mem_of_getElem? (i := 4) rfl))) rfl rfl rfl ⟨rfl, by decide, by decide, by decide +kernel⟩ ⟨Nat.le_of_ble_eq_true rfl, Nat.le_of_ble_eq_true rfl⟩) rfl rfl (by decide) rfl hl.1 rfl (Nat.le_of_ble_eq_true rfl) dX14_does_340 (Nat.le_of_ble_eq_true rfl) (Nat.add_le_add_right (Nat.le_of_ble_eq_true rfl) _) (inv_A hI322) (fun H locs v σ340 N hBn hX340 hP => ?_)
                          clear hB; have hB := hBn; clear hBn
                          obtain ⟨⟨y340, rfl, hy340⟩, hI340⟩ := hP
                          refine lv_goto (tgt := 379) hx hb dX14_does_343 (by decide) ?_
                          exact sg_iretd F hB hrt dX14_does_379 (by decide) (by decide) (fun z => by first | (rcases hy340 with q | q <;> (rw [q] at z; exact absurd z (by decide))) | (rcases hy362 with q | q <;> (rw [q] at z; exact absurd z (by decide))) | (rcases hy376 with q | q <;> (rw [q] at z; exact absurd z (by decide)))) (by first | exact ⟨_, hw2, rfl, hI340, Or.inr ⟨hy340, by omega⟩⟩ | exact ⟨_, hw2, rfl, hI340, Or.inr ⟨hy362, by omega⟩⟩ | exact ⟨_, hw2, rfl, hI340, Or.inr ⟨hy376, by omega⟩⟩)
                      · refine lv_aload hx hb dX14_does_281 (lv_at hl 0 rfl) ?_
                        refine gr_X14_334 F hB dX14_does_283 dv260 (by exact en2) ?_
                        refine lv_aload_n hx hb dX14_does_286 rfl (lv_at hl 7 rfl) ?_
                        refine gf_X14_235 F hB dX14_does_287 (by exact tp) ?_
                        rw [Zc.2.2.1 b5 1 tp (by decide)]
                        refine sg_cald hx hb F.2.1 hB.1 dX14_does_290 (by exact en6) (by omega) (m_ltN en7 (by omega)) (m_ltM en7 (by decide)) ?_
                        have hch := hB.1.1.2.2.1 ff (sgI σ b5 1).toInt.toNat (by exact en6)
                        refine lv_goto (tgt := 296) hx hb dX14_does_291 (by decide) ?_
                        refine lv_istore (lv' := [(10, .int _), (9, .ref _), (8, .int _), (7, .int _), (6, .int _), (5, .int _), (4, .ref _), (3, .int _), (2, .ref _), (0, .ref _), (1, .int _)]) hx hb dX14_does_296 hl (by decide) rfl (fun ls hl => ?_)
                        refine lv_aload hx hb dX14_does_298 (lv_at hl 1 rfl) ?_
                        refine gr_X14_166 F hB dX14_does_300 dv260 (by exact en3) ?_
                        refine lv_aload_n hx hb dX14_does_303 rfl (lv_at hl 8 rfl) ?_
                        refine gf_X14_235 F hB dX14_does_304 (by exact tp) ?_
                        rw [Zc.2.2.1 b5 1 tp (by decide)]
                        refine lv_dup2_11 hx hb dX14_does_307 rfl rfl ?_
                        refine sg_iald hx hb F.2.1 hB.1 dX14_does_308 (by exact en8) (by omega) (m_ltN en9 (by omega)) (m_ltM en9 (by decide)) ?_
                        refine lv_iload hx hb dX14_does_309 (lv_at hl 0 rfl) ?_
                        refine lv_bipush (v := 32) hx hb dX14_does_311 (by decide) ?_
                        refine lv_icmp_ne (tgt := 320) hx hb dX14_does_313 (by decide) (fun c313 => ?_) (fun c313 => ?_)
                        · refine lv_iconst (v := 1) hx hb dX14_does_320 (by decide) ?_
                          refine lv_isub hx hb dX14_does_321 ?_
                          refine sg_iast hx hb F.2.1 hB.1 dX14_does_322 (by exact en8) (by omega) (m_ltN en9 (by omega)) (m_ltM en9 (by decide)) (fun H locs hs1 => ?_)
                          have hBn := sgB_w hB hs1 (fun _ => rfl) (fun _ => rfl) (Nat.le_of_eq (sgPot_I (Or.inl (by rw [show sgT _ _ = _ from (by exact en8)]; decide))))
                          clear hB; have hB := hBn; clear hBn
                          have hI322 := inv_PIc (t := 100) hB hI249 (by exact en8) (by unfold iCn; omega)
                          have Z5 := zz5 hB Zc (by exact en8) (by exact tl)
                          have Z5L := zz5 hB ZL (by exact en8) (by exact tle)
                          have Z5G := zz5 hB ZG (by exact en8) (by exact (inv_tG h).1)
                          have wZ := wPp_z h w Z5
                          have s5 := Z5L.2.2.2.2.2.1
                          have sG5 := Z5G.2.2.2.2.2.1
                          have d5 := Z5.2.2.2.1 xe 0 txe (by decide)
                          have e51 := Z5.2.1 t0 1 tt
                          have e52 := Z5.2.1 t0 2 tt
                          have qG := (inv_szG h).2
                          have qL := (inv_el h txe).elim (fun l0 q => (Option.some.inj (q.1.symm.trans w.2.2.2.2.2.2.1)) ▸ q.2.2.2.2.2)
                          refine lv_aload_n hx hb dX14_does_323 rfl (lv_at hl 8 rfl) ?_
                          refine gf_X14_350 F hB dX14_does_324 (by exact tp) ?_
                          refine lv_bipush (v := 115) hx hb dX14_does_327 (by decide) ?_
                          refine lv_icmp_ne (tgt := 346) hx hb dX14_does_329 (by decide) (fun c329 => ?_) (fun c329 => ?_)
                          · refine lv_aload hx hb dX14_does_346 (lv_at hl 6 rfl) ?_
                            refine gf_X14_300 F hB dX14_does_348 (by exact txe) ?_
                            refine lv_if_eq (tgt := 368) hx hb dX14_does_351 (by decide) (fun c351 => ?_) (fun c351 => ?_)
                            · refine lv_aload_n hx hb dX14_does_368 rfl (lv_at hl 9 rfl) ?_
                              refine lv_iload_n hx hb dX14_does_369 rfl (lv_at hl 10 rfl) ?_
                              refine lv_aload hx hb dX14_does_370 (lv_at hl 6 rfl) ?_
                              refine lv_iload hx hb dX14_does_372 (lv_at hl 5 rfl) ?_
                              refine lv_iload hx hb dX14_does_374 (lv_at hl 0 rfl) ?_
                              refine sg_callV (ci := 19) F hB (m_goes l D cy hI322 hY x wZ b122 _ ⟨(hb0 (d5.symm.trans c351)).1, hb122.2⟩ (by rw [e51, e52]; exact (hb0 (d5.symm.trans c351)).2) c351 (by first | exact ⟨by decide, by decide⟩ | exact hch) (by rw [s5]; omega) _) (cwV 4 F.1.2.2.2.2 (mgV (mm_12 _ (List.mem_of_getElem? (i := 38) rfl)) (mm_12 _ (List.mem_of_getElem? (i := 39) rfl)) (mm_13 _ (List.mem_of_getElem? (i := 0) rfl)) (mm_3 _ (List.mem_of_getElem? (i := 23) rfl)) (mm_12 _ (List.mem_of_getElem? (i := 27) rfl))) rfl rfl rfl ⟨rfl, by decide, by decide, by decide +kernel⟩ ⟨Nat.le_of_ble_eq_true rfl, Nat.le_of_ble_eq_true rfl⟩) rfl rfl (by decide) rfl hl.1 rfl (Nat.le_of_ble_eq_true rfl) dX14_does_376 (Nat.le_of_ble_eq_true rfl) (Nat.add_le_add_right (Nat.le_of_ble_eq_true rfl) _) (inv_A hI322) (fun H locs v σ376 N hBn hX376 hP => ?_)
                              clear hB; have hB := hBn; clear hBn
                              obtain ⟨⟨y376, rfl, hy376⟩, hI376⟩ := hP
                              exact sg_iretd F hB hrt dX14_does_379 (by decide) (by decide) (fun z => by first | (rcases hy340 with q | q <;> (rw [q] at z; exact absurd z (by decide))) | (rcases hy362 with q | q <;> (rw [q] at z; exact absurd z (by decide))) | (rcases hy376 with q | q <;> (rw [q] at z; exact absurd z (by decide)))) (by first | exact ⟨_, hw2, rfl, hI376, Or.inr ⟨hy340, by omega⟩⟩ | exact ⟨_, hw2, rfl, hI376, Or.inr ⟨hy362, by omega⟩⟩ | exact ⟨_, hw2, rfl, hI376, Or.inr ⟨hy376, by omega⟩⟩)
                            · refine lv_aload_n hx hb dX14_does_354 rfl (lv_at hl 9 rfl) ?_
                              refine lv_iload_n hx hb dX14_does_355 rfl (lv_at hl 10 rfl) ?_
                              refine lv_aload hx hb dX14_does_356 (lv_at hl 6 rfl) ?_
                              refine lv_iload hx hb dX14_does_358 (lv_at hl 5 rfl) ?_
                              refine lv_iload hx hb dX14_does_360 (lv_at hl 0 rfl) ?_
                              refine sg_callV (ci := 19) F hB (m_comes l D cy hI322 hY x wZ b122 _ hb122 (by rw [s5]; exact (hb1 (fun q => c351 (d5.trans q))).1) c351 c329 (by first | exact ⟨by decide, by decide⟩ | exact hch) (by rw [sG5]; omega) _) (cwV 4 F.1.2.2.2.2 (mgV (mm_12 _ (List.mem_of_getElem? (i := 35) rfl)) (mm_12 _ (List.mem_of_getElem? (i := 36) rfl)) (mm_12 _ (List.mem_of_getElem? (i := 37) rfl)) (mm_3 _ (List.mem_of_getElem? (i := 23) rfl)) (mm_12 _ (List.mem_of_getElem? (i := 26) rfl))) rfl rfl rfl ⟨rfl, by decide, by decide, by decide +kernel⟩ ⟨Nat.le_of_ble_eq_true rfl, Nat.le_of_ble_eq_true rfl⟩) rfl rfl (by decide) rfl hl.1 rfl (Nat.le_of_ble_eq_true rfl) dX14_does_362 (Nat.le_of_ble_eq_true rfl) (Nat.add_le_add_right (Nat.le_of_ble_eq_true rfl) _) (inv_A hI322) (fun H locs v σ362 N hBn hX362 hP => ?_)
                              clear hB; have hB := hBn; clear hBn
                              obtain ⟨⟨y362, rfl, hy362⟩, hI362⟩ := hP
                              refine lv_goto (tgt := 379) hx hb dX14_does_365 (by decide) ?_
                              exact sg_iretd F hB hrt dX14_does_379 (by decide) (by decide) (fun z => by first | (rcases hy340 with q | q <;> (rw [q] at z; exact absurd z (by decide))) | (rcases hy362 with q | q <;> (rw [q] at z; exact absurd z (by decide))) | (rcases hy376 with q | q <;> (rw [q] at z; exact absurd z (by decide)))) (by first | exact ⟨_, hw2, rfl, hI362, Or.inr ⟨hy340, by omega⟩⟩ | exact ⟨_, hw2, rfl, hI362, Or.inr ⟨hy362, by omega⟩⟩ | exact ⟨_, hw2, rfl, hI362, Or.inr ⟨hy376, by omega⟩⟩)
                          · refine lv_aload_n hx hb dX14_does_332 rfl (lv_at hl 9 rfl) ?_
                            refine lv_iload_n hx hb dX14_does_333 rfl (lv_at hl 10 rfl) ?_
                            refine lv_aload hx hb dX14_does_334 (lv_at hl 6 rfl) ?_
                            refine lv_iload hx hb dX14_does_336 (lv_at hl 5 rfl) ?_
                            refine lv_iload hx hb dX14_does_338 (lv_at hl 0 rfl) ?_
                            refine sg_callV (ci := 19) F hB (m_sounds l D cy hI322 hY x wZ b122 _ hb122 (fun z => by rw [s5]; exact (hb1 (fun q => z (d5.trans q))).1) (fun z => by rw [e51, e52]; exact (hb0 (d5.symm.trans z)).2) c329 (by first | exact ⟨by decide, by decide⟩ | exact hch) (by rw [s5]; omega) (by rw [sG5]; omega) _) (cwV 4 F.1.2.2.2.2 (mgV (mm_12 _ (List.mem_of_getElem? (i := 32) rfl)) (mm_12 _ (List.mem_of_getElem? (i := 33) rfl)) (mm_12 _ (List.mem_of_getElem? (i := 34) rfl)) (mm_3 _ (List.mem_of_getElem? (i := 23) rfl)) (mm_12 _ (List.mem_of_getElem? (i := 4) rfl))) rfl rfl rfl ⟨rfl, by decide, by decide, by decide +kernel⟩ ⟨Nat.le_of_ble_eq_true rfl, Nat.le_of_ble_eq_true rfl⟩) rfl rfl (by decide) rfl hl.1 rfl (Nat.le_of_ble_eq_true rfl) dX14_does_340 (Nat.le_of_ble_eq_true rfl) (Nat.add_le_add_right (Nat.le_of_ble_eq_true rfl) _) (inv_A hI322) (fun H locs v σ340 N hBn hX340 hP => ?_)
                            clear hB; have hB := hBn; clear hBn
                            obtain ⟨⟨y340, rfl, hy340⟩, hI340⟩ := hP
                            refine lv_goto (tgt := 379) hx hb dX14_does_343 (by decide) ?_
                            exact sg_iretd F hB hrt dX14_does_379 (by decide) (by decide) (fun z => by first | (rcases hy340 with q | q <;> (rw [q] at z; exact absurd z (by decide))) | (rcases hy362 with q | q <;> (rw [q] at z; exact absurd z (by decide))) | (rcases hy376 with q | q <;> (rw [q] at z; exact absurd z (by decide)))) (by first | exact ⟨_, hw2, rfl, hI340, Or.inr ⟨hy340, by omega⟩⟩ | exact ⟨_, hw2, rfl, hI340, Or.inr ⟨hy362, by omega⟩⟩ | exact ⟨_, hw2, rfl, hI340, Or.inr ⟨hy376, by omega⟩⟩)
                        · refine lv_iconst (v := 0) hx hb dX14_does_316 (by decide) ?_
                          refine lv_goto (tgt := 321) hx hb dX14_does_317 (by decide) ?_
                          refine lv_isub hx hb dX14_does_321 ?_
                          refine sg_iast hx hb F.2.1 hB.1 dX14_does_322 (by exact en8) (by omega) (m_ltN en9 (by omega)) (m_ltM en9 (by decide)) (fun H locs hs1 => ?_)
                          have hBn := sgB_w hB hs1 (fun _ => rfl) (fun _ => rfl) (Nat.le_of_eq (sgPot_I (Or.inl (by rw [show sgT _ _ = _ from (by exact en8)]; decide))))
                          clear hB; have hB := hBn; clear hBn
                          have hI322 := inv_PIc (t := 100) hB hI249 (by exact en8) (by unfold iCn; omega)
                          have Z5 := zz5 hB Zc (by exact en8) (by exact tl)
                          have Z5L := zz5 hB ZL (by exact en8) (by exact tle)
                          have Z5G := zz5 hB ZG (by exact en8) (by exact (inv_tG h).1)
                          have wZ := wPp_z h w Z5
                          have s5 := Z5L.2.2.2.2.2.1
                          have sG5 := Z5G.2.2.2.2.2.1
                          have d5 := Z5.2.2.2.1 xe 0 txe (by decide)
                          have e51 := Z5.2.1 t0 1 tt
                          have e52 := Z5.2.1 t0 2 tt
                          have qG := (inv_szG h).2
                          have qL := (inv_el h txe).elim (fun l0 q => (Option.some.inj (q.1.symm.trans w.2.2.2.2.2.2.1)) ▸ q.2.2.2.2.2)
                          refine lv_aload_n hx hb dX14_does_323 rfl (lv_at hl 8 rfl) ?_
                          refine gf_X14_350 F hB dX14_does_324 (by exact tp) ?_
                          refine lv_bipush (v := 115) hx hb dX14_does_327 (by decide) ?_
                          refine lv_icmp_ne (tgt := 346) hx hb dX14_does_329 (by decide) (fun c329 => ?_) (fun c329 => ?_)
                          · refine lv_aload hx hb dX14_does_346 (lv_at hl 6 rfl) ?_
                            refine gf_X14_300 F hB dX14_does_348 (by exact txe) ?_
                            refine lv_if_eq (tgt := 368) hx hb dX14_does_351 (by decide) (fun c351 => ?_) (fun c351 => ?_)
                            · refine lv_aload_n hx hb dX14_does_368 rfl (lv_at hl 9 rfl) ?_
                              refine lv_iload_n hx hb dX14_does_369 rfl (lv_at hl 10 rfl) ?_
                              refine lv_aload hx hb dX14_does_370 (lv_at hl 6 rfl) ?_
                              refine lv_iload hx hb dX14_does_372 (lv_at hl 5 rfl) ?_
                              refine lv_iload hx hb dX14_does_374 (lv_at hl 0 rfl) ?_
                              refine sg_callV (ci := 19) F hB (m_goes l D cy hI322 hY x wZ b122 _ ⟨(hb0 (d5.symm.trans c351)).1, hb122.2⟩ (by rw [e51, e52]; exact (hb0 (d5.symm.trans c351)).2) c351 (by first | exact ⟨by decide, by decide⟩ | exact hch) (by rw [s5]; omega) _) (cwV 4 F.1.2.2.2.2 (mgV (mm_12 _ (List.mem_of_getElem? (i := 38) rfl)) (mm_12 _ (List.mem_of_getElem? (i := 39) rfl)) (mm_13 _ (List.mem_of_getElem? (i := 0) rfl)) (mm_3 _ (List.mem_of_getElem? (i := 23) rfl)) (mm_12 _ (List.mem_of_getElem? (i := 27) rfl))) rfl rfl rfl ⟨rfl, by decide, by decide, by decide +kernel⟩ ⟨Nat.le_of_ble_eq_true rfl, Nat.le_of_ble_eq_true rfl⟩) rfl rfl (by decide) rfl hl.1 rfl (Nat.le_of_ble_eq_true rfl) dX14_does_376 (Nat.le_of_ble_eq_true rfl) (Nat.add_le_add_right (Nat.le_of_ble_eq_true rfl) _) (inv_A hI322) (fun H locs v σ376 N hBn hX376 hP => ?_)
                              clear hB; have hB := hBn; clear hBn
                              obtain ⟨⟨y376, rfl, hy376⟩, hI376⟩ := hP
                              exact sg_iretd F hB hrt dX14_does_379 (by decide) (by decide) (fun z => by first | (rcases hy340 with q | q <;> (rw [q] at z; exact absurd z (by decide))) | (rcases hy362 with q | q <;> (rw [q] at z; exact absurd z (by decide))) | (rcases hy376 with q | q <;> (rw [q] at z; exact absurd z (by decide)))) (by first | exact ⟨_, hw2, rfl, hI376, Or.inr ⟨hy340, by omega⟩⟩ | exact ⟨_, hw2, rfl, hI376, Or.inr ⟨hy362, by omega⟩⟩ | exact ⟨_, hw2, rfl, hI376, Or.inr ⟨hy376, by omega⟩⟩)
                            · refine lv_aload_n hx hb dX14_does_354 rfl (lv_at hl 9 rfl) ?_
                              refine lv_iload_n hx hb dX14_does_355 rfl (lv_at hl 10 rfl) ?_
                              refine lv_aload hx hb dX14_does_356 (lv_at hl 6 rfl) ?_
                              refine lv_iload hx hb dX14_does_358 (lv_at hl 5 rfl) ?_
                              refine lv_iload hx hb dX14_does_360 (lv_at hl 0 rfl) ?_
                              refine sg_callV (ci := 19) F hB (m_comes l D cy hI322 hY x wZ b122 _ hb122 (by rw [s5]; exact (hb1 (fun q => c351 (d5.trans q))).1) c351 c329 (by first | exact ⟨by decide, by decide⟩ | exact hch) (by rw [sG5]; omega) _) (cwV 4 F.1.2.2.2.2 (mgV (mm_12 _ (List.mem_of_getElem? (i := 35) rfl)) (mm_12 _ (List.mem_of_getElem? (i := 36) rfl)) (mm_12 _ (List.mem_of_getElem? (i := 37) rfl)) (mm_3 _ (List.mem_of_getElem? (i := 23) rfl)) (mm_12 _ (List.mem_of_getElem? (i := 26) rfl))) rfl rfl rfl ⟨rfl, by decide, by decide, by decide +kernel⟩ ⟨Nat.le_of_ble_eq_true rfl, Nat.le_of_ble_eq_true rfl⟩) rfl rfl (by decide) rfl hl.1 rfl (Nat.le_of_ble_eq_true rfl) dX14_does_362 (Nat.le_of_ble_eq_true rfl) (Nat.add_le_add_right (Nat.le_of_ble_eq_true rfl) _) (inv_A hI322) (fun H locs v σ362 N hBn hX362 hP => ?_)
                              clear hB; have hB := hBn; clear hBn
                              obtain ⟨⟨y362, rfl, hy362⟩, hI362⟩ := hP
                              refine lv_goto (tgt := 379) hx hb dX14_does_365 (by decide) ?_
                              exact sg_iretd F hB hrt dX14_does_379 (by decide) (by decide) (fun z => by first | (rcases hy340 with q | q <;> (rw [q] at z; exact absurd z (by decide))) | (rcases hy362 with q | q <;> (rw [q] at z; exact absurd z (by decide))) | (rcases hy376 with q | q <;> (rw [q] at z; exact absurd z (by decide)))) (by first | exact ⟨_, hw2, rfl, hI362, Or.inr ⟨hy340, by omega⟩⟩ | exact ⟨_, hw2, rfl, hI362, Or.inr ⟨hy362, by omega⟩⟩ | exact ⟨_, hw2, rfl, hI362, Or.inr ⟨hy376, by omega⟩⟩)
                          · refine lv_aload_n hx hb dX14_does_332 rfl (lv_at hl 9 rfl) ?_
                            refine lv_iload_n hx hb dX14_does_333 rfl (lv_at hl 10 rfl) ?_
                            refine lv_aload hx hb dX14_does_334 (lv_at hl 6 rfl) ?_
                            refine lv_iload hx hb dX14_does_336 (lv_at hl 5 rfl) ?_
                            refine lv_iload hx hb dX14_does_338 (lv_at hl 0 rfl) ?_
                            refine sg_callV (ci := 19) F hB (m_sounds l D cy hI322 hY x wZ b122 _ hb122 (fun z => by rw [s5]; exact (hb1 (fun q => z (d5.trans q))).1) (fun z => by rw [e51, e52]; exact (hb0 (d5.symm.trans z)).2) c329 (by first | exact ⟨by decide, by decide⟩ | exact hch) (by rw [s5]; omega) (by rw [sG5]; omega) _) (cwV 4 F.1.2.2.2.2 (mgV (mm_12 _ (List.mem_of_getElem? (i := 32) rfl)) (mm_12 _ (List.mem_of_getElem? (i := 33) rfl)) (mm_12 _ (List.mem_of_getElem? (i := 34) rfl)) (mm_3 _ (List.mem_of_getElem? (i := 23) rfl)) (mm_12 _ (List.mem_of_getElem? (i := 4) rfl))) rfl rfl rfl ⟨rfl, by decide, by decide, by decide +kernel⟩ ⟨Nat.le_of_ble_eq_true rfl, Nat.le_of_ble_eq_true rfl⟩) rfl rfl (by decide) rfl hl.1 rfl (Nat.le_of_ble_eq_true rfl) dX14_does_340 (Nat.le_of_ble_eq_true rfl) (Nat.add_le_add_right (Nat.le_of_ble_eq_true rfl) _) (inv_A hI322) (fun H locs v σ340 N hBn hX340 hP => ?_)
                            clear hB; have hB := hBn; clear hBn
                            obtain ⟨⟨y340, rfl, hy340⟩, hI340⟩ := hP
                            refine lv_goto (tgt := 379) hx hb dX14_does_343 (by decide) ?_
                            exact sg_iretd F hB hrt dX14_does_379 (by decide) (by decide) (fun z => by first | (rcases hy340 with q | q <;> (rw [q] at z; exact absurd z (by decide))) | (rcases hy362 with q | q <;> (rw [q] at z; exact absurd z (by decide))) | (rcases hy376 with q | q <;> (rw [q] at z; exact absurd z (by decide)))) (by first | exact ⟨_, hw2, rfl, hI340, Or.inr ⟨hy340, by omega⟩⟩ | exact ⟨_, hw2, rfl, hI340, Or.inr ⟨hy362, by omega⟩⟩ | exact ⟨_, hw2, rfl, hI340, Or.inr ⟨hy376, by omega⟩⟩)
                    · refine lv_iconst (v := 0) hx hb dX14_does_199 (by decide) ?_
                      exact sg_iretd F hB hrt dX14_does_200 (by decide) (by decide) (fun _ => ⟨rfl, rfl, Nat.le_refl _⟩) (⟨_, hw, rfl, h, Or.inl ⟨rfl, rfl, rfl⟩⟩)
              · refine lv_iconst (v := 1) hx hb dX14_does_135 (by decide) ?_
                refine lv_iload hx hb dX14_does_136 (lv_at hl 0 rfl) ?_
                refine va_mmax hx hb (F.1.2.2.1.trans hl.1.symm) hown (F.1.2.2.2.2 _ (List.mem_cons_of_mem _ (mm_8 _ (List.mem_of_getElem? (i := 22) rfl)))) (F.1.2.2.2.2 _ (List.mem_cons_of_mem _ (mm_1 _ (List.mem_of_getElem? (i := 24) rfl)))) (F.1.2.2.2.2 _ (List.mem_cons_of_mem _ (mm_1 _ (List.mem_of_getElem? (i := 25) rfl)))) (F.1.2.2.2.2 _ (List.mem_cons_of_mem _ (mm_1 _ (List.mem_of_getElem? (i := 26) rfl)))) (Nat.le_of_ble_eq_true rfl) (Nat.le_of_ble_eq_true rfl) (Nat.le_of_ble_eq_true rfl) (Nat.le_trans (Nat.le_trans (Nat.le_add_right _ _) hB.2.2) (Nat.add_le_add_right (Nat.le_of_ble_eq_true rfl) _)) dX14_does_138 ?_
                refine lv_goto (tgt := 146) hx hb dX14_does_141 (by decide) ?_
                refine lv_istore (lv' := [(6, .int _), (5, .int _), (4, .ref _), (3, .int _), (2, .ref _), (0, .ref _), (1, .int _)]) hx hb dX14_does_146 hl (by decide) rfl (fun ls hl => ?_)
                have m1 : (1 : Int32).toInt = 1 := rfl
                first
                  | (have hsn : (1 ≤ (if (1 : Int32) < b122 then b122 else 1).toInt ∧ (if (1 : Int32) < b122 then b122 else 1).toInt ≤ 8) ∧ b122.toInt ≤ (if (1 : Int32) < b122 then b122 else 1).toInt := by
                       have := hb1 c132
                       rw [m_maxI, m1]
                       omega
                     generalize (if (1 : Int32) < b122 then b122 else 1) = sn at hl hsn)
                  | (have hsn : (1 ≤ b122.toInt ∧ b122.toInt ≤ 8) ∧ b122.toInt ≤ b122.toInt := ⟨⟨(hb0 c132).1, hb122.2⟩, Int.le_refl _⟩
                     obtain ⟨sn, esn⟩ : ∃ sn : Int32, sn = b122 := ⟨_, rfl⟩
                     have hl : lv_has ls 11 [(6, .int sn), (5, .int b122), (4, .ref xe), (3, .int 1), (2, .ref b5), (0, .ref (kA K)), (1, .int x)] := by rw [esn]; exact hl
                     have hsn : (1 ≤ sn.toInt ∧ sn.toInt ≤ 8) ∧ b122.toInt ≤ sn.toInt := by rw [esn]; exact hsn)
                refine lv_aload_n hx hb dX14_does_148 rfl (lv_at hl 5 rfl) ?_
                refine lv_aload_n hx hb dX14_does_149 rfl (lv_at hl 4 rfl) ?_
                refine gf_X14_133 F hB dX14_does_150 tp ?_
                refine sg_callV (ci := 19) F hB (m_translatorOf l D cy h hY _ pn1 pn2 (inv_pu h (by omega) hz5) _) (cwV 1 F.1.2.2.2.2 (mgV (mm_6 _ (List.mem_of_getElem? (i := 17) rfl)) (mm_6 _ (List.mem_of_getElem? (i := 18) rfl)) (mm_6 _ (List.mem_of_getElem? (i := 19) rfl)) (mm_3 _ (List.mem_of_getElem? (i := 23) rfl)) (mm_4 _ (List.mem_of_getElem? (i := 12) rfl))) rfl rfl rfl ⟨rfl, by decide, by decide, by decide +kernel⟩ ⟨Nat.le_of_ble_eq_true rfl, Nat.le_of_ble_eq_true rfl⟩) rfl rfl (by decide) rfl hl.1 rfl (Nat.le_of_ble_eq_true rfl) dX14_does_153 (Nat.le_of_ble_eq_true rfl) (Nat.add_le_add_right (Nat.le_of_ble_eq_true rfl) _) (inv_A h) (fun H locs v σ153 N hBn hX153 hP => ?_)
                clear hB; have hB := hBn; clear hBn
                obtain ⟨y153, rfl, rfl, h153a, h153b⟩ := hP
                refine lv_istore (lv' := [(7, .int _), (6, .int _), (5, .int _), (4, .ref _), (3, .int _), (2, .ref _), (0, .ref _), (1, .int _)]) hx hb dX14_does_156 hl (by decide) rfl (fun ls hl => ?_)
                refine lv_aload_n hx hb dX14_does_158 rfl (lv_at hl 6 rfl) ?_
                refine lv_aload_n hx hb dX14_does_159 rfl (lv_at hl 5 rfl) ?_
                refine gf_X14_133 F hB dX14_does_160 tp ?_
                refine lv_iload hx hb dX14_does_163 (lv_at hl 1 rfl) ?_
                refine sg_callV (ci := 19) F hB (m_hubCost l D cy h _ (by omega) pn2 _ _) (cwV 2 F.1.2.2.2.2 (mgV (mm_8 _ (List.mem_of_getElem? (i := 16) rfl)) (mm_8 _ (List.mem_of_getElem? (i := 17) rfl)) (mm_8 _ (List.mem_of_getElem? (i := 18) rfl)) (mm_3 _ (List.mem_of_getElem? (i := 23) rfl)) (mm_8 _ (List.mem_of_getElem? (i := 11) rfl))) rfl rfl rfl ⟨rfl, by decide, by decide, by decide +kernel⟩ ⟨Nat.le_of_ble_eq_true rfl, Nat.le_of_ble_eq_true rfl⟩) rfl rfl (by decide) rfl hl.1 rfl (Nat.le_of_ble_eq_true rfl) dX14_does_165 (Nat.le_of_ble_eq_true rfl) (Nat.add_le_add_right (Nat.le_of_ble_eq_true rfl) _) (inv_A h) (fun H locs v σ165 N hBn hX165 hP => ?_)
                clear hB; have hB := hBn; clear hBn
                obtain ⟨y165, rfl, rfl, -⟩ := hP
                refine lv_istore (lv' := [(8, .int _), (7, .int _), (6, .int _), (5, .int _), (4, .ref _), (3, .int _), (2, .ref _), (0, .ref _), (1, .int _)]) hx hb dX14_does_168 hl (by decide) rfl (fun ls hl => ?_)
                refine lv_iload hx hb dX14_does_170 (lv_at hl 2 rfl) ?_
                refine sg_callS F hB (m_hostCost l D cy _ _) (cwS 1 F.1.2.2.2.2 (mgS (mm_8 _ (List.mem_of_getElem? (i := 19) rfl)) (mm_8 _ (List.mem_of_getElem? (i := 20) rfl)) (mm_3 _ (List.mem_of_getElem? (i := 23) rfl)) (mm_8 _ (List.mem_of_getElem? (i := 10) rfl))) rfl rfl rfl ⟨rfl, by decide, by decide, by decide +kernel⟩ ⟨Nat.le_of_ble_eq_true rfl, Nat.le_of_ble_eq_true rfl⟩) rfl hl.1 rfl (Nat.le_of_ble_eq_true rfl) dX14_does_172 (Nat.le_of_ble_eq_true rfl) (Nat.add_le_add_right (Nat.le_of_ble_eq_true rfl) _)  (fun H locs v σ172 N hBn hX172 hP => ?_)
                clear hB; have hB := hBn; clear hBn
                obtain ⟨rfl, rfl⟩ := hP
                refine lv_aload_n hx hb dX14_does_175 rfl (lv_at hl 7 rfl) ?_
                refine gf_X14_42 F hB dX14_does_176 (inv_A h) ?_
                refine lv_icmp_gt (tgt := 199) hx hb dX14_does_179 (by decide) (fun c179 => ?_) (fun c179 => ?_)
                · refine lv_iconst (v := 0) hx hb dX14_does_199 (by decide) ?_
                  exact sg_iretd F hB hrt dX14_does_200 (by decide) (by decide) (fun _ => ⟨rfl, rfl, Nat.le_refl _⟩) (⟨_, hw, rfl, h, Or.inl ⟨rfl, rfl, rfl⟩⟩)
                · refine lv_iload hx hb dX14_does_182 (lv_at hl 0 rfl) ?_
                  refine lv_if_le (tgt := 201) hx hb dX14_does_184 (by decide) (fun c184 => ?_) (fun c184 => ?_)
                  · have hle9 := i_nlt c179
                    refine lv_aload_n hx hb dX14_does_201 rfl (lv_at hl 7 rfl) ?_
                    refine lv_dup hx hb dX14_does_202 rfl ?_
                    refine gf_X14_42 F hB dX14_does_203 (inv_A h) ?_
                    refine lv_iload hx hb dX14_does_206 (lv_at hl 2 rfl) ?_
                    refine sg_callS F hB (m_hostCost l D cy _ _) (cwS 1 F.1.2.2.2.2 (mgS (mm_8 _ (List.mem_of_getElem? (i := 19) rfl)) (mm_8 _ (List.mem_of_getElem? (i := 20) rfl)) (mm_3 _ (List.mem_of_getElem? (i := 23) rfl)) (mm_8 _ (List.mem_of_getElem? (i := 10) rfl))) rfl rfl rfl ⟨rfl, by decide, by decide, by decide +kernel⟩ ⟨Nat.le_of_ble_eq_true rfl, Nat.le_of_ble_eq_true rfl⟩) rfl hl.1 rfl (Nat.le_of_ble_eq_true rfl) dX14_does_208 (Nat.le_of_ble_eq_true rfl) (Nat.add_le_add_right (Nat.le_of_ble_eq_true rfl) _)  (fun H locs v σ208 N hBn hX208 hP => ?_)
                    clear hB; have hB := hBn; clear hBn
                    obtain ⟨rfl, rfl⟩ := hP
                    refine lv_isub hx hb dX14_does_211 ?_
                    refine pf_X14_42 F hB dX14_does_212 (inv_A h) (fun H locs hBn => ?_)
                    clear hB; have hB := hBn; clear hBn
                    obtain ⟨hw2, hh2⟩ : ∃ hw2 : Nat, (hw2 : Int) = hw - 2 - sn.toInt := ⟨(hw - 2 - sn.toInt).toNat, by rw [m_hcv hsn.1.1 hsn.1.2] at hle9; omega⟩
                    have hI212 := inv_hlB hB h (m_hlv hwe hw100 hsn.1.1 hsn.1.2 hh2) (by omega)
                    refine lv_aload_n hx hb dX14_does_215 rfl (lv_at hl 7 rfl) ?_
                    refine lv_dup hx hb dX14_does_216 rfl ?_
                    refine gf_X14_347 F hB dX14_does_217 (inv_A hI212) ?_
                    refine lv_iload hx hb dX14_does_220 (lv_at hl 2 rfl) ?_
                    refine sg_callS F hB (m_hostCost l D cy _ _) (cwS 1 F.1.2.2.2.2 (mgS (mm_8 _ (List.mem_of_getElem? (i := 19) rfl)) (mm_8 _ (List.mem_of_getElem? (i := 20) rfl)) (mm_3 _ (List.mem_of_getElem? (i := 23) rfl)) (mm_8 _ (List.mem_of_getElem? (i := 10) rfl))) rfl rfl rfl ⟨rfl, by decide, by decide, by decide +kernel⟩ ⟨Nat.le_of_ble_eq_true rfl, Nat.le_of_ble_eq_true rfl⟩) rfl hl.1 rfl (Nat.le_of_ble_eq_true rfl) dX14_does_222 (Nat.le_of_ble_eq_true rfl) (Nat.add_le_add_right (Nat.le_of_ble_eq_true rfl) _)  (fun H locs v σ222 N hBn hX222 hP => ?_)
                    clear hB; have hB := hBn; clear hBn
                    obtain ⟨rfl, rfl⟩ := hP
                    refine lv_i2l hx hb dX14_does_225 rfl ?_
                    refine lv_ladd hx hb dX14_does_226 ?_
                    refine pf_X14_347 F hB dX14_does_227 (inv_A hI212) (fun H locs hBn => ?_)
                    clear hB; have hB := hBn; clear hBn
                    have hI227 := inv_PJc hB hI212
                    refine lv_aload_n hx hb dX14_does_230 rfl (lv_at hl 7 rfl) ?_
                    refine gr_X14_45 F hB dX14_does_231 (inv_A hI227) (inv_r12 hI227) ?_
                    refine lv_iload hx hb dX14_does_234 (lv_at hl 1 rfl) ?_
                    refine lv_dup2_11 hx hb dX14_does_236 rfl rfl ?_
                    refine sg_iald hx hb F.2.1 hB.1 dX14_does_237 (inv_tH hI227).1 (by omega) (m_ltN (n := 16) (inv_tH hI227).2 (by omega)) (m_ltM (inv_tH hI227).2 (by decide)) ?_
                    refine lv_iload hx hb dX14_does_238 (lv_at hl 0 rfl) ?_
                    refine lv_isub hx hb dX14_does_240 ?_
                    refine sg_iast hx hb F.2.1 hB.1 dX14_does_241 (inv_tH hI227).1 (by omega) (m_ltN (n := 16) (inv_tH hI227).2 (by omega)) (m_ltM (inv_tH hI227).2 (by decide)) (fun H locs hs1 => ?_)
                    have hBn := sgB_w hB hs1 (fun _ => rfl) (fun _ => rfl) (Nat.le_of_eq (sgPot_I (Or.inl (by rw [show sgT _ _ = _ from (inv_tH hI227).1]; decide))))
                    clear hB; have hB := hBn; clear hBn
                    have hI241 := inv_PIc (t := 100) hB hI227 (inv_tH hI227).1 (by unfold iCn; omega)
                    refine lv_aload_n hx hb dX14_does_242 rfl (lv_at hl 7 rfl) ?_
                    refine lv_dup hx hb dX14_does_243 rfl ?_
                    refine gf_X14_163 F hB dX14_does_244 (inv_A hI241) ?_
                    refine lv_iconst (v := 1) hx hb dX14_does_247 (by decide) ?_
                    refine lv_iadd hx hb dX14_does_248 ?_
                    refine pf_X14_163 F hB dX14_does_249 (inv_A hI241) (fun H locs hBn => ?_)
                    clear hB; have hB := hBn; clear hBn
                    have hI249 := inv_PIc (t := 20) hB hI241 (inv_A hI241) (by unfold iCn; omega)
                    have Zc := zz4 (l1 := l1) hB (inv_A h) (inv_tH h).1 tl
                    have ZL := zz4 (l1 := le) hB (inv_A h) (inv_tH h).1 tle
                    have ZG := zz4 (l1 := kG K) hB (inv_A h) (inv_tH h).1 (inv_tG h).1
                    obtain ⟨ee, ff, lf, en1, en2, en3, en4, en5, en6, en7, en8, en9⟩ := inv_ends h (k := (sgI σ b5 0).toInt.toNat) (by omega)
                    refine lv_aload_n hx hb dX14_does_252 rfl (lv_at hl 7 rfl) ?_
                    refine gr_X14_10 F hB dX14_does_253 (inv_A hI249) (inv_r1 hI249) ?_
                    refine lv_aload_n hx hb dX14_does_256 rfl (lv_at hl 6 rfl) ?_
                    refine gf_X14_133 F hB dX14_does_257 (by exact tp) ?_
                    rw [Zc.2.2.1 b5 0 tp (by decide)]
                    refine sg_callV (ci := 4) F hB (m_getD l D cy hI249 (sgI σ b5 0) (by omega) (by omega) _) (cwV 1 F.1.2.2.2.2 (mgV (mm_4 _ (List.mem_of_getElem? (i := 3) rfl)) (mm_4 _ (List.mem_of_getElem? (i := 4) rfl)) (mm_4 _ (List.mem_of_getElem? (i := 5) rfl)) (mm_0 _ (List.mem_of_getElem? (i := 35) rfl)) (mm_3 _ (List.mem_of_getElem? (i := 34) rfl))) rfl rfl rfl ⟨rfl, by decide, by decide, by decide +kernel⟩ ⟨Nat.le_of_ble_eq_true rfl, Nat.le_of_ble_eq_true rfl⟩) rfl rfl (by decide) rfl hl.1 rfl (Nat.le_of_ble_eq_true rfl) dX14_does_260 (Nat.le_of_ble_eq_true rfl) (Nat.add_le_add_right (Nat.le_of_ble_eq_true rfl) _) (inv_tD hI249).1 (fun H locs v σ260 N hBn hX260 hP => ?_)
                    clear hB; have hB := hBn; clear hBn
                    obtain ⟨rfl, rfl⟩ := hP
                    have dv260 := (inv_dv hI249 (k := ((sgI σ b5 0) : Int32).toInt.toNat) (by omega)).2.1
                    refine va_castY hx hb hown (F.1.2.2.2.2 _ (List.mem_cons_of_mem _ (mm_4 _ (List.mem_of_getElem? (i := 2) rfl)))) (F.2.2.1.2.2 ("HubcascadeModel$Device", "HubcascadeModel$Device") (by decide +kernel)) (sg_recv (ci := 15) F.2.1 hB (by assumption) (by decide) rfl) dX14_does_263 ?_
                    refine lv_astore (lv' := [(9, .ref _), (8, .int _), (7, .int _), (6, .int _), (5, .int _), (4, .ref _), (3, .int _), (2, .ref _), (0, .ref _), (1, .int _)]) hx hb dX14_does_266 hl (by decide) rfl (fun ls hl => ?_)
                    refine lv_aload hx hb dX14_does_268 (lv_at hl 0 rfl) ?_
                    refine gr_X14_166 F hB dX14_does_270 dv260 (by exact en3) ?_
                    refine lv_aload_n hx hb dX14_does_273 rfl (lv_at hl 7 rfl) ?_
                    refine gf_X14_235 F hB dX14_does_274 (by exact tp) ?_
                    rw [Zc.2.2.1 b5 1 tp (by decide)]
                    refine sg_iald hx hb F.2.1 hB.1 dX14_does_277 (by exact en8) (by omega) (m_ltN en9 (by omega)) (m_ltM en9 (by decide)) ?_
                    refine lv_if_le (tgt := 294) hx hb dX14_does_278 (by decide) (fun c278 => ?_) (fun c278 => ?_)
                    · refine lv_bipush (v := 32) hx hb dX14_does_294 (by decide) ?_
                      refine lv_istore (lv' := [(10, .int _), (9, .ref _), (8, .int _), (7, .int _), (6, .int _), (5, .int _), (4, .ref _), (3, .int _), (2, .ref _), (0, .ref _), (1, .int _)]) hx hb dX14_does_296 hl (by decide) rfl (fun ls hl => ?_)
                      refine lv_aload hx hb dX14_does_298 (lv_at hl 1 rfl) ?_
                      refine gr_X14_166 F hB dX14_does_300 dv260 (by exact en3) ?_
                      refine lv_aload_n hx hb dX14_does_303 rfl (lv_at hl 8 rfl) ?_
                      refine gf_X14_235 F hB dX14_does_304 (by exact tp) ?_
                      rw [Zc.2.2.1 b5 1 tp (by decide)]
                      refine lv_dup2_11 hx hb dX14_does_307 rfl rfl ?_
                      refine sg_iald hx hb F.2.1 hB.1 dX14_does_308 (by exact en8) (by omega) (m_ltN en9 (by omega)) (m_ltM en9 (by decide)) ?_
                      refine lv_iload hx hb dX14_does_309 (lv_at hl 0 rfl) ?_
                      refine lv_bipush (v := 32) hx hb dX14_does_311 (by decide) ?_
                      refine lv_icmp_ne (tgt := 320) hx hb dX14_does_313 (by decide) (fun c313 => (by first | exact absurd c313 (by decide) | exact (c313 (by decide)).elim)) (fun c313 => ?_)
                      refine lv_iconst (v := 0) hx hb dX14_does_316 (by decide) ?_
                      refine lv_goto (tgt := 321) hx hb dX14_does_317 (by decide) ?_
                      refine lv_isub hx hb dX14_does_321 ?_
                      refine sg_iast hx hb F.2.1 hB.1 dX14_does_322 (by exact en8) (by omega) (m_ltN en9 (by omega)) (m_ltM en9 (by decide)) (fun H locs hs1 => ?_)
                      have hBn := sgB_w hB hs1 (fun _ => rfl) (fun _ => rfl) (Nat.le_of_eq (sgPot_I (Or.inl (by rw [show sgT _ _ = _ from (by exact en8)]; decide))))
                      clear hB; have hB := hBn; clear hBn
                      have hI322 := inv_PIc (t := 100) hB hI249 (by exact en8) (by unfold iCn; omega)
                      have Z5 := zz5 hB Zc (by exact en8) (by exact tl)
                      have Z5L := zz5 hB ZL (by exact en8) (by exact tle)
                      have Z5G := zz5 hB ZG (by exact en8) (by exact (inv_tG h).1)
                      have wZ := wPp_z h w Z5
                      have s5 := Z5L.2.2.2.2.2.1
                      have sG5 := Z5G.2.2.2.2.2.1
                      have d5 := Z5.2.2.2.1 xe 0 txe (by decide)
                      have e51 := Z5.2.1 t0 1 tt
                      have e52 := Z5.2.1 t0 2 tt
                      have qG := (inv_szG h).2
                      have qL := (inv_el h txe).elim (fun l0 q => (Option.some.inj (q.1.symm.trans w.2.2.2.2.2.2.1)) ▸ q.2.2.2.2.2)
                      refine lv_aload_n hx hb dX14_does_323 rfl (lv_at hl 8 rfl) ?_
                      refine gf_X14_350 F hB dX14_does_324 (by exact tp) ?_
                      refine lv_bipush (v := 115) hx hb dX14_does_327 (by decide) ?_
                      refine lv_icmp_ne (tgt := 346) hx hb dX14_does_329 (by decide) (fun c329 => ?_) (fun c329 => ?_)
                      · refine lv_aload hx hb dX14_does_346 (lv_at hl 6 rfl) ?_
                        refine gf_X14_300 F hB dX14_does_348 (by exact txe) ?_
                        refine lv_if_eq (tgt := 368) hx hb dX14_does_351 (by decide) (fun c351 => ?_) (fun c351 => ?_)
                        · refine lv_aload_n hx hb dX14_does_368 rfl (lv_at hl 9 rfl) ?_
                          refine lv_iload_n hx hb dX14_does_369 rfl (lv_at hl 10 rfl) ?_
                          refine lv_aload hx hb dX14_does_370 (lv_at hl 6 rfl) ?_
                          refine lv_iload hx hb dX14_does_372 (lv_at hl 5 rfl) ?_
                          refine lv_iload hx hb dX14_does_374 (lv_at hl 0 rfl) ?_
                          refine sg_callV (ci := 19) F hB (m_goes l D cy hI322 hY x wZ b122 _ ⟨(hb0 (d5.symm.trans c351)).1, hb122.2⟩ (by rw [e51, e52]; exact (hb0 (d5.symm.trans c351)).2) c351 (by first | exact ⟨by decide, by decide⟩ | exact hch) (by rw [s5]; omega) _) (cwV 4 F.1.2.2.2.2 (mgV (mm_12 _ (List.mem_of_getElem? (i := 38) rfl)) (mm_12 _ (List.mem_of_getElem? (i := 39) rfl)) (mm_13 _ (List.mem_of_getElem? (i := 0) rfl)) (mm_3 _ (List.mem_of_getElem? (i := 23) rfl)) (mm_12 _ (List.mem_of_getElem? (i := 27) rfl))) rfl rfl rfl ⟨rfl, by decide, by decide, by decide +kernel⟩ ⟨Nat.le_of_ble_eq_true rfl, Nat.le_of_ble_eq_true rfl⟩) rfl rfl (by decide) rfl hl.1 rfl (Nat.le_of_ble_eq_true rfl) dX14_does_376 (Nat.le_of_ble_eq_true rfl) (Nat.add_le_add_right (Nat.le_of_ble_eq_true rfl) _) (inv_A hI322) (fun H locs v σ376 N hBn hX376 hP => ?_)
                          clear hB; have hB := hBn; clear hBn
                          obtain ⟨⟨y376, rfl, hy376⟩, hI376⟩ := hP
                          exact sg_iretd F hB hrt dX14_does_379 (by decide) (by decide) (fun z => by first | (rcases hy340 with q | q <;> (rw [q] at z; exact absurd z (by decide))) | (rcases hy362 with q | q <;> (rw [q] at z; exact absurd z (by decide))) | (rcases hy376 with q | q <;> (rw [q] at z; exact absurd z (by decide)))) (by first | exact ⟨_, hw2, rfl, hI376, Or.inr ⟨hy340, by omega⟩⟩ | exact ⟨_, hw2, rfl, hI376, Or.inr ⟨hy362, by omega⟩⟩ | exact ⟨_, hw2, rfl, hI376, Or.inr ⟨hy376, by omega⟩⟩)
                        · refine lv_aload_n hx hb dX14_does_354 rfl (lv_at hl 9 rfl) ?_
                          refine lv_iload_n hx hb dX14_does_355 rfl (lv_at hl 10 rfl) ?_
                          refine lv_aload hx hb dX14_does_356 (lv_at hl 6 rfl) ?_
                          refine lv_iload hx hb dX14_does_358 (lv_at hl 5 rfl) ?_
                          refine lv_iload hx hb dX14_does_360 (lv_at hl 0 rfl) ?_
                          refine sg_callV (ci := 19) F hB (m_comes l D cy hI322 hY x wZ b122 _ hb122 (by rw [s5]; exact (hb1 (fun q => c351 (d5.trans q))).1) c351 c329 (by first | exact ⟨by decide, by decide⟩ | exact hch) (by rw [sG5]; omega) _) (cwV 4 F.1.2.2.2.2 (mgV (mm_12 _ (List.mem_of_getElem? (i := 35) rfl)) (mm_12 _ (List.mem_of_getElem? (i := 36) rfl)) (mm_12 _ (List.mem_of_getElem? (i := 37) rfl)) (mm_3 _ (List.mem_of_getElem? (i := 23) rfl)) (mm_12 _ (List.mem_of_getElem? (i := 26) rfl))) rfl rfl rfl ⟨rfl, by decide, by decide, by decide +kernel⟩ ⟨Nat.le_of_ble_eq_true rfl, Nat.le_of_ble_eq_true rfl⟩) rfl rfl (by decide) rfl hl.1 rfl (Nat.le_of_ble_eq_true rfl) dX14_does_362 (Nat.le_of_ble_eq_true rfl) (Nat.add_le_add_right (Nat.le_of_ble_eq_true rfl) _) (inv_A hI322) (fun H locs v σ362 N hBn hX362 hP => ?_)
                          clear hB; have hB := hBn; clear hBn
                          obtain ⟨⟨y362, rfl, hy362⟩, hI362⟩ := hP
                          refine lv_goto (tgt := 379) hx hb dX14_does_365 (by decide) ?_
                          exact sg_iretd F hB hrt dX14_does_379 (by decide) (by decide) (fun z => by first | (rcases hy340 with q | q <;> (rw [q] at z; exact absurd z (by decide))) | (rcases hy362 with q | q <;> (rw [q] at z; exact absurd z (by decide))) | (rcases hy376 with q | q <;> (rw [q] at z; exact absurd z (by decide)))) (by first | exact ⟨_, hw2, rfl, hI362, Or.inr ⟨hy340, by omega⟩⟩ | exact ⟨_, hw2, rfl, hI362, Or.inr ⟨hy362, by omega⟩⟩ | exact ⟨_, hw2, rfl, hI362, Or.inr ⟨hy376, by omega⟩⟩)
                      · refine lv_aload_n hx hb dX14_does_332 rfl (lv_at hl 9 rfl) ?_
                        refine lv_iload_n hx hb dX14_does_333 rfl (lv_at hl 10 rfl) ?_
                        refine lv_aload hx hb dX14_does_334 (lv_at hl 6 rfl) ?_
                        refine lv_iload hx hb dX14_does_336 (lv_at hl 5 rfl) ?_
                        refine lv_iload hx hb dX14_does_338 (lv_at hl 0 rfl) ?_
                        refine sg_callV (ci := 19) F hB (m_sounds l D cy hI322 hY x wZ b122 _ hb122 (fun z => by rw [s5]; exact (hb1 (fun q => z (d5.trans q))).1) (fun z => by rw [e51, e52]; exact (hb0 (d5.symm.trans z)).2) c329 (by first | exact ⟨by decide, by decide⟩ | exact hch) (by rw [s5]; omega) (by rw [sG5]; omega) _) (cwV 4 F.1.2.2.2.2 (mgV (mm_12 _ (List.mem_of_getElem? (i := 32) rfl)) (mm_12 _ (List.mem_of_getElem? (i := 33) rfl)) (mm_12 _ (List.mem_of_getElem? (i := 34) rfl)) (mm_3 _ (List.mem_of_getElem? (i := 23) rfl)) (mm_12 _ (List.mem_of_getElem? (i := 4) rfl))) rfl rfl rfl ⟨rfl, by decide, by decide, by decide +kernel⟩ ⟨Nat.le_of_ble_eq_true rfl, Nat.le_of_ble_eq_true rfl⟩) rfl rfl (by decide) rfl hl.1 rfl (Nat.le_of_ble_eq_true rfl) dX14_does_340 (Nat.le_of_ble_eq_true rfl) (Nat.add_le_add_right (Nat.le_of_ble_eq_true rfl) _) (inv_A hI322) (fun H locs v σ340 N hBn hX340 hP => ?_)
                        clear hB; have hB := hBn; clear hBn
                        obtain ⟨⟨y340, rfl, hy340⟩, hI340⟩ := hP
                        refine lv_goto (tgt := 379) hx hb dX14_does_343 (by decide) ?_
                        exact sg_iretd F hB hrt dX14_does_379 (by decide) (by decide) (fun z => by first | (rcases hy340 with q | q <;> (rw [q] at z; exact absurd z (by decide))) | (rcases hy362 with q | q <;> (rw [q] at z; exact absurd z (by decide))) | (rcases hy376 with q | q <;> (rw [q] at z; exact absurd z (by decide)))) (by first | exact ⟨_, hw2, rfl, hI340, Or.inr ⟨hy340, by omega⟩⟩ | exact ⟨_, hw2, rfl, hI340, Or.inr ⟨hy362, by omega⟩⟩ | exact ⟨_, hw2, rfl, hI340, Or.inr ⟨hy376, by omega⟩⟩)
                    · refine lv_aload hx hb dX14_does_281 (lv_at hl 0 rfl) ?_
                      refine gr_X14_334 F hB dX14_does_283 dv260 (by exact en2) ?_
                      refine lv_aload_n hx hb dX14_does_286 rfl (lv_at hl 7 rfl) ?_
                      refine gf_X14_235 F hB dX14_does_287 (by exact tp) ?_
                      rw [Zc.2.2.1 b5 1 tp (by decide)]
                      refine sg_cald hx hb F.2.1 hB.1 dX14_does_290 (by exact en6) (by omega) (m_ltN en7 (by omega)) (m_ltM en7 (by decide)) ?_
                      have hch := hB.1.1.2.2.1 ff (sgI σ b5 1).toInt.toNat (by exact en6)
                      refine lv_goto (tgt := 296) hx hb dX14_does_291 (by decide) ?_
                      refine lv_istore (lv' := [(10, .int _), (9, .ref _), (8, .int _), (7, .int _), (6, .int _), (5, .int _), (4, .ref _), (3, .int _), (2, .ref _), (0, .ref _), (1, .int _)]) hx hb dX14_does_296 hl (by decide) rfl (fun ls hl => ?_)
                      refine lv_aload hx hb dX14_does_298 (lv_at hl 1 rfl) ?_
                      refine gr_X14_166 F hB dX14_does_300 dv260 (by exact en3) ?_
                      refine lv_aload_n hx hb dX14_does_303 rfl (lv_at hl 8 rfl) ?_
                      refine gf_X14_235 F hB dX14_does_304 (by exact tp) ?_
                      rw [Zc.2.2.1 b5 1 tp (by decide)]
                      refine lv_dup2_11 hx hb dX14_does_307 rfl rfl ?_
                      refine sg_iald hx hb F.2.1 hB.1 dX14_does_308 (by exact en8) (by omega) (m_ltN en9 (by omega)) (m_ltM en9 (by decide)) ?_
                      refine lv_iload hx hb dX14_does_309 (lv_at hl 0 rfl) ?_
                      refine lv_bipush (v := 32) hx hb dX14_does_311 (by decide) ?_
                      refine lv_icmp_ne (tgt := 320) hx hb dX14_does_313 (by decide) (fun c313 => ?_) (fun c313 => ?_)
                      · refine lv_iconst (v := 1) hx hb dX14_does_320 (by decide) ?_
                        refine lv_isub hx hb dX14_does_321 ?_
                        refine sg_iast hx hb F.2.1 hB.1 dX14_does_322 (by exact en8) (by omega) (m_ltN en9 (by omega)) (m_ltM en9 (by decide)) (fun H locs hs1 => ?_)
                        have hBn := sgB_w hB hs1 (fun _ => rfl) (fun _ => rfl) (Nat.le_of_eq (sgPot_I (Or.inl (by rw [show sgT _ _ = _ from (by exact en8)]; decide))))
                        clear hB; have hB := hBn; clear hBn
                        have hI322 := inv_PIc (t := 100) hB hI249 (by exact en8) (by unfold iCn; omega)
                        have Z5 := zz5 hB Zc (by exact en8) (by exact tl)
                        have Z5L := zz5 hB ZL (by exact en8) (by exact tle)
                        have Z5G := zz5 hB ZG (by exact en8) (by exact (inv_tG h).1)
                        have wZ := wPp_z h w Z5
                        have s5 := Z5L.2.2.2.2.2.1
                        have sG5 := Z5G.2.2.2.2.2.1
                        have d5 := Z5.2.2.2.1 xe 0 txe (by decide)
                        have e51 := Z5.2.1 t0 1 tt
                        have e52 := Z5.2.1 t0 2 tt
                        have qG := (inv_szG h).2
                        have qL := (inv_el h txe).elim (fun l0 q => (Option.some.inj (q.1.symm.trans w.2.2.2.2.2.2.1)) ▸ q.2.2.2.2.2)
                        refine lv_aload_n hx hb dX14_does_323 rfl (lv_at hl 8 rfl) ?_
                        refine gf_X14_350 F hB dX14_does_324 (by exact tp) ?_
                        refine lv_bipush (v := 115) hx hb dX14_does_327 (by decide) ?_
                        refine lv_icmp_ne (tgt := 346) hx hb dX14_does_329 (by decide) (fun c329 => ?_) (fun c329 => ?_)
                        · refine lv_aload hx hb dX14_does_346 (lv_at hl 6 rfl) ?_
                          refine gf_X14_300 F hB dX14_does_348 (by exact txe) ?_
                          refine lv_if_eq (tgt := 368) hx hb dX14_does_351 (by decide) (fun c351 => ?_) (fun c351 => ?_)
                          · refine lv_aload_n hx hb dX14_does_368 rfl (lv_at hl 9 rfl) ?_
                            refine lv_iload_n hx hb dX14_does_369 rfl (lv_at hl 10 rfl) ?_
                            refine lv_aload hx hb dX14_does_370 (lv_at hl 6 rfl) ?_
                            refine lv_iload hx hb dX14_does_372 (lv_at hl 5 rfl) ?_
                            refine lv_iload hx hb dX14_does_374 (lv_at hl 0 rfl) ?_
                            refine sg_callV (ci := 19) F hB (m_goes l D cy hI322 hY x wZ b122 _ ⟨(hb0 (d5.symm.trans c351)).1, hb122.2⟩ (by rw [e51, e52]; exact (hb0 (d5.symm.trans c351)).2) c351 (by first | exact ⟨by decide, by decide⟩ | exact hch) (by rw [s5]; omega) _) (cwV 4 F.1.2.2.2.2 (mgV (mm_12 _ (List.mem_of_getElem? (i := 38) rfl)) (mm_12 _ (List.mem_of_getElem? (i := 39) rfl)) (mm_13 _ (List.mem_of_getElem? (i := 0) rfl)) (mm_3 _ (List.mem_of_getElem? (i := 23) rfl)) (mm_12 _ (List.mem_of_getElem? (i := 27) rfl))) rfl rfl rfl ⟨rfl, by decide, by decide, by decide +kernel⟩ ⟨Nat.le_of_ble_eq_true rfl, Nat.le_of_ble_eq_true rfl⟩) rfl rfl (by decide) rfl hl.1 rfl (Nat.le_of_ble_eq_true rfl) dX14_does_376 (Nat.le_of_ble_eq_true rfl) (Nat.add_le_add_right (Nat.le_of_ble_eq_true rfl) _) (inv_A hI322) (fun H locs v σ376 N hBn hX376 hP => ?_)
                            clear hB; have hB := hBn; clear hBn
                            obtain ⟨⟨y376, rfl, hy376⟩, hI376⟩ := hP
                            exact sg_iretd F hB hrt dX14_does_379 (by decide) (by decide) (fun z => by first | (rcases hy340 with q | q <;> (rw [q] at z; exact absurd z (by decide))) | (rcases hy362 with q | q <;> (rw [q] at z; exact absurd z (by decide))) | (rcases hy376 with q | q <;> (rw [q] at z; exact absurd z (by decide)))) (by first | exact ⟨_, hw2, rfl, hI376, Or.inr ⟨hy340, by omega⟩⟩ | exact ⟨_, hw2, rfl, hI376, Or.inr ⟨hy362, by omega⟩⟩ | exact ⟨_, hw2, rfl, hI376, Or.inr ⟨hy376, by omega⟩⟩)
                          · refine lv_aload_n hx hb dX14_does_354 rfl (lv_at hl 9 rfl) ?_
                            refine lv_iload_n hx hb dX14_does_355 rfl (lv_at hl 10 rfl) ?_
                            refine lv_aload hx hb dX14_does_356 (lv_at hl 6 rfl) ?_
                            refine lv_iload hx hb dX14_does_358 (lv_at hl 5 rfl) ?_
                            refine lv_iload hx hb dX14_does_360 (lv_at hl 0 rfl) ?_
                            refine sg_callV (ci := 19) F hB (m_comes l D cy hI322 hY x wZ b122 _ hb122 (by rw [s5]; exact (hb1 (fun q => c351 (d5.trans q))).1) c351 c329 (by first | exact ⟨by decide, by decide⟩ | exact hch) (by rw [sG5]; omega) _) (cwV 4 F.1.2.2.2.2 (mgV (mm_12 _ (List.mem_of_getElem? (i := 35) rfl)) (mm_12 _ (List.mem_of_getElem? (i := 36) rfl)) (mm_12 _ (List.mem_of_getElem? (i := 37) rfl)) (mm_3 _ (List.mem_of_getElem? (i := 23) rfl)) (mm_12 _ (List.mem_of_getElem? (i := 26) rfl))) rfl rfl rfl ⟨rfl, by decide, by decide, by decide +kernel⟩ ⟨Nat.le_of_ble_eq_true rfl, Nat.le_of_ble_eq_true rfl⟩) rfl rfl (by decide) rfl hl.1 rfl (Nat.le_of_ble_eq_true rfl) dX14_does_362 (Nat.le_of_ble_eq_true rfl) (Nat.add_le_add_right (Nat.le_of_ble_eq_true rfl) _) (inv_A hI322) (fun H locs v σ362 N hBn hX362 hP => ?_)
                            clear hB; have hB := hBn; clear hBn
                            obtain ⟨⟨y362, rfl, hy362⟩, hI362⟩ := hP
                            refine lv_goto (tgt := 379) hx hb dX14_does_365 (by decide) ?_
                            exact sg_iretd F hB hrt dX14_does_379 (by decide) (by decide) (fun z => by first | (rcases hy340 with q | q <;> (rw [q] at z; exact absurd z (by decide))) | (rcases hy362 with q | q <;> (rw [q] at z; exact absurd z (by decide))) | (rcases hy376 with q | q <;> (rw [q] at z; exact absurd z (by decide)))) (by first | exact ⟨_, hw2, rfl, hI362, Or.inr ⟨hy340, by omega⟩⟩ | exact ⟨_, hw2, rfl, hI362, Or.inr ⟨hy362, by omega⟩⟩ | exact ⟨_, hw2, rfl, hI362, Or.inr ⟨hy376, by omega⟩⟩)
                        · refine lv_aload_n hx hb dX14_does_332 rfl (lv_at hl 9 rfl) ?_
                          refine lv_iload_n hx hb dX14_does_333 rfl (lv_at hl 10 rfl) ?_
                          refine lv_aload hx hb dX14_does_334 (lv_at hl 6 rfl) ?_
                          refine lv_iload hx hb dX14_does_336 (lv_at hl 5 rfl) ?_
                          refine lv_iload hx hb dX14_does_338 (lv_at hl 0 rfl) ?_
                          refine sg_callV (ci := 19) F hB (m_sounds l D cy hI322 hY x wZ b122 _ hb122 (fun z => by rw [s5]; exact (hb1 (fun q => z (d5.trans q))).1) (fun z => by rw [e51, e52]; exact (hb0 (d5.symm.trans z)).2) c329 (by first | exact ⟨by decide, by decide⟩ | exact hch) (by rw [s5]; omega) (by rw [sG5]; omega) _) (cwV 4 F.1.2.2.2.2 (mgV (mm_12 _ (List.mem_of_getElem? (i := 32) rfl)) (mm_12 _ (List.mem_of_getElem? (i := 33) rfl)) (mm_12 _ (List.mem_of_getElem? (i := 34) rfl)) (mm_3 _ (List.mem_of_getElem? (i := 23) rfl)) (mm_12 _ (List.mem_of_getElem? (i := 4) rfl))) rfl rfl rfl ⟨rfl, by decide, by decide, by decide +kernel⟩ ⟨Nat.le_of_ble_eq_true rfl, Nat.le_of_ble_eq_true rfl⟩) rfl rfl (by decide) rfl hl.1 rfl (Nat.le_of_ble_eq_true rfl) dX14_does_340 (Nat.le_of_ble_eq_true rfl) (Nat.add_le_add_right (Nat.le_of_ble_eq_true rfl) _) (inv_A hI322) (fun H locs v σ340 N hBn hX340 hP => ?_)
                          clear hB; have hB := hBn; clear hBn
                          obtain ⟨⟨y340, rfl, hy340⟩, hI340⟩ := hP
                          refine lv_goto (tgt := 379) hx hb dX14_does_343 (by decide) ?_
                          exact sg_iretd F hB hrt dX14_does_379 (by decide) (by decide) (fun z => by first | (rcases hy340 with q | q <;> (rw [q] at z; exact absurd z (by decide))) | (rcases hy362 with q | q <;> (rw [q] at z; exact absurd z (by decide))) | (rcases hy376 with q | q <;> (rw [q] at z; exact absurd z (by decide)))) (by first | exact ⟨_, hw2, rfl, hI340, Or.inr ⟨hy340, by omega⟩⟩ | exact ⟨_, hw2, rfl, hI340, Or.inr ⟨hy362, by omega⟩⟩ | exact ⟨_, hw2, rfl, hI340, Or.inr ⟨hy376, by omega⟩⟩)
                      · refine lv_iconst (v := 0) hx hb dX14_does_316 (by decide) ?_
                        refine lv_goto (tgt := 321) hx hb dX14_does_317 (by decide) ?_
                        refine lv_isub hx hb dX14_does_321 ?_
                        refine sg_iast hx hb F.2.1 hB.1 dX14_does_322 (by exact en8) (by omega) (m_ltN en9 (by omega)) (m_ltM en9 (by decide)) (fun H locs hs1 => ?_)
                        have hBn := sgB_w hB hs1 (fun _ => rfl) (fun _ => rfl) (Nat.le_of_eq (sgPot_I (Or.inl (by rw [show sgT _ _ = _ from (by exact en8)]; decide))))
                        clear hB; have hB := hBn; clear hBn
                        have hI322 := inv_PIc (t := 100) hB hI249 (by exact en8) (by unfold iCn; omega)
                        have Z5 := zz5 hB Zc (by exact en8) (by exact tl)
                        have Z5L := zz5 hB ZL (by exact en8) (by exact tle)
                        have Z5G := zz5 hB ZG (by exact en8) (by exact (inv_tG h).1)
                        have wZ := wPp_z h w Z5
                        have s5 := Z5L.2.2.2.2.2.1
                        have sG5 := Z5G.2.2.2.2.2.1
                        have d5 := Z5.2.2.2.1 xe 0 txe (by decide)
                        have e51 := Z5.2.1 t0 1 tt
                        have e52 := Z5.2.1 t0 2 tt
                        have qG := (inv_szG h).2
                        have qL := (inv_el h txe).elim (fun l0 q => (Option.some.inj (q.1.symm.trans w.2.2.2.2.2.2.1)) ▸ q.2.2.2.2.2)
                        refine lv_aload_n hx hb dX14_does_323 rfl (lv_at hl 8 rfl) ?_
                        refine gf_X14_350 F hB dX14_does_324 (by exact tp) ?_
                        refine lv_bipush (v := 115) hx hb dX14_does_327 (by decide) ?_
                        refine lv_icmp_ne (tgt := 346) hx hb dX14_does_329 (by decide) (fun c329 => ?_) (fun c329 => ?_)
                        · refine lv_aload hx hb dX14_does_346 (lv_at hl 6 rfl) ?_
                          refine gf_X14_300 F hB dX14_does_348 (by exact txe) ?_
                          refine lv_if_eq (tgt := 368) hx hb dX14_does_351 (by decide) (fun c351 => ?_) (fun c351 => ?_)
                          · refine lv_aload_n hx hb dX14_does_368 rfl (lv_at hl 9 rfl) ?_
                            refine lv_iload_n hx hb dX14_does_369 rfl (lv_at hl 10 rfl) ?_
                            refine lv_aload hx hb dX14_does_370 (lv_at hl 6 rfl) ?_
                            refine lv_iload hx hb dX14_does_372 (lv_at hl 5 rfl) ?_
                            refine lv_iload hx hb dX14_does_374 (lv_at hl 0 rfl) ?_
                            refine sg_callV (ci := 19) F hB (m_goes l D cy hI322 hY x wZ b122 _ ⟨(hb0 (d5.symm.trans c351)).1, hb122.2⟩ (by rw [e51, e52]; exact (hb0 (d5.symm.trans c351)).2) c351 (by first | exact ⟨by decide, by decide⟩ | exact hch) (by rw [s5]; omega) _) (cwV 4 F.1.2.2.2.2 (mgV (mm_12 _ (List.mem_of_getElem? (i := 38) rfl)) (mm_12 _ (List.mem_of_getElem? (i := 39) rfl)) (mm_13 _ (List.mem_of_getElem? (i := 0) rfl)) (mm_3 _ (List.mem_of_getElem? (i := 23) rfl)) (mm_12 _ (List.mem_of_getElem? (i := 27) rfl))) rfl rfl rfl ⟨rfl, by decide, by decide, by decide +kernel⟩ ⟨Nat.le_of_ble_eq_true rfl, Nat.le_of_ble_eq_true rfl⟩) rfl rfl (by decide) rfl hl.1 rfl (Nat.le_of_ble_eq_true rfl) dX14_does_376 (Nat.le_of_ble_eq_true rfl) (Nat.add_le_add_right (Nat.le_of_ble_eq_true rfl) _) (inv_A hI322) (fun H locs v σ376 N hBn hX376 hP => ?_)
                            clear hB; have hB := hBn; clear hBn
                            obtain ⟨⟨y376, rfl, hy376⟩, hI376⟩ := hP
                            exact sg_iretd F hB hrt dX14_does_379 (by decide) (by decide) (fun z => by first | (rcases hy340 with q | q <;> (rw [q] at z; exact absurd z (by decide))) | (rcases hy362 with q | q <;> (rw [q] at z; exact absurd z (by decide))) | (rcases hy376 with q | q <;> (rw [q] at z; exact absurd z (by decide)))) (by first | exact ⟨_, hw2, rfl, hI376, Or.inr ⟨hy340, by omega⟩⟩ | exact ⟨_, hw2, rfl, hI376, Or.inr ⟨hy362, by omega⟩⟩ | exact ⟨_, hw2, rfl, hI376, Or.inr ⟨hy376, by omega⟩⟩)
                          · refine lv_aload_n hx hb dX14_does_354 rfl (lv_at hl 9 rfl) ?_
                            refine lv_iload_n hx hb dX14_does_355 rfl (lv_at hl 10 rfl) ?_
                            refine lv_aload hx hb dX14_does_356 (lv_at hl 6 rfl) ?_
                            refine lv_iload hx hb dX14_does_358 (lv_at hl 5 rfl) ?_
                            refine lv_iload hx hb dX14_does_360 (lv_at hl 0 rfl) ?_
                            refine sg_callV (ci := 19) F hB (m_comes l D cy hI322 hY x wZ b122 _ hb122 (by rw [s5]; exact (hb1 (fun q => c351 (d5.trans q))).1) c351 c329 (by first | exact ⟨by decide, by decide⟩ | exact hch) (by rw [sG5]; omega) _) (cwV 4 F.1.2.2.2.2 (mgV (mm_12 _ (List.mem_of_getElem? (i := 35) rfl)) (mm_12 _ (List.mem_of_getElem? (i := 36) rfl)) (mm_12 _ (List.mem_of_getElem? (i := 37) rfl)) (mm_3 _ (List.mem_of_getElem? (i := 23) rfl)) (mm_12 _ (List.mem_of_getElem? (i := 26) rfl))) rfl rfl rfl ⟨rfl, by decide, by decide, by decide +kernel⟩ ⟨Nat.le_of_ble_eq_true rfl, Nat.le_of_ble_eq_true rfl⟩) rfl rfl (by decide) rfl hl.1 rfl (Nat.le_of_ble_eq_true rfl) dX14_does_362 (Nat.le_of_ble_eq_true rfl) (Nat.add_le_add_right (Nat.le_of_ble_eq_true rfl) _) (inv_A hI322) (fun H locs v σ362 N hBn hX362 hP => ?_)
                            clear hB; have hB := hBn; clear hBn
                            obtain ⟨⟨y362, rfl, hy362⟩, hI362⟩ := hP
                            refine lv_goto (tgt := 379) hx hb dX14_does_365 (by decide) ?_
                            exact sg_iretd F hB hrt dX14_does_379 (by decide) (by decide) (fun z => by first | (rcases hy340 with q | q <;> (rw [q] at z; exact absurd z (by decide))) | (rcases hy362 with q | q <;> (rw [q] at z; exact absurd z (by decide))) | (rcases hy376 with q | q <;> (rw [q] at z; exact absurd z (by decide)))) (by first | exact ⟨_, hw2, rfl, hI362, Or.inr ⟨hy340, by omega⟩⟩ | exact ⟨_, hw2, rfl, hI362, Or.inr ⟨hy362, by omega⟩⟩ | exact ⟨_, hw2, rfl, hI362, Or.inr ⟨hy376, by omega⟩⟩)
                        · refine lv_aload_n hx hb dX14_does_332 rfl (lv_at hl 9 rfl) ?_
                          refine lv_iload_n hx hb dX14_does_333 rfl (lv_at hl 10 rfl) ?_
                          refine lv_aload hx hb dX14_does_334 (lv_at hl 6 rfl) ?_
                          refine lv_iload hx hb dX14_does_336 (lv_at hl 5 rfl) ?_
                          refine lv_iload hx hb dX14_does_338 (lv_at hl 0 rfl) ?_
                          refine sg_callV (ci := 19) F hB (m_sounds l D cy hI322 hY x wZ b122 _ hb122 (fun z => by rw [s5]; exact (hb1 (fun q => z (d5.trans q))).1) (fun z => by rw [e51, e52]; exact (hb0 (d5.symm.trans z)).2) c329 (by first | exact ⟨by decide, by decide⟩ | exact hch) (by rw [s5]; omega) (by rw [sG5]; omega) _) (cwV 4 F.1.2.2.2.2 (mgV (mm_12 _ (List.mem_of_getElem? (i := 32) rfl)) (mm_12 _ (List.mem_of_getElem? (i := 33) rfl)) (mm_12 _ (List.mem_of_getElem? (i := 34) rfl)) (mm_3 _ (List.mem_of_getElem? (i := 23) rfl)) (mm_12 _ (List.mem_of_getElem? (i := 4) rfl))) rfl rfl rfl ⟨rfl, by decide, by decide, by decide +kernel⟩ ⟨Nat.le_of_ble_eq_true rfl, Nat.le_of_ble_eq_true rfl⟩) rfl rfl (by decide) rfl hl.1 rfl (Nat.le_of_ble_eq_true rfl) dX14_does_340 (Nat.le_of_ble_eq_true rfl) (Nat.add_le_add_right (Nat.le_of_ble_eq_true rfl) _) (inv_A hI322) (fun H locs v σ340 N hBn hX340 hP => ?_)
                          clear hB; have hB := hBn; clear hBn
                          obtain ⟨⟨y340, rfl, hy340⟩, hI340⟩ := hP
                          refine lv_goto (tgt := 379) hx hb dX14_does_343 (by decide) ?_
                          exact sg_iretd F hB hrt dX14_does_379 (by decide) (by decide) (fun z => by first | (rcases hy340 with q | q <;> (rw [q] at z; exact absurd z (by decide))) | (rcases hy362 with q | q <;> (rw [q] at z; exact absurd z (by decide))) | (rcases hy376 with q | q <;> (rw [q] at z; exact absurd z (by decide)))) (by first | exact ⟨_, hw2, rfl, hI340, Or.inr ⟨hy340, by omega⟩⟩ | exact ⟨_, hw2, rfl, hI340, Or.inr ⟨hy362, by omega⟩⟩ | exact ⟨_, hw2, rfl, hI340, Or.inr ⟨hy376, by omega⟩⟩)
                  · refine lv_iload hx hb dX14_does_187 (lv_at hl 0 rfl) ?_
                    refine lv_aload_n hx hb dX14_does_189 rfl (lv_at hl 7 rfl) ?_
                    refine gr_X14_45 F hB dX14_does_190 (inv_A h) (inv_r12 h) ?_
                    refine lv_iload hx hb dX14_does_193 (lv_at hl 1 rfl) ?_
                    refine sg_iald hx hb F.2.1 hB.1 dX14_does_195 (inv_tH h).1 (by omega) (m_ltN (n := 16) (inv_tH h).2 (by omega)) (m_ltM (inv_tH h).2 (by decide)) ?_
                    refine lv_icmp_le (tgt := 201) hx hb dX14_does_196 (by decide) (fun c196 => ?_) (fun c196 => ?_)
                    · have hle9 := i_nlt c179
                      refine lv_aload_n hx hb dX14_does_201 rfl (lv_at hl 7 rfl) ?_
                      refine lv_dup hx hb dX14_does_202 rfl ?_
                      refine gf_X14_42 F hB dX14_does_203 (inv_A h) ?_
                      refine lv_iload hx hb dX14_does_206 (lv_at hl 2 rfl) ?_
                      refine sg_callS F hB (m_hostCost l D cy _ _) (cwS 1 F.1.2.2.2.2 (mgS (mm_8 _ (List.mem_of_getElem? (i := 19) rfl)) (mm_8 _ (List.mem_of_getElem? (i := 20) rfl)) (mm_3 _ (List.mem_of_getElem? (i := 23) rfl)) (mm_8 _ (List.mem_of_getElem? (i := 10) rfl))) rfl rfl rfl ⟨rfl, by decide, by decide, by decide +kernel⟩ ⟨Nat.le_of_ble_eq_true rfl, Nat.le_of_ble_eq_true rfl⟩) rfl hl.1 rfl (Nat.le_of_ble_eq_true rfl) dX14_does_208 (Nat.le_of_ble_eq_true rfl) (Nat.add_le_add_right (Nat.le_of_ble_eq_true rfl) _)  (fun H locs v σ208 N hBn hX208 hP => ?_)
                      clear hB; have hB := hBn; clear hBn
                      obtain ⟨rfl, rfl⟩ := hP
                      refine lv_isub hx hb dX14_does_211 ?_
                      refine pf_X14_42 F hB dX14_does_212 (inv_A h) (fun H locs hBn => ?_)
                      clear hB; have hB := hBn; clear hBn
                      obtain ⟨hw2, hh2⟩ : ∃ hw2 : Nat, (hw2 : Int) = hw - 2 - sn.toInt := ⟨(hw - 2 - sn.toInt).toNat, by rw [m_hcv hsn.1.1 hsn.1.2] at hle9; omega⟩
                      have hI212 := inv_hlB hB h (m_hlv hwe hw100 hsn.1.1 hsn.1.2 hh2) (by omega)
                      refine lv_aload_n hx hb dX14_does_215 rfl (lv_at hl 7 rfl) ?_
                      refine lv_dup hx hb dX14_does_216 rfl ?_
                      refine gf_X14_347 F hB dX14_does_217 (inv_A hI212) ?_
                      refine lv_iload hx hb dX14_does_220 (lv_at hl 2 rfl) ?_
                      refine sg_callS F hB (m_hostCost l D cy _ _) (cwS 1 F.1.2.2.2.2 (mgS (mm_8 _ (List.mem_of_getElem? (i := 19) rfl)) (mm_8 _ (List.mem_of_getElem? (i := 20) rfl)) (mm_3 _ (List.mem_of_getElem? (i := 23) rfl)) (mm_8 _ (List.mem_of_getElem? (i := 10) rfl))) rfl rfl rfl ⟨rfl, by decide, by decide, by decide +kernel⟩ ⟨Nat.le_of_ble_eq_true rfl, Nat.le_of_ble_eq_true rfl⟩) rfl hl.1 rfl (Nat.le_of_ble_eq_true rfl) dX14_does_222 (Nat.le_of_ble_eq_true rfl) (Nat.add_le_add_right (Nat.le_of_ble_eq_true rfl) _)  (fun H locs v σ222 N hBn hX222 hP => ?_)
                      clear hB; have hB := hBn; clear hBn
                      obtain ⟨rfl, rfl⟩ := hP
                      refine lv_i2l hx hb dX14_does_225 rfl ?_
                      refine lv_ladd hx hb dX14_does_226 ?_
                      refine pf_X14_347 F hB dX14_does_227 (inv_A hI212) (fun H locs hBn => ?_)
                      clear hB; have hB := hBn; clear hBn
                      have hI227 := inv_PJc hB hI212
                      refine lv_aload_n hx hb dX14_does_230 rfl (lv_at hl 7 rfl) ?_
                      refine gr_X14_45 F hB dX14_does_231 (inv_A hI227) (inv_r12 hI227) ?_
                      refine lv_iload hx hb dX14_does_234 (lv_at hl 1 rfl) ?_
                      refine lv_dup2_11 hx hb dX14_does_236 rfl rfl ?_
                      refine sg_iald hx hb F.2.1 hB.1 dX14_does_237 (inv_tH hI227).1 (by omega) (m_ltN (n := 16) (inv_tH hI227).2 (by omega)) (m_ltM (inv_tH hI227).2 (by decide)) ?_
                      refine lv_iload hx hb dX14_does_238 (lv_at hl 0 rfl) ?_
                      refine lv_isub hx hb dX14_does_240 ?_
                      refine sg_iast hx hb F.2.1 hB.1 dX14_does_241 (inv_tH hI227).1 (by omega) (m_ltN (n := 16) (inv_tH hI227).2 (by omega)) (m_ltM (inv_tH hI227).2 (by decide)) (fun H locs hs1 => ?_)
                      have hBn := sgB_w hB hs1 (fun _ => rfl) (fun _ => rfl) (Nat.le_of_eq (sgPot_I (Or.inl (by rw [show sgT _ _ = _ from (inv_tH hI227).1]; decide))))
                      clear hB; have hB := hBn; clear hBn
                      have hI241 := inv_PIc (t := 100) hB hI227 (inv_tH hI227).1 (by unfold iCn; omega)
                      refine lv_aload_n hx hb dX14_does_242 rfl (lv_at hl 7 rfl) ?_
                      refine lv_dup hx hb dX14_does_243 rfl ?_
                      refine gf_X14_163 F hB dX14_does_244 (inv_A hI241) ?_
                      refine lv_iconst (v := 1) hx hb dX14_does_247 (by decide) ?_
                      refine lv_iadd hx hb dX14_does_248 ?_
                      refine pf_X14_163 F hB dX14_does_249 (inv_A hI241) (fun H locs hBn => ?_)
                      clear hB; have hB := hBn; clear hBn
                      have hI249 := inv_PIc (t := 20) hB hI241 (inv_A hI241) (by unfold iCn; omega)
                      have Zc := zz4 (l1 := l1) hB (inv_A h) (inv_tH h).1 tl
                      have ZL := zz4 (l1 := le) hB (inv_A h) (inv_tH h).1 tle
                      have ZG := zz4 (l1 := kG K) hB (inv_A h) (inv_tH h).1 (inv_tG h).1
                      obtain ⟨ee, ff, lf, en1, en2, en3, en4, en5, en6, en7, en8, en9⟩ := inv_ends h (k := (sgI σ b5 0).toInt.toNat) (by omega)
                      refine lv_aload_n hx hb dX14_does_252 rfl (lv_at hl 7 rfl) ?_
                      refine gr_X14_10 F hB dX14_does_253 (inv_A hI249) (inv_r1 hI249) ?_
                      refine lv_aload_n hx hb dX14_does_256 rfl (lv_at hl 6 rfl) ?_
                      refine gf_X14_133 F hB dX14_does_257 (by exact tp) ?_
                      rw [Zc.2.2.1 b5 0 tp (by decide)]
                      refine sg_callV (ci := 4) F hB (m_getD l D cy hI249 (sgI σ b5 0) (by omega) (by omega) _) (cwV 1 F.1.2.2.2.2 (mgV (mm_4 _ (List.mem_of_getElem? (i := 3) rfl)) (mm_4 _ (List.mem_of_getElem? (i := 4) rfl)) (mm_4 _ (List.mem_of_getElem? (i := 5) rfl)) (mm_0 _ (List.mem_of_getElem? (i := 35) rfl)) (mm_3 _ (List.mem_of_getElem? (i := 34) rfl))) rfl rfl rfl ⟨rfl, by decide, by decide, by decide +kernel⟩ ⟨Nat.le_of_ble_eq_true rfl, Nat.le_of_ble_eq_true rfl⟩) rfl rfl (by decide) rfl hl.1 rfl (Nat.le_of_ble_eq_true rfl) dX14_does_260 (Nat.le_of_ble_eq_true rfl) (Nat.add_le_add_right (Nat.le_of_ble_eq_true rfl) _) (inv_tD hI249).1 (fun H locs v σ260 N hBn hX260 hP => ?_)
                      clear hB; have hB := hBn; clear hBn
                      obtain ⟨rfl, rfl⟩ := hP
                      have dv260 := (inv_dv hI249 (k := ((sgI σ b5 0) : Int32).toInt.toNat) (by omega)).2.1
                      refine va_castY hx hb hown (F.1.2.2.2.2 _ (List.mem_cons_of_mem _ (mm_4 _ (List.mem_of_getElem? (i := 2) rfl)))) (F.2.2.1.2.2 ("HubcascadeModel$Device", "HubcascadeModel$Device") (by decide +kernel)) (sg_recv (ci := 15) F.2.1 hB (by assumption) (by decide) rfl) dX14_does_263 ?_
                      refine lv_astore (lv' := [(9, .ref _), (8, .int _), (7, .int _), (6, .int _), (5, .int _), (4, .ref _), (3, .int _), (2, .ref _), (0, .ref _), (1, .int _)]) hx hb dX14_does_266 hl (by decide) rfl (fun ls hl => ?_)
                      refine lv_aload hx hb dX14_does_268 (lv_at hl 0 rfl) ?_
                      refine gr_X14_166 F hB dX14_does_270 dv260 (by exact en3) ?_
                      refine lv_aload_n hx hb dX14_does_273 rfl (lv_at hl 7 rfl) ?_
                      refine gf_X14_235 F hB dX14_does_274 (by exact tp) ?_
                      rw [Zc.2.2.1 b5 1 tp (by decide)]
                      refine sg_iald hx hb F.2.1 hB.1 dX14_does_277 (by exact en8) (by omega) (m_ltN en9 (by omega)) (m_ltM en9 (by decide)) ?_
                      refine lv_if_le (tgt := 294) hx hb dX14_does_278 (by decide) (fun c278 => ?_) (fun c278 => ?_)
                      · refine lv_bipush (v := 32) hx hb dX14_does_294 (by decide) ?_
                        refine lv_istore (lv' := [(10, .int _), (9, .ref _), (8, .int _), (7, .int _), (6, .int _), (5, .int _), (4, .ref _), (3, .int _), (2, .ref _), (0, .ref _), (1, .int _)]) hx hb dX14_does_296 hl (by decide) rfl (fun ls hl => ?_)
                        refine lv_aload hx hb dX14_does_298 (lv_at hl 1 rfl) ?_
                        refine gr_X14_166 F hB dX14_does_300 dv260 (by exact en3) ?_
                        refine lv_aload_n hx hb dX14_does_303 rfl (lv_at hl 8 rfl) ?_
                        refine gf_X14_235 F hB dX14_does_304 (by exact tp) ?_
                        rw [Zc.2.2.1 b5 1 tp (by decide)]
                        refine lv_dup2_11 hx hb dX14_does_307 rfl rfl ?_
                        refine sg_iald hx hb F.2.1 hB.1 dX14_does_308 (by exact en8) (by omega) (m_ltN en9 (by omega)) (m_ltM en9 (by decide)) ?_
                        refine lv_iload hx hb dX14_does_309 (lv_at hl 0 rfl) ?_
                        refine lv_bipush (v := 32) hx hb dX14_does_311 (by decide) ?_
                        refine lv_icmp_ne (tgt := 320) hx hb dX14_does_313 (by decide) (fun c313 => (by first | exact absurd c313 (by decide) | exact (c313 (by decide)).elim)) (fun c313 => ?_)
                        refine lv_iconst (v := 0) hx hb dX14_does_316 (by decide) ?_
                        refine lv_goto (tgt := 321) hx hb dX14_does_317 (by decide) ?_
                        refine lv_isub hx hb dX14_does_321 ?_
                        refine sg_iast hx hb F.2.1 hB.1 dX14_does_322 (by exact en8) (by omega) (m_ltN en9 (by omega)) (m_ltM en9 (by decide)) (fun H locs hs1 => ?_)
                        have hBn := sgB_w hB hs1 (fun _ => rfl) (fun _ => rfl) (Nat.le_of_eq (sgPot_I (Or.inl (by rw [show sgT _ _ = _ from (by exact en8)]; decide))))
                        clear hB; have hB := hBn; clear hBn
                        have hI322 := inv_PIc (t := 100) hB hI249 (by exact en8) (by unfold iCn; omega)
                        have Z5 := zz5 hB Zc (by exact en8) (by exact tl)
                        have Z5L := zz5 hB ZL (by exact en8) (by exact tle)
                        have Z5G := zz5 hB ZG (by exact en8) (by exact (inv_tG h).1)
                        have wZ := wPp_z h w Z5
                        have s5 := Z5L.2.2.2.2.2.1
                        have sG5 := Z5G.2.2.2.2.2.1
                        have d5 := Z5.2.2.2.1 xe 0 txe (by decide)
                        have e51 := Z5.2.1 t0 1 tt
                        have e52 := Z5.2.1 t0 2 tt
                        have qG := (inv_szG h).2
                        have qL := (inv_el h txe).elim (fun l0 q => (Option.some.inj (q.1.symm.trans w.2.2.2.2.2.2.1)) ▸ q.2.2.2.2.2)
                        refine lv_aload_n hx hb dX14_does_323 rfl (lv_at hl 8 rfl) ?_
                        refine gf_X14_350 F hB dX14_does_324 (by exact tp) ?_
                        refine lv_bipush (v := 115) hx hb dX14_does_327 (by decide) ?_
                        refine lv_icmp_ne (tgt := 346) hx hb dX14_does_329 (by decide) (fun c329 => ?_) (fun c329 => ?_)
                        · refine lv_aload hx hb dX14_does_346 (lv_at hl 6 rfl) ?_
                          refine gf_X14_300 F hB dX14_does_348 (by exact txe) ?_
                          refine lv_if_eq (tgt := 368) hx hb dX14_does_351 (by decide) (fun c351 => ?_) (fun c351 => ?_)
                          · refine lv_aload_n hx hb dX14_does_368 rfl (lv_at hl 9 rfl) ?_
                            refine lv_iload_n hx hb dX14_does_369 rfl (lv_at hl 10 rfl) ?_
                            refine lv_aload hx hb dX14_does_370 (lv_at hl 6 rfl) ?_
                            refine lv_iload hx hb dX14_does_372 (lv_at hl 5 rfl) ?_
                            refine lv_iload hx hb dX14_does_374 (lv_at hl 0 rfl) ?_
                            refine sg_callV (ci := 19) F hB (m_goes l D cy hI322 hY x wZ b122 _ ⟨(hb0 (d5.symm.trans c351)).1, hb122.2⟩ (by rw [e51, e52]; exact (hb0 (d5.symm.trans c351)).2) c351 (by first | exact ⟨by decide, by decide⟩ | exact hch) (by rw [s5]; omega) _) (cwV 4 F.1.2.2.2.2 (mgV (mm_12 _ (List.mem_of_getElem? (i := 38) rfl)) (mm_12 _ (List.mem_of_getElem? (i := 39) rfl)) (mm_13 _ (List.mem_of_getElem? (i := 0) rfl)) (mm_3 _ (List.mem_of_getElem? (i := 23) rfl)) (mm_12 _ (List.mem_of_getElem? (i := 27) rfl))) rfl rfl rfl ⟨rfl, by decide, by decide, by decide +kernel⟩ ⟨Nat.le_of_ble_eq_true rfl, Nat.le_of_ble_eq_true rfl⟩) rfl rfl (by decide) rfl hl.1 rfl (Nat.le_of_ble_eq_true rfl) dX14_does_376 (Nat.le_of_ble_eq_true rfl) (Nat.add_le_add_right (Nat.le_of_ble_eq_true rfl) _) (inv_A hI322) (fun H locs v σ376 N hBn hX376 hP => ?_)
                            clear hB; have hB := hBn; clear hBn
                            obtain ⟨⟨y376, rfl, hy376⟩, hI376⟩ := hP
                            exact sg_iretd F hB hrt dX14_does_379 (by decide) (by decide) (fun z => by first | (rcases hy340 with q | q <;> (rw [q] at z; exact absurd z (by decide))) | (rcases hy362 with q | q <;> (rw [q] at z; exact absurd z (by decide))) | (rcases hy376 with q | q <;> (rw [q] at z; exact absurd z (by decide)))) (by first | exact ⟨_, hw2, rfl, hI376, Or.inr ⟨hy340, by omega⟩⟩ | exact ⟨_, hw2, rfl, hI376, Or.inr ⟨hy362, by omega⟩⟩ | exact ⟨_, hw2, rfl, hI376, Or.inr ⟨hy376, by omega⟩⟩)
                          · refine lv_aload_n hx hb dX14_does_354 rfl (lv_at hl 9 rfl) ?_
                            refine lv_iload_n hx hb dX14_does_355 rfl (lv_at hl 10 rfl) ?_
                            refine lv_aload hx hb dX14_does_356 (lv_at hl 6 rfl) ?_
                            refine lv_iload hx hb dX14_does_358 (lv_at hl 5 rfl) ?_
                            refine lv_iload hx hb dX14_does_360 (lv_at hl 0 rfl) ?_
                            refine sg_callV (ci := 19) F hB (m_comes l D cy hI322 hY x wZ b122 _ hb122 (by rw [s5]; exact (hb1 (fun q => c351 (d5.trans q))).1) c351 c329 (by first | exact ⟨by decide, by decide⟩ | exact hch) (by rw [sG5]; omega) _) (cwV 4 F.1.2.2.2.2 (mgV (mm_12 _ (List.mem_of_getElem? (i := 35) rfl)) (mm_12 _ (List.mem_of_getElem? (i := 36) rfl)) (mm_12 _ (List.mem_of_getElem? (i := 37) rfl)) (mm_3 _ (List.mem_of_getElem? (i := 23) rfl)) (mm_12 _ (List.mem_of_getElem? (i := 26) rfl))) rfl rfl rfl ⟨rfl, by decide, by decide, by decide +kernel⟩ ⟨Nat.le_of_ble_eq_true rfl, Nat.le_of_ble_eq_true rfl⟩) rfl rfl (by decide) rfl hl.1 rfl (Nat.le_of_ble_eq_true rfl) dX14_does_362 (Nat.le_of_ble_eq_true rfl) (Nat.add_le_add_right (Nat.le_of_ble_eq_true rfl) _) (inv_A hI322) (fun H locs v σ362 N hBn hX362 hP => ?_)
                            clear hB; have hB := hBn; clear hBn
                            obtain ⟨⟨y362, rfl, hy362⟩, hI362⟩ := hP
                            refine lv_goto (tgt := 379) hx hb dX14_does_365 (by decide) ?_
                            exact sg_iretd F hB hrt dX14_does_379 (by decide) (by decide) (fun z => by first | (rcases hy340 with q | q <;> (rw [q] at z; exact absurd z (by decide))) | (rcases hy362 with q | q <;> (rw [q] at z; exact absurd z (by decide))) | (rcases hy376 with q | q <;> (rw [q] at z; exact absurd z (by decide)))) (by first | exact ⟨_, hw2, rfl, hI362, Or.inr ⟨hy340, by omega⟩⟩ | exact ⟨_, hw2, rfl, hI362, Or.inr ⟨hy362, by omega⟩⟩ | exact ⟨_, hw2, rfl, hI362, Or.inr ⟨hy376, by omega⟩⟩)
                        · refine lv_aload_n hx hb dX14_does_332 rfl (lv_at hl 9 rfl) ?_
                          refine lv_iload_n hx hb dX14_does_333 rfl (lv_at hl 10 rfl) ?_
                          refine lv_aload hx hb dX14_does_334 (lv_at hl 6 rfl) ?_
                          refine lv_iload hx hb dX14_does_336 (lv_at hl 5 rfl) ?_
                          refine lv_iload hx hb dX14_does_338 (lv_at hl 0 rfl) ?_
                          refine sg_callV (ci := 19) F hB (m_sounds l D cy hI322 hY x wZ b122 _ hb122 (fun z => by rw [s5]; exact (hb1 (fun q => z (d5.trans q))).1) (fun z => by rw [e51, e52]; exact (hb0 (d5.symm.trans z)).2) c329 (by first | exact ⟨by decide, by decide⟩ | exact hch) (by rw [s5]; omega) (by rw [sG5]; omega) _) (cwV 4 F.1.2.2.2.2 (mgV (mm_12 _ (List.mem_of_getElem? (i := 32) rfl)) (mm_12 _ (List.mem_of_getElem? (i := 33) rfl)) (mm_12 _ (List.mem_of_getElem? (i := 34) rfl)) (mm_3 _ (List.mem_of_getElem? (i := 23) rfl)) (mm_12 _ (List.mem_of_getElem? (i := 4) rfl))) rfl rfl rfl ⟨rfl, by decide, by decide, by decide +kernel⟩ ⟨Nat.le_of_ble_eq_true rfl, Nat.le_of_ble_eq_true rfl⟩) rfl rfl (by decide) rfl hl.1 rfl (Nat.le_of_ble_eq_true rfl) dX14_does_340 (Nat.le_of_ble_eq_true rfl) (Nat.add_le_add_right (Nat.le_of_ble_eq_true rfl) _) (inv_A hI322) (fun H locs v σ340 N hBn hX340 hP => ?_)
                          clear hB; have hB := hBn; clear hBn
                          obtain ⟨⟨y340, rfl, hy340⟩, hI340⟩ := hP
                          refine lv_goto (tgt := 379) hx hb dX14_does_343 (by decide) ?_
                          exact sg_iretd F hB hrt dX14_does_379 (by decide) (by decide) (fun z => by first | (rcases hy340 with q | q <;> (rw [q] at z; exact absurd z (by decide))) | (rcases hy362 with q | q <;> (rw [q] at z; exact absurd z (by decide))) | (rcases hy376 with q | q <;> (rw [q] at z; exact absurd z (by decide)))) (by first | exact ⟨_, hw2, rfl, hI340, Or.inr ⟨hy340, by omega⟩⟩ | exact ⟨_, hw2, rfl, hI340, Or.inr ⟨hy362, by omega⟩⟩ | exact ⟨_, hw2, rfl, hI340, Or.inr ⟨hy376, by omega⟩⟩)
                      · refine lv_aload hx hb dX14_does_281 (lv_at hl 0 rfl) ?_
                        refine gr_X14_334 F hB dX14_does_283 dv260 (by exact en2) ?_
                        refine lv_aload_n hx hb dX14_does_286 rfl (lv_at hl 7 rfl) ?_
                        refine gf_X14_235 F hB dX14_does_287 (by exact tp) ?_
                        rw [Zc.2.2.1 b5 1 tp (by decide)]
                        refine sg_cald hx hb F.2.1 hB.1 dX14_does_290 (by exact en6) (by omega) (m_ltN en7 (by omega)) (m_ltM en7 (by decide)) ?_
                        have hch := hB.1.1.2.2.1 ff (sgI σ b5 1).toInt.toNat (by exact en6)
                        refine lv_goto (tgt := 296) hx hb dX14_does_291 (by decide) ?_
                        refine lv_istore (lv' := [(10, .int _), (9, .ref _), (8, .int _), (7, .int _), (6, .int _), (5, .int _), (4, .ref _), (3, .int _), (2, .ref _), (0, .ref _), (1, .int _)]) hx hb dX14_does_296 hl (by decide) rfl (fun ls hl => ?_)
                        refine lv_aload hx hb dX14_does_298 (lv_at hl 1 rfl) ?_
                        refine gr_X14_166 F hB dX14_does_300 dv260 (by exact en3) ?_
                        refine lv_aload_n hx hb dX14_does_303 rfl (lv_at hl 8 rfl) ?_
                        refine gf_X14_235 F hB dX14_does_304 (by exact tp) ?_
                        rw [Zc.2.2.1 b5 1 tp (by decide)]
                        refine lv_dup2_11 hx hb dX14_does_307 rfl rfl ?_
                        refine sg_iald hx hb F.2.1 hB.1 dX14_does_308 (by exact en8) (by omega) (m_ltN en9 (by omega)) (m_ltM en9 (by decide)) ?_
                        refine lv_iload hx hb dX14_does_309 (lv_at hl 0 rfl) ?_
                        refine lv_bipush (v := 32) hx hb dX14_does_311 (by decide) ?_
                        refine lv_icmp_ne (tgt := 320) hx hb dX14_does_313 (by decide) (fun c313 => ?_) (fun c313 => ?_)
                        · refine lv_iconst (v := 1) hx hb dX14_does_320 (by decide) ?_
                          refine lv_isub hx hb dX14_does_321 ?_
                          refine sg_iast hx hb F.2.1 hB.1 dX14_does_322 (by exact en8) (by omega) (m_ltN en9 (by omega)) (m_ltM en9 (by decide)) (fun H locs hs1 => ?_)
                          have hBn := sgB_w hB hs1 (fun _ => rfl) (fun _ => rfl) (Nat.le_of_eq (sgPot_I (Or.inl (by rw [show sgT _ _ = _ from (by exact en8)]; decide))))
                          clear hB; have hB := hBn; clear hBn
                          have hI322 := inv_PIc (t := 100) hB hI249 (by exact en8) (by unfold iCn; omega)
                          have Z5 := zz5 hB Zc (by exact en8) (by exact tl)
                          have Z5L := zz5 hB ZL (by exact en8) (by exact tle)
                          have Z5G := zz5 hB ZG (by exact en8) (by exact (inv_tG h).1)
                          have wZ := wPp_z h w Z5
                          have s5 := Z5L.2.2.2.2.2.1
                          have sG5 := Z5G.2.2.2.2.2.1
                          have d5 := Z5.2.2.2.1 xe 0 txe (by decide)
                          have e51 := Z5.2.1 t0 1 tt
                          have e52 := Z5.2.1 t0 2 tt
                          have qG := (inv_szG h).2
                          have qL := (inv_el h txe).elim (fun l0 q => (Option.some.inj (q.1.symm.trans w.2.2.2.2.2.2.1)) ▸ q.2.2.2.2.2)
                          refine lv_aload_n hx hb dX14_does_323 rfl (lv_at hl 8 rfl) ?_
                          refine gf_X14_350 F hB dX14_does_324 (by exact tp) ?_
                          refine lv_bipush (v := 115) hx hb dX14_does_327 (by decide) ?_
                          refine lv_icmp_ne (tgt := 346) hx hb dX14_does_329 (by decide) (fun c329 => ?_) (fun c329 => ?_)
                          · refine lv_aload hx hb dX14_does_346 (lv_at hl 6 rfl) ?_
                            refine gf_X14_300 F hB dX14_does_348 (by exact txe) ?_
                            refine lv_if_eq (tgt := 368) hx hb dX14_does_351 (by decide) (fun c351 => ?_) (fun c351 => ?_)
                            · refine lv_aload_n hx hb dX14_does_368 rfl (lv_at hl 9 rfl) ?_
                              refine lv_iload_n hx hb dX14_does_369 rfl (lv_at hl 10 rfl) ?_
                              refine lv_aload hx hb dX14_does_370 (lv_at hl 6 rfl) ?_
                              refine lv_iload hx hb dX14_does_372 (lv_at hl 5 rfl) ?_
                              refine lv_iload hx hb dX14_does_374 (lv_at hl 0 rfl) ?_
                              refine sg_callV (ci := 19) F hB (m_goes l D cy hI322 hY x wZ b122 _ ⟨(hb0 (d5.symm.trans c351)).1, hb122.2⟩ (by rw [e51, e52]; exact (hb0 (d5.symm.trans c351)).2) c351 (by first | exact ⟨by decide, by decide⟩ | exact hch) (by rw [s5]; omega) _) (cwV 4 F.1.2.2.2.2 (mgV (mm_12 _ (List.mem_of_getElem? (i := 38) rfl)) (mm_12 _ (List.mem_of_getElem? (i := 39) rfl)) (mm_13 _ (List.mem_of_getElem? (i := 0) rfl)) (mm_3 _ (List.mem_of_getElem? (i := 23) rfl)) (mm_12 _ (List.mem_of_getElem? (i := 27) rfl))) rfl rfl rfl ⟨rfl, by decide, by decide, by decide +kernel⟩ ⟨Nat.le_of_ble_eq_true rfl, Nat.le_of_ble_eq_true rfl⟩) rfl rfl (by decide) rfl hl.1 rfl (Nat.le_of_ble_eq_true rfl) dX14_does_376 (Nat.le_of_ble_eq_true rfl) (Nat.add_le_add_right (Nat.le_of_ble_eq_true rfl) _) (inv_A hI322) (fun H locs v σ376 N hBn hX376 hP => ?_)
                              clear hB; have hB := hBn; clear hBn
                              obtain ⟨⟨y376, rfl, hy376⟩, hI376⟩ := hP
                              exact sg_iretd F hB hrt dX14_does_379 (by decide) (by decide) (fun z => by first | (rcases hy340 with q | q <;> (rw [q] at z; exact absurd z (by decide))) | (rcases hy362 with q | q <;> (rw [q] at z; exact absurd z (by decide))) | (rcases hy376 with q | q <;> (rw [q] at z; exact absurd z (by decide)))) (by first | exact ⟨_, hw2, rfl, hI376, Or.inr ⟨hy340, by omega⟩⟩ | exact ⟨_, hw2, rfl, hI376, Or.inr ⟨hy362, by omega⟩⟩ | exact ⟨_, hw2, rfl, hI376, Or.inr ⟨hy376, by omega⟩⟩)
                            · refine lv_aload_n hx hb dX14_does_354 rfl (lv_at hl 9 rfl) ?_
                              refine lv_iload_n hx hb dX14_does_355 rfl (lv_at hl 10 rfl) ?_
                              refine lv_aload hx hb dX14_does_356 (lv_at hl 6 rfl) ?_
                              refine lv_iload hx hb dX14_does_358 (lv_at hl 5 rfl) ?_
                              refine lv_iload hx hb dX14_does_360 (lv_at hl 0 rfl) ?_
                              refine sg_callV (ci := 19) F hB (m_comes l D cy hI322 hY x wZ b122 _ hb122 (by rw [s5]; exact (hb1 (fun q => c351 (d5.trans q))).1) c351 c329 (by first | exact ⟨by decide, by decide⟩ | exact hch) (by rw [sG5]; omega) _) (cwV 4 F.1.2.2.2.2 (mgV (mm_12 _ (List.mem_of_getElem? (i := 35) rfl)) (mm_12 _ (List.mem_of_getElem? (i := 36) rfl)) (mm_12 _ (List.mem_of_getElem? (i := 37) rfl)) (mm_3 _ (List.mem_of_getElem? (i := 23) rfl)) (mm_12 _ (List.mem_of_getElem? (i := 26) rfl))) rfl rfl rfl ⟨rfl, by decide, by decide, by decide +kernel⟩ ⟨Nat.le_of_ble_eq_true rfl, Nat.le_of_ble_eq_true rfl⟩) rfl rfl (by decide) rfl hl.1 rfl (Nat.le_of_ble_eq_true rfl) dX14_does_362 (Nat.le_of_ble_eq_true rfl) (Nat.add_le_add_right (Nat.le_of_ble_eq_true rfl) _) (inv_A hI322) (fun H locs v σ362 N hBn hX362 hP => ?_)
                              clear hB; have hB := hBn; clear hBn
                              obtain ⟨⟨y362, rfl, hy362⟩, hI362⟩ := hP
                              refine lv_goto (tgt := 379) hx hb dX14_does_365 (by decide) ?_
                              exact sg_iretd F hB hrt dX14_does_379 (by decide) (by decide) (fun z => by first | (rcases hy340 with q | q <;> (rw [q] at z; exact absurd z (by decide))) | (rcases hy362 with q | q <;> (rw [q] at z; exact absurd z (by decide))) | (rcases hy376 with q | q <;> (rw [q] at z; exact absurd z (by decide)))) (by first | exact ⟨_, hw2, rfl, hI362, Or.inr ⟨hy340, by omega⟩⟩ | exact ⟨_, hw2, rfl, hI362, Or.inr ⟨hy362, by omega⟩⟩ | exact ⟨_, hw2, rfl, hI362, Or.inr ⟨hy376, by omega⟩⟩)
                          · refine lv_aload_n hx hb dX14_does_332 rfl (lv_at hl 9 rfl) ?_
                            refine lv_iload_n hx hb dX14_does_333 rfl (lv_at hl 10 rfl) ?_
                            refine lv_aload hx hb dX14_does_334 (lv_at hl 6 rfl) ?_
                            refine lv_iload hx hb dX14_does_336 (lv_at hl 5 rfl) ?_
                            refine lv_iload hx hb dX14_does_338 (lv_at hl 0 rfl) ?_
                            refine sg_callV (ci := 19) F hB (m_sounds l D cy hI322 hY x wZ b122 _ hb122 (fun z => by rw [s5]; exact (hb1 (fun q => z (d5.trans q))).1) (fun z => by rw [e51, e52]; exact (hb0 (d5.symm.trans z)).2) c329 (by first | exact ⟨by decide, by decide⟩ | exact hch) (by rw [s5]; omega) (by rw [sG5]; omega) _) (cwV 4 F.1.2.2.2.2 (mgV (mm_12 _ (List.mem_of_getElem? (i := 32) rfl)) (mm_12 _ (List.mem_of_getElem? (i := 33) rfl)) (mm_12 _ (List.mem_of_getElem? (i := 34) rfl)) (mm_3 _ (List.mem_of_getElem? (i := 23) rfl)) (mm_12 _ (List.mem_of_getElem? (i := 4) rfl))) rfl rfl rfl ⟨rfl, by decide, by decide, by decide +kernel⟩ ⟨Nat.le_of_ble_eq_true rfl, Nat.le_of_ble_eq_true rfl⟩) rfl rfl (by decide) rfl hl.1 rfl (Nat.le_of_ble_eq_true rfl) dX14_does_340 (Nat.le_of_ble_eq_true rfl) (Nat.add_le_add_right (Nat.le_of_ble_eq_true rfl) _) (inv_A hI322) (fun H locs v σ340 N hBn hX340 hP => ?_)
                            clear hB; have hB := hBn; clear hBn
                            obtain ⟨⟨y340, rfl, hy340⟩, hI340⟩ := hP
                            refine lv_goto (tgt := 379) hx hb dX14_does_343 (by decide) ?_
                            exact sg_iretd F hB hrt dX14_does_379 (by decide) (by decide) (fun z => by first | (rcases hy340 with q | q <;> (rw [q] at z; exact absurd z (by decide))) | (rcases hy362 with q | q <;> (rw [q] at z; exact absurd z (by decide))) | (rcases hy376 with q | q <;> (rw [q] at z; exact absurd z (by decide)))) (by first | exact ⟨_, hw2, rfl, hI340, Or.inr ⟨hy340, by omega⟩⟩ | exact ⟨_, hw2, rfl, hI340, Or.inr ⟨hy362, by omega⟩⟩ | exact ⟨_, hw2, rfl, hI340, Or.inr ⟨hy376, by omega⟩⟩)
                        · refine lv_iconst (v := 0) hx hb dX14_does_316 (by decide) ?_
                          refine lv_goto (tgt := 321) hx hb dX14_does_317 (by decide) ?_
                          refine lv_isub hx hb dX14_does_321 ?_
                          refine sg_iast hx hb F.2.1 hB.1 dX14_does_322 (by exact en8) (by omega) (m_ltN en9 (by omega)) (m_ltM en9 (by decide)) (fun H locs hs1 => ?_)
                          have hBn := sgB_w hB hs1 (fun _ => rfl) (fun _ => rfl) (Nat.le_of_eq (sgPot_I (Or.inl (by rw [show sgT _ _ = _ from (by exact en8)]; decide))))
                          clear hB; have hB := hBn; clear hBn
                          have hI322 := inv_PIc (t := 100) hB hI249 (by exact en8) (by unfold iCn; omega)
                          have Z5 := zz5 hB Zc (by exact en8) (by exact tl)
                          have Z5L := zz5 hB ZL (by exact en8) (by exact tle)
                          have Z5G := zz5 hB ZG (by exact en8) (by exact (inv_tG h).1)
                          have wZ := wPp_z h w Z5
                          have s5 := Z5L.2.2.2.2.2.1
                          have sG5 := Z5G.2.2.2.2.2.1
                          have d5 := Z5.2.2.2.1 xe 0 txe (by decide)
                          have e51 := Z5.2.1 t0 1 tt
                          have e52 := Z5.2.1 t0 2 tt
                          have qG := (inv_szG h).2
                          have qL := (inv_el h txe).elim (fun l0 q => (Option.some.inj (q.1.symm.trans w.2.2.2.2.2.2.1)) ▸ q.2.2.2.2.2)
                          refine lv_aload_n hx hb dX14_does_323 rfl (lv_at hl 8 rfl) ?_
                          refine gf_X14_350 F hB dX14_does_324 (by exact tp) ?_
                          refine lv_bipush (v := 115) hx hb dX14_does_327 (by decide) ?_
                          refine lv_icmp_ne (tgt := 346) hx hb dX14_does_329 (by decide) (fun c329 => ?_) (fun c329 => ?_)
                          · refine lv_aload hx hb dX14_does_346 (lv_at hl 6 rfl) ?_
                            refine gf_X14_300 F hB dX14_does_348 (by exact txe) ?_
                            refine lv_if_eq (tgt := 368) hx hb dX14_does_351 (by decide) (fun c351 => ?_) (fun c351 => ?_)
                            · refine lv_aload_n hx hb dX14_does_368 rfl (lv_at hl 9 rfl) ?_
                              refine lv_iload_n hx hb dX14_does_369 rfl (lv_at hl 10 rfl) ?_
                              refine lv_aload hx hb dX14_does_370 (lv_at hl 6 rfl) ?_
                              refine lv_iload hx hb dX14_does_372 (lv_at hl 5 rfl) ?_
                              refine lv_iload hx hb dX14_does_374 (lv_at hl 0 rfl) ?_
                              refine sg_callV (ci := 19) F hB (m_goes l D cy hI322 hY x wZ b122 _ ⟨(hb0 (d5.symm.trans c351)).1, hb122.2⟩ (by rw [e51, e52]; exact (hb0 (d5.symm.trans c351)).2) c351 (by first | exact ⟨by decide, by decide⟩ | exact hch) (by rw [s5]; omega) _) (cwV 4 F.1.2.2.2.2 (mgV (mm_12 _ (List.mem_of_getElem? (i := 38) rfl)) (mm_12 _ (List.mem_of_getElem? (i := 39) rfl)) (mm_13 _ (List.mem_of_getElem? (i := 0) rfl)) (mm_3 _ (List.mem_of_getElem? (i := 23) rfl)) (mm_12 _ (List.mem_of_getElem? (i := 27) rfl))) rfl rfl rfl ⟨rfl, by decide, by decide, by decide +kernel⟩ ⟨Nat.le_of_ble_eq_true rfl, Nat.le_of_ble_eq_true rfl⟩) rfl rfl (by decide) rfl hl.1 rfl (Nat.le_of_ble_eq_true rfl) dX14_does_376 (Nat.le_of_ble_eq_true rfl) (Nat.add_le_add_right (Nat.le_of_ble_eq_true rfl) _) (inv_A hI322) (fun H locs v σ376 N hBn hX376 hP => ?_)
                              clear hB; have hB := hBn; clear hBn
                              obtain ⟨⟨y376, rfl, hy376⟩, hI376⟩ := hP
                              exact sg_iretd F hB hrt dX14_does_379 (by decide) (by decide) (fun z => by first | (rcases hy340 with q | q <;> (rw [q] at z; exact absurd z (by decide))) | (rcases hy362 with q | q <;> (rw [q] at z; exact absurd z (by decide))) | (rcases hy376 with q | q <;> (rw [q] at z; exact absurd z (by decide)))) (by first | exact ⟨_, hw2, rfl, hI376, Or.inr ⟨hy340, by omega⟩⟩ | exact ⟨_, hw2, rfl, hI376, Or.inr ⟨hy362, by omega⟩⟩ | exact ⟨_, hw2, rfl, hI376, Or.inr ⟨hy376, by omega⟩⟩)
                            · refine lv_aload_n hx hb dX14_does_354 rfl (lv_at hl 9 rfl) ?_
                              refine lv_iload_n hx hb dX14_does_355 rfl (lv_at hl 10 rfl) ?_
                              refine lv_aload hx hb dX14_does_356 (lv_at hl 6 rfl) ?_
                              refine lv_iload hx hb dX14_does_358 (lv_at hl 5 rfl) ?_
                              refine lv_iload hx hb dX14_does_360 (lv_at hl 0 rfl) ?_
                              refine sg_callV (ci := 19) F hB (m_comes l D cy hI322 hY x wZ b122 _ hb122 (by rw [s5]; exact (hb1 (fun q => c351 (d5.trans q))).1) c351 c329 (by first | exact ⟨by decide, by decide⟩ | exact hch) (by rw [sG5]; omega) _) (cwV 4 F.1.2.2.2.2 (mgV (mm_12 _ (List.mem_of_getElem? (i := 35) rfl)) (mm_12 _ (List.mem_of_getElem? (i := 36) rfl)) (mm_12 _ (List.mem_of_getElem? (i := 37) rfl)) (mm_3 _ (List.mem_of_getElem? (i := 23) rfl)) (mm_12 _ (List.mem_of_getElem? (i := 26) rfl))) rfl rfl rfl ⟨rfl, by decide, by decide, by decide +kernel⟩ ⟨Nat.le_of_ble_eq_true rfl, Nat.le_of_ble_eq_true rfl⟩) rfl rfl (by decide) rfl hl.1 rfl (Nat.le_of_ble_eq_true rfl) dX14_does_362 (Nat.le_of_ble_eq_true rfl) (Nat.add_le_add_right (Nat.le_of_ble_eq_true rfl) _) (inv_A hI322) (fun H locs v σ362 N hBn hX362 hP => ?_)
                              clear hB; have hB := hBn; clear hBn
                              obtain ⟨⟨y362, rfl, hy362⟩, hI362⟩ := hP
                              refine lv_goto (tgt := 379) hx hb dX14_does_365 (by decide) ?_
                              exact sg_iretd F hB hrt dX14_does_379 (by decide) (by decide) (fun z => by first | (rcases hy340 with q | q <;> (rw [q] at z; exact absurd z (by decide))) | (rcases hy362 with q | q <;> (rw [q] at z; exact absurd z (by decide))) | (rcases hy376 with q | q <;> (rw [q] at z; exact absurd z (by decide)))) (by first | exact ⟨_, hw2, rfl, hI362, Or.inr ⟨hy340, by omega⟩⟩ | exact ⟨_, hw2, rfl, hI362, Or.inr ⟨hy362, by omega⟩⟩ | exact ⟨_, hw2, rfl, hI362, Or.inr ⟨hy376, by omega⟩⟩)
                          · refine lv_aload_n hx hb dX14_does_332 rfl (lv_at hl 9 rfl) ?_
                            refine lv_iload_n hx hb dX14_does_333 rfl (lv_at hl 10 rfl) ?_
                            refine lv_aload hx hb dX14_does_334 (lv_at hl 6 rfl) ?_
                            refine lv_iload hx hb dX14_does_336 (lv_at hl 5 rfl) ?_
                            refine lv_iload hx hb dX14_does_338 (lv_at hl 0 rfl) ?_
                            refine sg_callV (ci := 19) F hB (m_sounds l D cy hI322 hY x wZ b122 _ hb122 (fun z => by rw [s5]; exact (hb1 (fun q => z (d5.trans q))).1) (fun z => by rw [e51, e52]; exact (hb0 (d5.symm.trans z)).2) c329 (by first | exact ⟨by decide, by decide⟩ | exact hch) (by rw [s5]; omega) (by rw [sG5]; omega) _) (cwV 4 F.1.2.2.2.2 (mgV (mm_12 _ (List.mem_of_getElem? (i := 32) rfl)) (mm_12 _ (List.mem_of_getElem? (i := 33) rfl)) (mm_12 _ (List.mem_of_getElem? (i := 34) rfl)) (mm_3 _ (List.mem_of_getElem? (i := 23) rfl)) (mm_12 _ (List.mem_of_getElem? (i := 4) rfl))) rfl rfl rfl ⟨rfl, by decide, by decide, by decide +kernel⟩ ⟨Nat.le_of_ble_eq_true rfl, Nat.le_of_ble_eq_true rfl⟩) rfl rfl (by decide) rfl hl.1 rfl (Nat.le_of_ble_eq_true rfl) dX14_does_340 (Nat.le_of_ble_eq_true rfl) (Nat.add_le_add_right (Nat.le_of_ble_eq_true rfl) _) (inv_A hI322) (fun H locs v σ340 N hBn hX340 hP => ?_)
                            clear hB; have hB := hBn; clear hBn
                            obtain ⟨⟨y340, rfl, hy340⟩, hI340⟩ := hP
                            refine lv_goto (tgt := 379) hx hb dX14_does_343 (by decide) ?_
                            exact sg_iretd F hB hrt dX14_does_379 (by decide) (by decide) (fun z => by first | (rcases hy340 with q | q <;> (rw [q] at z; exact absurd z (by decide))) | (rcases hy362 with q | q <;> (rw [q] at z; exact absurd z (by decide))) | (rcases hy376 with q | q <;> (rw [q] at z; exact absurd z (by decide)))) (by first | exact ⟨_, hw2, rfl, hI340, Or.inr ⟨hy340, by omega⟩⟩ | exact ⟨_, hw2, rfl, hI340, Or.inr ⟨hy362, by omega⟩⟩ | exact ⟨_, hw2, rfl, hI340, Or.inr ⟨hy376, by omega⟩⟩)
                    · refine lv_iconst (v := 0) hx hb dX14_does_199 (by decide) ?_
                      exact sg_iretd F hB hrt dX14_does_200 (by decide) (by decide) (fun _ => ⟨rfl, rfl, Nat.le_refl _⟩) (⟨_, hw, rfl, h, Or.inl ⟨rfl, rfl, rfl⟩⟩)
end MM31
