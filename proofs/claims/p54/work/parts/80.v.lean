section VIV
variable {p : Program} {l : Launch} {e : Env} {R : Room} {s : State} {m : MethodId} {args : Array Value} {below : List Frame} {meth : Method} {c : Code} {Q : State → Prop} {cc bytes : ByteArray} {own C host : String}
variable {KT : List VK} {SG : List Nat} {na nL maxL : Nat} {al : List (Nat × Value)} {FT : List (Nat × Nat × Nat)} {FP : List (Nat × Nat × Nat × Nat)} {CT C2 : List (Nat × Int)} {D : va_G} {cy : Nat → ClassId} {Z : va_W → Prop} {ad τ : List Nat} {A0 : Nat → Prop} {H0 H : Heap}
variable {lo : List VA} {st : List (VA × VO)} {fa : List VF} {n pc NC fr lo9 i : Nat} {L : List (Nat × VS)} {ls : Array Slot} {w w0 w1 : va_W} {XP : List Nat} {MT : List (Nat × Bool × Nat × List VCt)} {alts : List VAlt} {av : List Value} {M : List (Nat × Nat × Nat)} {y : MethodName} {WS Ts : List Cond} {ct ct0 : VCt} {ret : Option FieldType} {X : String} {E E0 : List String}
theorem vi_words {ic : Nat} (hE : X ∈ excL) (hT : vi_S2 s) (hg : ∀ w ∈ (vx_atS "Hubcascade" ic X ["java/lang/RuntimeException", "java/lang/Exception"]).filter goodWord, w.before args s = true)
    (hb : ∀ w ∈ (vx_atS "Hubcascade" ic X ["java/lang/RuntimeException", "java/lang/Exception"]).filter (fun w => !goodWord w), w ∈ ([.castable X X, .declares (Bundle.initS "java/lang/RuntimeException"), .declares (Bundle.initS "java/lang/Exception"), .declares (Bundle.initS "java/lang/Throwable")] : List Cond)) : ∀ w ∈ vx_atS "Hubcascade" ic X ["java/lang/RuntimeException", "java/lang/Exception"], w.before args s = true :=
  vx_hat hg hb (vx_c (va_Nw.use rfl (hT.2.1 X hE)) (vx_c (va_Nw.use rfl (hT.2.2.1 _ (by simp [supL]))) (vx_c (va_Nw.use rfl (hT.2.2.1 _ (by simp [supL]))) (vx_c (va_Nw.use rfl (hT.2.2.1 _ (by simp [supL]))) vx_n))))
theorem vi_wordsN (hE : nseN ∈ excL) (hT : vi_S2 s) (hg : ∀ w ∈ (nseV "Hubcascade" 207).filter goodWord, w.before args s = true)
    (hb : ∀ w ∈ (nseV "Hubcascade" 207).filter (fun w => !goodWord w), w ∈ ([.castable nseN nseN, .declares (Bundle.initS "java/lang/RuntimeException"), .declares (Bundle.initS "java/lang/Exception"), .declares (Bundle.initS "java/lang/Throwable")] : List Cond)) : ∀ w ∈ nseV "Hubcascade" 207, w.before args s = true :=
  vx_hat hg hb (vx_c (va_Nw.use rfl (hT.2.1 nseN hE)) (vx_c (va_Nw.use rfl (hT.2.2.1 _ (by simp [supL]))) (vx_c (va_Nw.use rfl (hT.2.2.1 _ (by simp [supL]))) (vx_c (va_Nw.use rfl (hT.2.2.1 _ (by simp [supL]))) vx_n))))
theorem vi_throwS {ik is ic mc9 : Nat} {text : String} {Qc : Array Value → State → Outcome → State → Prop} (hexec : p.tables.exec = Jvm.exec) (hb : c.code = cc) (hl : l.stackTraces = false) (hts : ∀ w ∈ WS, w.before args s = true) (hown : s.vm.findClass "Hubcascade" = some m.cls) (hE : X ∈ excL) (hE0 : X ∈ E0) (hT : vi_ST (va_A w0 s.heap.size) s) (htx : (is, text) ∈ vStr)
    (hk : Cond.classLink "Hubcascade" ik X ∈ WS) (hini : Cond.initialized X ∈ WS) (hat : ∀ w ∈ (vx_atS "Hubcascade" ic X ["java/lang/RuntimeException", "java/lang/Exception"]).filter goodWord, w ∈ WS)
    (hbb : ∀ w ∈ (vx_atS "Hubcascade" ic X ["java/lang/RuntimeException", "java/lang/Exception"]).filter (fun w => !goodWord w), w ∈ ([.castable X X, .declares (Bundle.initS "java/lang/RuntimeException"), .declares (Bundle.initS "java/lang/Exception"), .declares (Bundle.initS "java/lang/Throwable")] : List Cond))
    (hgood : ∀ w ∈ Cond.classLink "Hubcascade" ik X :: Cond.initialized X :: vx_atS "Hubcascade" ic X ["java/lang/RuntimeException", "java/lang/Exception"], vx_ot w = true) (hcls : Bundle.fit X = true) (hml : c.maxLocals = nL)
    (d0 : decode cc pc = .ok (.new ik, 3)) (d3 : decode cc (pc + 3) = .ok (.dup, 1)) (d4 : decode cc (pc + 4) = .ok (.ldc is, 2)) (d6 : decode cc (pc + 6) = .ok (.invokespecial ic, 3)) (d9 : decode cc (pc + 9) = .ok (.athrow, 1))
    (hout : ∀ x ∈ c.exceptionTable.toList, False) (hlocks : meth.locks = false) (hRf : 5 < R.frames) (hRl : 90 ≤ R.locals) (hR : NC ≤ R.cells ∧ 6 * NC ≤ R.slots) (hmc : NC ≤ mc9) (hZ0 : ∀ w9, Z w9 → vi_kept τ M w0 w9) :
    vi_Xr p l e R s m args below meth c (vx_MQ below Qc (vi_Xq D KT cy ad τ M w0 s.heap.size E0) args s mc9 (6 * mc9) (va_A w0 s.heap.size)) KT nL D cy Z ad τ (va_A w0 s.heap.size) s.heap NC pc := by
  intro H locs n w ls st h1 h2 h3 h4 h5 h6 h7
  obtain ⟨sa, hstr⟩ := hT.2.1 _ htx
  have hroom := vi_room h6
  exact vx_throwS (sa := sa) (A := va_A w0 s.heap.size) hexec hb hl hown hcls (by decide) (hts _ hk) (hts _ hini) hstr (vi_words hE hT.2 (fun w h => hts w (hat w h)) hbb) hgood hT.1.1 hT.1.2 h3 (h7.trans hml.symm) d0 d3 d4 d6 d9 (fun x hx => (hout x hx).elim) hRf (by show _ + 82 ≤ _; omega) (by omega) (by omega) hlocks
    (fun t hv hz hk => ⟨hE0, ⟨w, h1.kept (fun k q hq => hk q.1 (vx_lt h1 hq)), vi_tw_Z h4 trivial, hZ0 w h4.2.2.2⟩, Nat.le_trans h3.1 hz, fun q q1 q2 => by rw [hk q (Nat.lt_of_lt_of_le q1 h3.1)]; exact h3.2.1 q q1 q2⟩) (fun z hz => h3.2.2 z hz) (by omega) (by omega)
theorem vi_throwSW {ik is ic mc9 : Nat} {text : String} {Qc : Array Value → State → Outcome → State → Prop} (hexec : p.tables.exec = Jvm.exec) (hb : c.code = cc) (hl : l.stackTraces = false) (hts : ∀ w ∈ WS, w.before args s = true) (hown : s.vm.findClass "Hubcascade" = some m.cls) (hE : X ∈ excL) (hE0 : X ∈ E0) (hT : vi_ST (va_A w0 s.heap.size) s) (htx : (is, text) ∈ vStr)
    (hk : Cond.classLink "Hubcascade" ik X ∈ WS) (hini : Cond.initialized X ∈ WS) (hat : ∀ w ∈ (vx_atS "Hubcascade" ic X ["java/lang/RuntimeException", "java/lang/Exception"]).filter goodWord, w ∈ WS)
    (hbb : ∀ w ∈ (vx_atS "Hubcascade" ic X ["java/lang/RuntimeException", "java/lang/Exception"]).filter (fun w => !goodWord w), w ∈ ([.castable X X, .declares (Bundle.initS "java/lang/RuntimeException"), .declares (Bundle.initS "java/lang/Exception"), .declares (Bundle.initS "java/lang/Throwable")] : List Cond))
    (hgood : ∀ w ∈ Cond.classLink "Hubcascade" ik X :: Cond.initialized X :: vx_atS "Hubcascade" ic X ["java/lang/RuntimeException", "java/lang/Exception"], vx_ot w = true) (hcls : Bundle.fit X = true) (hml : c.maxLocals = nL)
    (d0 : decode cc pc = .ok (.new ik, 3)) (d3 : decode cc (pc + 3) = .ok (.dup, 1)) (d4 : decode cc (pc + 4) = .ok (.ldc_w is, 3)) (d6 : decode cc (pc + 7) = .ok (.invokespecial ic, 3)) (d9 : decode cc (pc + 10) = .ok (.athrow, 1))
    (hout : ∀ x ∈ c.exceptionTable.toList, False) (hlocks : meth.locks = false) (hRf : 5 < R.frames) (hRl : 90 ≤ R.locals) (hR : NC ≤ R.cells ∧ 6 * NC ≤ R.slots) (hmc : NC ≤ mc9) (hZ0 : ∀ w9, Z w9 → vi_kept τ M w0 w9) :
    vi_Xr p l e R s m args below meth c (vx_MQ below Qc (vi_Xq D KT cy ad τ M w0 s.heap.size E0) args s mc9 (6 * mc9) (va_A w0 s.heap.size)) KT nL D cy Z ad τ (va_A w0 s.heap.size) s.heap NC pc := by
  intro H locs n w ls st h1 h2 h3 h4 h5 h6 h7
  obtain ⟨sa, hstr⟩ := hT.2.1 _ htx
  have hroom := vi_room h6
  exact vx_throwSW (sa := sa) (A := va_A w0 s.heap.size) hexec hb hl hown hcls (by decide) (hts _ hk) (hts _ hini) hstr (vi_words hE hT.2 (fun w h => hts w (hat w h)) hbb) hgood hT.1.1 hT.1.2 h3 (h7.trans hml.symm) d0 d3 d4 d6 d9 (fun x hx => (hout x hx).elim) hRf (by show _ + 82 ≤ _; omega) (by omega) (by omega) hlocks
    (fun t hv hz hk => ⟨hE0, ⟨w, h1.kept (fun k q hq => hk q.1 (vx_lt h1 hq)), vi_tw_Z h4 trivial, hZ0 w h4.2.2.2⟩, Nat.le_trans h3.1 hz, fun q q1 q2 => by rw [hk q (Nat.lt_of_lt_of_le q1 h3.1)]; exact h3.2.1 q q1 q2⟩) (fun z hz => h3.2.2 z hz) (by omega) (by omega)
theorem vi_throwN {ik is mc9 : Nat} {text : String} {Qc : Array Value → State → Outcome → State → Prop} (hexec : p.tables.exec = Jvm.exec) (hb : c.code = cc) (hl : l.stackTraces = false) (hts : ∀ w ∈ WS, w.before args s = true) (hown : s.vm.findClass "Hubcascade" = some m.cls) (hE : nseN ∈ excL) (hE0 : nseN ∈ E0) (hT : vi_ST (va_A w0 s.heap.size) s) (htx : (is, text) ∈ vStr)
    (hk : Cond.classLink "Hubcascade" ik nseN ∈ WS) (hini : Cond.initialized nseN ∈ WS) (hat : ∀ w ∈ (nseV "Hubcascade" 207).filter goodWord, w ∈ WS)
    (hbb : ∀ w ∈ (nseV "Hubcascade" 207).filter (fun w => !goodWord w), w ∈ ([.castable nseN nseN, .declares (Bundle.initS "java/lang/RuntimeException"), .declares (Bundle.initS "java/lang/Exception"), .declares (Bundle.initS "java/lang/Throwable")] : List Cond))
    (hgood : ∀ w ∈ Cond.classLink "Hubcascade" ik nseN :: Cond.initialized nseN :: nseV "Hubcascade" 207, vx_ot w = true) (hcls : Bundle.fit nseN = true) (hml : c.maxLocals = nL)
    (d0 : decode cc pc = .ok (.new ik, 3)) (d3 : decode cc (pc + 3) = .ok (.dup, 1)) (d4 : decode cc (pc + 4) = .ok (.ldc is, 2)) (d6 : decode cc (pc + 6) = .ok (.invokespecial 207, 3)) (d9 : decode cc (pc + 9) = .ok (.athrow, 1))
    (hout : ∀ x ∈ c.exceptionTable.toList, False) (hlocks : meth.locks = false) (hRf : 5 < R.frames) (hRl : 90 ≤ R.locals) (hR : NC ≤ R.cells ∧ 6 * NC ≤ R.slots) (hmc : NC ≤ mc9) (hZ0 : ∀ w9, Z w9 → vi_kept τ M w0 w9) :
    vi_Xr p l e R s m args below meth c (vx_MQ below Qc (vi_Xq D KT cy ad τ M w0 s.heap.size E0) args s mc9 (6 * mc9) (va_A w0 s.heap.size)) KT nL D cy Z ad τ (va_A w0 s.heap.size) s.heap NC pc := by
  intro H locs n w ls st h1 h2 h3 h4 h5 h6 h7
  obtain ⟨sa, hstr⟩ := hT.2.1 _ htx
  have hroom := vi_room h6
  exact nse_throwS (sa := sa) (A := va_A w0 s.heap.size) hexec hb hl hown (hts _ hk) (hts _ hini) hstr (vi_wordsN hE hT.2 (fun w h => hts w (hat w h)) hbb) hgood hT.1.1 hT.1.2 h3 (h7.trans hml.symm) d0 d3 d4 d6 d9 (fun x hx => (hout x hx).elim) hRf (by show _ + 82 ≤ _; omega) (by omega) (by omega) hlocks
    (fun t hv hz hk => ⟨hE0, ⟨w, h1.kept (fun k q hq => hk q.1 (vx_lt h1 hq)), vi_tw_Z h4 trivial, hZ0 w h4.2.2.2⟩, Nat.le_trans h3.1 hz, fun q q1 q2 => by rw [hk q (Nat.lt_of_lt_of_le q1 h3.1)]; exact h3.2.1 q q1 q2⟩) (fun z hz => h3.2.2 z hz) (by omega) (by omega)
theorem vi_throwNW {ik is mc9 : Nat} {text : String} {Qc : Array Value → State → Outcome → State → Prop} (hexec : p.tables.exec = Jvm.exec) (hb : c.code = cc) (hl : l.stackTraces = false) (hts : ∀ w ∈ WS, w.before args s = true) (hown : s.vm.findClass "Hubcascade" = some m.cls) (hE : nseN ∈ excL) (hE0 : nseN ∈ E0) (hT : vi_ST (va_A w0 s.heap.size) s) (htx : (is, text) ∈ vStr)
    (hk : Cond.classLink "Hubcascade" ik nseN ∈ WS) (hini : Cond.initialized nseN ∈ WS) (hat : ∀ w ∈ (nseV "Hubcascade" 207).filter goodWord, w ∈ WS)
    (hbb : ∀ w ∈ (nseV "Hubcascade" 207).filter (fun w => !goodWord w), w ∈ ([.castable nseN nseN, .declares (Bundle.initS "java/lang/RuntimeException"), .declares (Bundle.initS "java/lang/Exception"), .declares (Bundle.initS "java/lang/Throwable")] : List Cond))
    (hgood : ∀ w ∈ Cond.classLink "Hubcascade" ik nseN :: Cond.initialized nseN :: nseV "Hubcascade" 207, vx_ot w = true) (hcls : Bundle.fit nseN = true) (hml : c.maxLocals = nL)
    (d0 : decode cc pc = .ok (.new ik, 3)) (d3 : decode cc (pc + 3) = .ok (.dup, 1)) (d4 : decode cc (pc + 4) = .ok (.ldc_w is, 3)) (d6 : decode cc (pc + 7) = .ok (.invokespecial 207, 3)) (d9 : decode cc (pc + 10) = .ok (.athrow, 1))
    (hout : ∀ x ∈ c.exceptionTable.toList, False) (hlocks : meth.locks = false) (hRf : 5 < R.frames) (hRl : 90 ≤ R.locals) (hR : NC ≤ R.cells ∧ 6 * NC ≤ R.slots) (hmc : NC ≤ mc9) (hZ0 : ∀ w9, Z w9 → vi_kept τ M w0 w9) :
    vi_Xr p l e R s m args below meth c (vx_MQ below Qc (vi_Xq D KT cy ad τ M w0 s.heap.size E0) args s mc9 (6 * mc9) (va_A w0 s.heap.size)) KT nL D cy Z ad τ (va_A w0 s.heap.size) s.heap NC pc := by
  intro H locs n w ls st h1 h2 h3 h4 h5 h6 h7
  obtain ⟨sa, hstr⟩ := hT.2.1 _ htx
  have hroom := vi_room h6
  exact nse_throwSW (sa := sa) (A := va_A w0 s.heap.size) hexec hb hl hown (hts _ hk) (hts _ hini) hstr (vi_wordsN hE hT.2 (fun w h => hts w (hat w h)) hbb) hgood hT.1.1 hT.1.2 h3 (h7.trans hml.symm) d0 d3 d4 d6 d9 (fun x hx => (hout x hx).elim) hRf (by show _ + 82 ≤ _; omega) (by omega) (by omega) hlocks
    (fun t hv hz hk => ⟨hE0, ⟨w, h1.kept (fun k q hq => hk q.1 (vx_lt h1 hq)), vi_tw_Z h4 trivial, hZ0 w h4.2.2.2⟩, Nat.le_trans h3.1 hz, fun q q1 q2 => by rw [hk q (Nat.lt_of_lt_of_le q1 h3.1)]; exact h3.2.1 q q1 q2⟩) (fun z hz => h3.2.2 z hz) (by omega) (by omega)
theorem vi_Mn_of {WS2 : List Cond} {J : List Nat} {f : Nat} {pts : List (Nat × VS)} {sp : List (VO × Int × Int)} (hy : plainName y.cls = true) (hyo : y.cls = own) (hw : WS = Cond.code y cc maxL ret :: WS2) (hnc : ct.2.2.2.2 = 0) (hrt : vi_rtc ret ct.2.2.1 = true) (hFP : ∀ q ∈ FP, q.2 ∈ ct.2.2.2.1) (hty : ∀ (d ti N : Nat) (els : List VA), KT[d]? = some (2, ti, N, els) → ∃ C, (tyL cy)[ti]? = some (cy ti, .object C)) (h : vi_chk KT SG maxL 0 FT FP CT C2 [] MT cc J f pts ct sp = true)
    (rows : ∀ (p : Program) (e : Env) (s : State) (m : MethodId) (below : List Frame) (meth : Method) (c : Code) (ad τ : List Nat) (w : va_W) (av : List Value), CallFix p m c cc maxL s av.toArray WS own → va_K D vwCl (tyL cy) s → NL s → vi_s1 SG τ →
      (∀ (i ci k : Nat), (i, ci, k) ∈ FT → vi_Fg p l e { frames := fr, cells := 0, slots := 0, locals := lo9 } s m av.toArray below meth c (MQ below (vi_Qr D KT cy ad τ w s.heap.size av ct) av.toArray s 0 0 (va_A w s.heap.size)) cc D i ci k) ∧
      (∀ (i ci k d9 : Nat), (i, ci, k, d9) ∈ FP → ∀ (d x : Nat) (fs : List VA) (b : VA) (v : Value), KT[d]? = some (0, ci, x, fs) → fs[k]? = some b → vi_ok ad τ b v → vi_Fp p l e { frames := fr, cells := 0, slots := 0, locals := lo9 } s m av.toArray below meth c (MQ below (vi_Qr D KT cy ad τ w s.heap.size av ct) av.toArray s 0 0 (va_A w s.heap.size)) cc D (va_A w s.heap.size) s.heap i ci k v) ∧
      (∀ (i : Nat) (v : Int), (i, v) ∈ CT → (Jvm.Cond.constant own i (Int32.ofInt v)).before av.toArray s = true) ∧ (∀ (i : Nat) (v : Int), (i, v) ∈ C2 → ∃ x : Int64, (Jvm.Cond.constantLong own i x).before av.toArray s = true) ∧
      (∀ (i : Nat) (sta : Bool) (k : Nat) (cts : List VCt), (i, sta, k, cts) ∈ MT → ∀ ct2 ∈ cts, ct2.1.length = k ∧ vi_Cr p l e { frames := fr, cells := 0, slots := 0, locals := lo9 } s m av.toArray below meth c (MQ below (vi_Qr D KT cy ad τ w s.heap.size av ct) av.toArray s 0 0 (va_A w s.heap.size)) cc KT maxL D cy (vi_kept τ ct.2.2.2.1 w) ad τ (va_A w s.heap.size) s.heap 0 i sta ct2)) : vi_Mn l D cy KT SG y WS fr lo9 ct := by
  refine ⟨hnc, fun ad τ w sz av hs ht hl hty2 hf => ?_⟩
  have h' := h
  simp only [vi_chk, Bool.and_eq_true, Nat.ble_eq] at h'
  have hcat := vi_c1_ok h'.1.1.1.1.1 hl hty2
  have hlen := vi_sl_len hcat
  refine ro_ofW (cc := cc) (maxL := maxL) (ret := ret) (lv := lv_args 0 av) hy hw (by rw [hlen, hl]; exact h'.1.1.1.1.2) rfl ?_
  intro p e s m below meth c ls hx hb hr hml hown hlocks hnm hts hpre hls
  obtain ⟨⟨rfl, hP, hD⟩, hK, hN⟩ := hpre
  rw [hyo] at hown
  obtain ⟨r1, r2, r3, r4, r5⟩ := rows p e s m below meth c ad τ w av ⟨hx, hb, hml, hown, hts⟩ hK hN hs
  have ht2 : vi_tw KT cy (vi_kept τ ct.2.2.2.1 w) ad τ w := vi_tw_Z ht vi_kept_rf
  refine vi_chk_ok (A0 := va_A w s.heap.size) (H0 := s.heap) (own := own) h hs hl hty2 hf hls hP hD.self va_S.rf ht2 (fun hc => ⟨hc, hx, hb, hown, hK, hs.1, vi_kept_Zp hFP, vi_kept_Za hFP, r1, r2, r3, r4, hty, r5, (fun pc (hpc : pc ∈ ([] : List Nat)) => by cases hpc), ?_⟩)
  exact vi_Rt_of (ms := 0) hx hb hr hlocks hrt (Nat.le_refl _) (fun _ h => h) (fun H locs w1 v t q1 q2 q3 q4 q5 => by
    obtain ⟨alt, a1, a2⟩ := q4
    exact ⟨⟨v, w1, alt, a1, rfl, by rw [q5]; exact q1, vi_tw_Z q3 trivial, q3.2.2.2, a2⟩, q2.F q5⟩)
theorem vi_Mx_of {WS2 : List Cond} {J : List Nat} {f : Nat} {pts : List (Nat × VS)} {sp : List (VO × Int × Int)} (hy : plainName y.cls = true) (hyo : y.cls = own) (hw : WS = Cond.code y cc maxL ret :: WS2) (hrt : vi_rtc ret ct.2.2.1 = true) (hFP : ∀ q ∈ FP, q.2 ∈ ct.2.2.2.1) (hty : ∀ (d ti N : Nat) (els : List VA), KT[d]? = some (2, ti, N, els) → ∃ C, (tyL cy)[ti]? = some (cy ti, .object C)) (h : vi_chk KT SG maxL ct.2.2.2.2 FT FP CT C2 XP MT cc J f pts ct sp = true)
    (rows : ∀ (p : Program) (e : Env) (s : State) (m : MethodId) (below : List Frame) (meth : Method) (c : Code) (ad τ : List Nat) (w : va_W) (av : List Value), CallFix p m c cc maxL s av.toArray WS own → va_K D vwCl (tyL cy) s → NL s → vi_s1 SG τ → vi_ST (va_A w s.heap.size) s → (∀ x ∈ c.exceptionTable.toList, False) → meth.locks = false →
      (∀ (i ci k : Nat), (i, ci, k) ∈ FT → vi_Fg p l e { frames := fr, cells := ct.2.2.2.2, slots := 6 * ct.2.2.2.2, locals := lo9 } s m av.toArray below meth c (vx_MQ below (vi_Qr D KT cy ad τ w s.heap.size av ct) (vi_Xq D KT cy ad τ ct.2.2.2.1 w s.heap.size E) av.toArray s ct.2.2.2.2 (6 * ct.2.2.2.2) (va_A w s.heap.size)) cc D i ci k) ∧
      (∀ (i ci k d9 : Nat), (i, ci, k, d9) ∈ FP → ∀ (d x : Nat) (fs : List VA) (b : VA) (v : Value), KT[d]? = some (0, ci, x, fs) → fs[k]? = some b → vi_ok ad τ b v → vi_Fp p l e { frames := fr, cells := ct.2.2.2.2, slots := 6 * ct.2.2.2.2, locals := lo9 } s m av.toArray below meth c (vx_MQ below (vi_Qr D KT cy ad τ w s.heap.size av ct) (vi_Xq D KT cy ad τ ct.2.2.2.1 w s.heap.size E) av.toArray s ct.2.2.2.2 (6 * ct.2.2.2.2) (va_A w s.heap.size)) cc D (va_A w s.heap.size) s.heap i ci k v) ∧
      (∀ (i : Nat) (v : Int), (i, v) ∈ CT → (Jvm.Cond.constant own i (Int32.ofInt v)).before av.toArray s = true) ∧ (∀ (i : Nat) (v : Int), (i, v) ∈ C2 → ∃ x : Int64, (Jvm.Cond.constantLong own i x).before av.toArray s = true) ∧
      (∀ (i : Nat) (sta : Bool) (k : Nat) (cts : List VCt), (i, sta, k, cts) ∈ MT → ∀ ct2 ∈ cts, ct2.1.length = k ∧ vi_Cr p l e { frames := fr, cells := ct.2.2.2.2, slots := 6 * ct.2.2.2.2, locals := lo9 } s m av.toArray below meth c (vx_MQ below (vi_Qr D KT cy ad τ w s.heap.size av ct) (vi_Xq D KT cy ad τ ct.2.2.2.1 w s.heap.size E) av.toArray s ct.2.2.2.2 (6 * ct.2.2.2.2) (va_A w s.heap.size)) cc KT maxL D cy (vi_kept τ ct.2.2.2.1 w) ad τ (va_A w s.heap.size) s.heap ct.2.2.2.2 i sta ct2) ∧
      ∀ pc ∈ XP, vi_Xr p l e { frames := fr, cells := ct.2.2.2.2, slots := 6 * ct.2.2.2.2, locals := lo9 } s m av.toArray below meth c (vx_MQ below (vi_Qr D KT cy ad τ w s.heap.size av ct) (vi_Xq D KT cy ad τ ct.2.2.2.1 w s.heap.size E) av.toArray s ct.2.2.2.2 (6 * ct.2.2.2.2) (va_A w s.heap.size)) KT maxL D cy (vi_kept τ ct.2.2.2.1 w) ad τ (va_A w s.heap.size) s.heap ct.2.2.2.2 pc) : vi_Mx l D cy KT SG y WS fr lo9 ct E := by
  intro ad τ w sz av hs ht hl hty2 hf
  have h' := h
  simp only [vi_chk, Bool.and_eq_true, Nat.ble_eq] at h'
  have hcat := vi_c1_ok h'.1.1.1.1.1 hl hty2
  have hlen := vi_sl_len hcat
  refine th_ofW (cc := cc) (maxL := maxL) (ret := ret) (lv := lv_args 0 av) hy hw (by rw [hlen, hl]; exact h'.1.1.1.1.2) rfl ?_
  intro p e s m below meth c ls hx hb hr hml hown hlocks hout hts hpre hls
  obtain ⟨⟨⟨rfl, hP, hD⟩, hK, hN⟩, hT⟩ := hpre
  rw [hyo] at hown
  obtain ⟨r1, r2, r3, r4, r5, r6⟩ := rows p e s m below meth c ad τ w av ⟨hx, hb, hml, hown, hts⟩ hK hN hs hT hout hlocks
  have ht2 : vi_tw KT cy (vi_kept τ ct.2.2.2.1 w) ad τ w := vi_tw_Z ht vi_kept_rf
  refine vi_chk_ok (A0 := va_A w s.heap.size) (H0 := s.heap) (own := own) h hs hl hty2 hf hls hP hD.self va_S.rf ht2 (fun hc => ⟨hc, hx, hb, hown, hK, hs.1, vi_kept_Zp hFP, vi_kept_Za hFP, r1, r2, r3, r4, hty, r5, r6, ?_⟩)
  exact vi_Rt_x (vi_Rt_of (ms := 6 * ct.2.2.2.2) hx hb hr hlocks hrt (Nat.le_refl _) (fun _ h => h) (fun H locs w1 v t q1 q2 q3 q4 q5 => by
    obtain ⟨alt, a1, a2⟩ := q4
    exact ⟨⟨v, w1, alt, a1, rfl, by rw [q5]; exact q1, vi_tw_Z q3 trivial, q3.2.2.2, a2⟩, q2.F q5⟩))
end VIV
