section VFL
/-! floats of the class, and the wrappers that take them -/
theorem vi_catchG {p : Program} {l : Launch} {e : Env} {R : Room} {s : State} {m : MethodId} {args : Array Value} {below : List Frame} {meth : Method} {c : Code} {Q : State → Prop} {cc bytes : ByteArray} {own C : String} {KT : List VK} {nL maxL : Nat} {D : va_G} {cy : Nat → ClassId} {ad τ : List Nat} {A0 : Nat → Prop} {H : Heap} {locs : List Loc} {cells slots pc fr lo9 i nc k : Nat} {ls : Array Slot} {w wr : va_W} {As rest st0 : List Value} {b : Nat} {y : MethodName} {WS Ts : List Cond} {ret : Option FieldType} {E : List String} {M : List (Nat × Nat × Nat)} {Qv : Option Value → va_W → Prop}
    (S : CallFix p m c cc nL s args Ts own) (hM : vx_Met l y WS { frames := fr, cells := nc, slots := 6 * nc, locals := lo9 } (va_Pc (.ref b :: As) (vi_PX D cy w H.size)) (fun _ st oc t => (∃ (v : Option Value) (w1 : va_W), oc = .returned v ∧ va_P D vwCl w1 t.heap ∧ vi_tw KT cy (fun _ => True) ad τ w1 ∧ vi_kept τ M w w1 ∧ Qv v w1) ∧ va_F (va_A w H.size) st t) (vi_Xq D KT cy ad τ M w H.size E) nc (6 * nc) (va_A w H.size)) (cw : CallW R s args own C i y bytes maxL ret WS { frames := fr, cells := nc, slots := 6 * nc, locals := lo9 } nc (6 * nc) k) (hn : As.length = k) (hcell : ∃ cell : Cell, H[b]? = some cell ∧ cell.vm.isStatics = false ∧ s.vm.findClass C = some cell.cls) (hK : va_K D vwCl (tyL cy) s) (hN : NL s) (hT : vi_ST A0 s) (hP : va_P D vwCl (wr ++ w) H) (hD : va_D A0 (wr ++ w)) (hS : va_S A0 s.heap H locs) (hA : ∀ q, s.heap.size ≤ q → A0 q) (ht : vi_tw KT cy (fun _ => True) ad τ w)
    (hsize : ls.size = nL) (hst : st0 = As.reverse ++ .ref b :: rest) (hW : rest.length ≤ 4) (hdg : decode cc pc = .ok (.invokevirtual i, 3)) (hR : cells + nc ≤ R.cells ∧ slots + 6 * nc ≤ R.slots)
    (hcat : ∀ E' ∈ E, ∃ (pre : List ExceptionTableEntry) (x : ExceptionTableEntry) (suf : List ExceptionTableEntry), c.exceptionTable.toList = pre ++ x :: suf ∧ (∀ z ∈ pre, covers z pc = false ∨ (z.catchType ≠ 0 ∧ ∃ nm : String, (Cond.classLink own z.catchType nm).before args s = true ∧ va_Nc E' nm s)) ∧ covers x pc = true ∧ x.catchType ≠ 0 ∧ (Cond.classLink own x.catchType E').before args s = true ∧ (Cond.castable E' E').before args s = true ∧
      ∀ (q : Nat) (H1 : Heap) (locs1 : List Loc) (w1 : va_W), va_P D vwCl (wr ++ w1) H1 → va_D A0 (wr ++ w1) → va_S A0 s.heap H1 locs1 → vi_tw KT cy (fun _ => True) ad τ w1 → vi_kept τ M w w1 → W p l e R s m args below meth c H1 locs1 (cells + nc) (slots + 6 * nc) Q (F0 m x.handlerPc ls [.ref q]))
    (kk : ∀ (H1 : Heap) (locs1 : List Loc) (w1 : va_W) (v : Option Value), va_P D vwCl (wr ++ w1) H1 → va_D A0 (wr ++ w1) → va_S A0 s.heap H1 locs1 → vi_tw KT cy (fun _ => True) ad τ w1 → vi_kept τ M w w1 → Qv v w1 → W p l e R s m args below meth c H1 locs1 (cells + nc) (slots + 6 * nc) Q (F0 m (pc + 3) ls (v.toList ++ rest))) : W p l e R s m args below meth c H locs cells slots Q (F0 m pc ls st0) := by
  have hown := S.2.2.2.1
  have hPw : va_P D vwCl w H := hP.right
  have hDw : va_D A0 w := hD.right
  have hF : ∀ q, va_A w H.size q → A0 q := vi_A hDw (fun q hq => hA q (Nat.le_trans hS.1 hq))
  have hw2 : ∀ (w1 : va_W) (H1 : Heap), va_P D vwCl w1 H1 → vi_tw KT cy (fun _ => True) ad τ w1 → (∀ q : Nat, q < H.size → ¬ va_A w H.size q → H1[q]? = H[q]?) → va_P D vwCl (wr ++ w1) H1 ∧ va_D A0 (wr ++ w1) := fun w1 H1 q1 q2 q3 => my_join hP hD q3 hF q1 (vi_D (A0 := va_A w H.size) ⟨hDw.1, fun k q hk => Or.inl ⟨k, q.2, hk⟩⟩ ht q2)
  intro T hT9 X
  rcases vx_runV (g := F0 m pc ls st0) S hM cw ⟨vi_px_blind, hcell, vi_px hPw hDw hK hN hT hS hA⟩ rfl hn hsize hst (lv_room (vi_room hW)) hdg hR T hT9 X with ⟨v', st₀, t, T', L, h0, X', hL, e1, e2, ⟨⟨v, w1, hv, q1, q2, q3, q4⟩, hF9⟩, st⟩ | ⟨q, st₀, t, T', L, E', ce, h0, X', hL, e1, e2, ⟨hE', ⟨w1, x1, x2, x3⟩, hF9⟩, hce, hcv, hcl, st⟩
  · cases hv
    obtain ⟨k1, k2, k3⟩ := vx_keep h0 e1 hS (fun q _ z => hF q z) hF hL hF9
    obtain ⟨g1, g2⟩ := hw2 w1 T'.heap (by rw [e1]; exact q1) q2 k2
    obtain ⟨t2, a1, b1⟩ := kk T'.heap (locs ++ L) w1 v' g1 g2 k3 q2 q3 q4 T' rfl X'
    exact ⟨t2, st t2 a1, b1⟩
  · obtain ⟨k1, k2, k3⟩ := vx_keep h0 e1 hS (fun q _ z => hF q z) hF hL hF9
    obtain ⟨g1, g2⟩ := hw2 w1 T'.heap (by rw [e1]; exact x1) x2 k2
    obtain ⟨pre, x, suf, c1, c2, c3, c4, c5, c6, c7⟩ := hcat E' hE'
    obtain ⟨t2, a1, b1⟩ := vx_catch (pc := pc) (rest := rest) hown pre x suf c1 c2 c3 c4 c5 c6 (by rw [e1]; exact hce) hcv hcl (c7 q T'.heap (locs ++ L) w1 g1 g2 k3 x2 x3) T' rfl X'
    exact ⟨t2, st.trans a1, b1⟩
theorem fl_100 {f : Int32} (h0 : 0 ≤ f.toInt) (h1 : f.toInt ≤ 1000) (h : ¬ f = 0) : ¬ (100 : Int32) * f = 0 := fun z => by
  have e : ((100 : Int32) * f).toInt = 100 * f.toInt := by
    rw [Int32.toInt_mul, show (100 : Int32).toInt = 100 from rfl, vi_bmod (by omega) (by omega)]
  rw [z] at e
  have e0 : (0 : Int32).toInt = 0 := rfl
  exact h (i_eq.mpr (by omega))
/-- a cell that a field names -/
theorem fl_sub {cy : Nat → ClassId} {ad τ : List Nat} {w : va_W} (ht : vi_tw vK cy (fun _ => True) ad τ w) {d ci x : Nat} {fs : List VA} {v : Value} (hk : vK[d]? = some (0, ci, x, fs)) (ho : vi_ok ad τ (3, (d : Int), 0) v) : ∃ (q b : Nat) (vs : List Value), v = .ref b ∧ w[q]? = some (b, .inr (ci, vs)) ∧ vs.length = fs.length ∧ ∀ (i : Nat) (a : VA) (v : Value), fs[i]? = some a → vs[i]? = some v → vi_ok ad τ a v := by
  obtain ⟨q, b, e, h1, h2⟩ := vi_nn (a := (3, (d : Int), 0)) rfl rfl ho
  obtain ⟨ee, kk, g1, g2, g3⟩ := vi_tw_get ht h1 h2
  have g2 : vK[d]? = some kk := g2
  rw [hk] at g2
  cases (Option.some.inj g2)
  obtain ⟨vs, e9, l9, ok9⟩ := g3
  exact ⟨q, b, vs, e, by rw [g1, e9], l9, ok9⟩
theorem fl_at {ad τ : List Nat} {fs : List VA} {vs : List Value} (hl : vs.length = fs.length) (ok : ∀ (i : Nat) (a : VA) (v : Value), fs[i]? = some a → vs[i]? = some v → vi_ok ad τ a v) {i : Nat} {a : VA} (h : fs[i]? = some a) : ∃ v, vs[i]? = some v ∧ vi_ok ad τ a v := by
  have hi : i < vs.length := by rw [hl]; exact (List.getElem?_eq_some_iff.mp h).1
  exact ⟨vs[i], List.getElem?_eq_getElem hi, ok i a _ h (List.getElem?_eq_getElem hi)⟩

theorem dX9_busyShare_0 : decode cX9_busyShare 0 = .ok (.aload_n 0, 1) := by decide +kernel
theorem dX9_busyShare_1 : decode cX9_busyShare 1 = .ok (.getfield 252, 3) := by decide +kernel
theorem dX9_busyShare_4 : decode cX9_busyShare 4 = .ok (.ifCond .ne 14, 3) := by decide +kernel
theorem dX9_busyShare_10 : decode cX9_busyShare 10 = .ok (.dup, 1) := by decide +kernel
theorem dX9_busyShare_18 : decode cX9_busyShare 18 = .ok (.aload_n 0, 1) := by decide +kernel
theorem dX9_busyShare_19 : decode cX9_busyShare 19 = .ok (.getfield 45, 3) := by decide +kernel
theorem dX9_busyShare_22 : decode cX9_busyShare 22 = .ok (.getfield 500, 3) := by decide +kernel
theorem dX9_busyShare_25 : decode cX9_busyShare 25 = .ok (.i2f, 1) := by decide +kernel
theorem dX9_busyShare_26 : decode cX9_busyShare 26 = .ok (.bipush 100, 2) := by decide +kernel
theorem dX9_busyShare_28 : decode cX9_busyShare 28 = .ok (.aload_n 0, 1) := by decide +kernel
theorem dX9_busyShare_29 : decode cX9_busyShare 29 = .ok (.getfield 252, 3) := by decide +kernel
theorem dX9_busyShare_32 : decode cX9_busyShare 32 = .ok (.imul, 1) := by decide +kernel
theorem dX9_busyShare_33 : decode cX9_busyShare 33 = .ok (.i2f, 1) := by decide +kernel
theorem dX9_busyShare_34 : decode cX9_busyShare 34 = .ok (.fdiv, 1) := by decide +kernel
theorem dX9_busyShare_35 : decode cX9_busyShare 35 = .ok (.freturn, 1) := by decide +kernel
set_option maxRecDepth 100000 in
set_option maxHeartbeats 4000000 in
theorem m_cl_busyShare (l : Launch) (D : va_G) (cy : Nat → ClassId) (hst : l.stackTraces = false) {ad τ : List Nat} {w : va_W} {q0 x0 : Nat} {vs : List Value} {fr0 : Int32} (hs : vi_s1 vSG τ) (ht : vi_tw vK cy (fun _ => True) ad τ w) (hr0 : τ[q0]? = some 0) (hr1 : ad[q0]? = some x0) (hw0 : w[q0]? = some (x0, .inr (14, vs))) (hv7 : vs[7]? = some (.int fr0)) (hF1 : 0 ≤ fr0.toInt) (hF2 : fr0.toInt ≤ 1000) (sz : Nat) : vx_Met l yX9_busyShare (Cond.code yX9_busyShare cX9_busyShare 1 (some .float) :: vWall) { frames := 6, cells := 1, slots := 6 * 1, locals := 90 } (va_Pc [.ref x0] (vi_PX D cy w sz)) (fun _ st oc t => (∃ (v : Option Value) (w1 : va_W), oc = .returned v ∧ va_P D vwCl w1 t.heap ∧ vi_tw vK cy (fun _ => True) ad τ w1 ∧ vi_kept τ [] w w1 ∧ ∃ y : UInt32, v = some (.float y) ∧ vf_n32 y) ∧ va_F (va_A w sz) st t) (vi_Xq D vK cy ad τ [] w sz ["java/lang/ArithmeticException"]) 1 (6 * 1) (va_A w sz) := by
  refine th_ofW (cc := cX9_busyShare) (maxL := 1) (ret := (some .float)) (lv := [(0, .ref x0)]) (by decide) rfl (Nat.le_of_ble_eq_true rfl) rfl ?_
  intro p e s m below meth c ls hx hb hr hml hown hlocks hout hts hpre hl
  obtain ⟨⟨⟨rfl, hP, hD⟩, hK, hN⟩, hT⟩ := hpre
  have hown : s.vm.findClass RX9 = some m.cls := hown
  have S : CallFix p m c cX9_busyShare 1 s [Value.ref x0].toArray (Cond.code yX9_busyShare cX9_busyShare 1 (some .float) :: vWall) RX9 := ⟨hx, hb, hml, hown, hts⟩
  have hDs := hD.self (sz := s.heap.size)
  obtain ⟨q1, b1, vs1, ex1, g1, l1, ok1⟩ := fl_sub ht (d := 0) rfl (show vi_ok ad τ (3, ((0 : Nat) : Int), 0) (.ref x0) from Or.inr ⟨q0, x0, hr0, hr1, rfl⟩)
  cases ex1
  have eq9 : q1 = q0 := hDs.1 q1 q0 _ _ g1 hw0 rfl
  subst eq9
  have ev9 : vs1 = vs := by
    have e9 := Option.some.inj (g1.symm.trans hw0)
    injection e9 with e10 e11
    injection e11 with e12
    exact (Prod.mk.inj e12).2
  subst ev9
  obtain ⟨u, hu, ou⟩ := fl_at l1 ok1 (i := 10) rfl
  obtain ⟨q2, b2, vs2, rfl, gE, l2, ok2⟩ := fl_sub ht (d := 9) rfl ou
  obtain ⟨us, hus, ⟨us1, rfl, -⟩⟩ := fl_at l2 ok2 (i := 4) rfl
  refine lv_aload_n hx hb dX9_busyShare_0 rfl (lv_at hl 0 rfl) ?_
  refine (vi_FgP (T := TX9) (N := 13) (Ts := _ :: vWall) hx hb hts hown hK (fun w h => List.mem_cons_of_mem _ (vmu_9 w h)) rfl (by decide) (List.mem_cons_of_mem _ (vm_7 _ (List.mem_of_getElem? (i := 22) rfl))) rfl : vi_Fg p l e _ s m _ below meth c _ _ D 252 14 7) s.heap [] 0 0 w q1 x0 1 vs1 [] _ ls hP hw0 hv7 dX9_busyShare_1 ?_
  refine lv_if_ne (tgt := 18) hx hb dX9_busyShare_4 (by decide) (fun c4 => ?_) (fun c4 => ?_)
  · refine lv_aload_n hx hb dX9_busyShare_18 rfl (lv_at hl 0 rfl) ?_
    refine (vi_FgP (T := TX9) (N := 13) (Ts := _ :: vWall) hx hb hts hown hK (fun w h => List.mem_cons_of_mem _ (vmu_9 w h)) rfl (by decide) (List.mem_cons_of_mem _ (vm_3 _ (List.mem_of_getElem? (i := 32) rfl))) rfl : vi_Fg p l e _ s m _ below meth c _ _ D 45 14 10) s.heap [] 0 0 w q1 x0 19 vs1 [] _ ls hP hw0 hu dX9_busyShare_19 ?_
    refine (vi_FgN (T := TX8) (N := 5) (Ts := _ :: vWall) hx hb hts hown hK (fun w h => List.mem_cons_of_mem _ (vmu_8 w h)) rfl (by decide) hN nf_6 rfl : vi_Fg p l e _ s m _ below meth c _ _ D 500 13 4) s.heap [] 0 0 w q2 b2 22 vs2 [] _ ls hP gE hus dX9_busyShare_22 ?_
    refine lv_i2f hx hb dX9_busyShare_25 ?_
    refine lv_bipush (v := 100) hx hb dX9_busyShare_26 (by decide) ?_
    refine lv_aload_n hx hb dX9_busyShare_28 rfl (lv_at hl 0 rfl) ?_
    refine (vi_FgP (T := TX9) (N := 13) (Ts := _ :: vWall) hx hb hts hown hK (fun w h => List.mem_cons_of_mem _ (vmu_9 w h)) rfl (by decide) (List.mem_cons_of_mem _ (vm_7 _ (List.mem_of_getElem? (i := 22) rfl))) rfl : vi_Fg p l e _ s m _ below meth c _ _ D 252 14 7) s.heap [] 0 0 w q1 x0 29 vs1 [.int 100, .float (FP.i2f us1)] _ ls hP hw0 hv7 dX9_busyShare_29 ?_
    refine lv_imul hx hb dX9_busyShare_32 ?_
    refine lv_i2f hx hb dX9_busyShare_33 ?_
    have hne := fdiv_ni (x := us1) (fl_100 hF1 hF2 c4)
    refine lv_fdiv hx hb dX9_busyShare_34 hne ?_
    refine W.widen (k := 1) (n := 6 * 1) (Nat.le_of_ble_eq_true rfl) (Nat.le_of_ble_eq_true rfl) ?_
    exact vx_ret (W.fret hx hb hr (fun t ht9 _ => ⟨⟨_, w, rfl, by rw [ht9]; exact hP, ht, vi_kept_rf, _, rfl, hne⟩, va_S.rf.F ht9⟩) (by intro q hq; cases hq) dX9_busyShare_35 hlocks)
  · have hX : vi_Xr p l e { frames := 6, cells := 1, slots := 6 * 1, locals := 90 } s m [Value.ref x0].toArray below meth c (vx_MQ below (fun _ st oc t => (∃ (v : Option Value) (w1 : va_W), oc = .returned v ∧ va_P D vwCl w1 t.heap ∧ vi_tw vK cy (fun _ => True) ad τ w1 ∧ vi_kept τ [] w w1 ∧ ∃ y : UInt32, v = some (.float y) ∧ vf_n32 y) ∧ va_F (va_A w s.heap.size) st t) (vi_Xq D vK cy ad τ [] w s.heap.size ["java/lang/ArithmeticException"]) [Value.ref x0].toArray s 1 (6 * 1) (va_A w s.heap.size)) vK 1 D cy (vi_kept τ [] w) ad τ (va_A w s.heap.size) s.heap 1 7 := vi_throwSW (WS := _ :: vWall) (text := "there was no frame") (ik := 497) (is := 444) (ic := 499) (X := "java/lang/ArithmeticException") S.1 S.2.1 hst S.2.2.2.2 S.2.2.2.1 (by decide) (by decide) hT (by decide) (List.mem_cons_of_mem _ (vm_10 _ (List.mem_of_getElem? (i := 39) rfl))) (List.mem_cons_of_mem _ (vm_11 _ (List.mem_of_getElem? (i := 0) rfl))) (fun w h => List.mem_cons_of_mem _ (vmx_4 w h)) (by decide +kernel) (by decide +kernel) (by decide) S.2.2.1 (by decide +kernel) (by decide +kernel) (by decide +kernel) (by decide +kernel) (by decide +kernel) hout hlocks (Nat.le_of_ble_eq_true rfl) (Nat.le_of_ble_eq_true rfl) ⟨Nat.le_refl _, Nat.le_refl _⟩ (Nat.le_refl _) (fun _ h => h)
    exact hX s.heap [] 0 w ls [] hP hDs va_S.rf (vi_tw_Z ht vi_kept_rf) (Nat.le_refl _) (Nat.zero_le _) hl.1

theorem dX9_meanBytes_0 : decode cX9_meanBytes 0 = .ok (.aload_n 0, 1) := by decide +kernel
theorem dX9_meanBytes_1 : decode cX9_meanBytes 1 = .ok (.getfield 52, 3) := by decide +kernel
theorem dX9_meanBytes_4 : decode cX9_meanBytes 4 = .ok (.getfield 503, 3) := by decide +kernel
theorem dX9_meanBytes_7 : decode cX9_meanBytes 7 = .ok (.ifCond .ne 14, 3) := by decide +kernel
theorem dX9_meanBytes_13 : decode cX9_meanBytes 13 = .ok (.dup, 1) := by decide +kernel
theorem dX9_meanBytes_21 : decode cX9_meanBytes 21 = .ok (.aload_n 0, 1) := by decide +kernel
theorem dX9_meanBytes_22 : decode cX9_meanBytes 22 = .ok (.getfield 52, 3) := by decide +kernel
theorem dX9_meanBytes_25 : decode cX9_meanBytes 25 = .ok (.getfield 508, 3) := by decide +kernel
theorem dX9_meanBytes_28 : decode cX9_meanBytes 28 = .ok (.i2d, 1) := by decide +kernel
theorem dX9_meanBytes_29 : decode cX9_meanBytes 29 = .ok (.aload_n 0, 1) := by decide +kernel
theorem dX9_meanBytes_30 : decode cX9_meanBytes 30 = .ok (.getfield 52, 3) := by decide +kernel
theorem dX9_meanBytes_33 : decode cX9_meanBytes 33 = .ok (.getfield 503, 3) := by decide +kernel
theorem dX9_meanBytes_36 : decode cX9_meanBytes 36 = .ok (.i2d, 1) := by decide +kernel
theorem dX9_meanBytes_37 : decode cX9_meanBytes 37 = .ok (.ddiv, 1) := by decide +kernel
theorem dX9_meanBytes_38 : decode cX9_meanBytes 38 = .ok (.dreturn, 1) := by decide +kernel
set_option maxRecDepth 100000 in
set_option maxHeartbeats 4000000 in
theorem m_cl_meanBytes (l : Launch) (D : va_G) (cy : Nat → ClassId) (hst : l.stackTraces = false) {ad τ : List Nat} {w : va_W} {q0 x0 : Nat} {vs : List Value} {fr0 : Int32} (hs : vi_s1 vSG τ) (ht : vi_tw vK cy (fun _ => True) ad τ w) (hr0 : τ[q0]? = some 0) (hr1 : ad[q0]? = some x0) (hw0 : w[q0]? = some (x0, .inr (14, vs))) (hv7 : vs[7]? = some (.int fr0)) (sz : Nat) : vx_Met l yX9_meanBytes (Cond.code yX9_meanBytes cX9_meanBytes 1 (some .double) :: vWall) { frames := 6, cells := 1, slots := 6 * 1, locals := 90 } (va_Pc [.ref x0] (vi_PX D cy w sz)) (fun _ st oc t => (∃ (v : Option Value) (w1 : va_W), oc = .returned v ∧ va_P D vwCl w1 t.heap ∧ vi_tw vK cy (fun _ => True) ad τ w1 ∧ vi_kept τ [] w w1 ∧ ∃ y : UInt64, v = some (.double y) ∧ vf_n64 y) ∧ va_F (va_A w sz) st t) (vi_Xq D vK cy ad τ [] w sz ["java/lang/ArithmeticException"]) 1 (6 * 1) (va_A w sz) := by
  refine th_ofW (cc := cX9_meanBytes) (maxL := 1) (ret := (some .double)) (lv := [(0, .ref x0)]) (by decide) rfl (Nat.le_of_ble_eq_true rfl) rfl ?_
  intro p e s m below meth c ls hx hb hr hml hown hlocks hout hts hpre hl
  obtain ⟨⟨⟨rfl, hP, hD⟩, hK, hN⟩, hT⟩ := hpre
  have hown : s.vm.findClass RX9 = some m.cls := hown
  have S : CallFix p m c cX9_meanBytes 1 s [Value.ref x0].toArray (Cond.code yX9_meanBytes cX9_meanBytes 1 (some .double) :: vWall) RX9 := ⟨hx, hb, hml, hown, hts⟩
  have hDs := hD.self (sz := s.heap.size)
  obtain ⟨q1, b1, vs1, ex1, g1, l1, ok1⟩ := fl_sub ht (d := 0) rfl (show vi_ok ad τ (3, ((0 : Nat) : Int), 0) (.ref x0) from Or.inr ⟨q0, x0, hr0, hr1, rfl⟩)
  cases ex1
  have eq9 : q1 = q0 := hDs.1 q1 q0 _ _ g1 hw0 rfl
  subst eq9
  have ev9 : vs1 = vs := by
    have e9 := Option.some.inj (g1.symm.trans hw0)
    injection e9 with e10 e11
    injection e11 with e12
    exact (Prod.mk.inj e12).2
  subst ev9
  obtain ⟨u, hu, ou⟩ := fl_at l1 ok1 (i := 11) rfl
  obtain ⟨q2, b2, vs2, rfl, gE, l2, ok2⟩ := fl_sub ht (d := 19) rfl ou
  obtain ⟨us, hus, ⟨us1, rfl, -⟩⟩ := fl_at l2 ok2 (i := 6) rfl
  obtain ⟨ub, hub, ⟨ub1, rfl, -⟩⟩ := fl_at l2 ok2 (i := 7) rfl
  refine lv_aload_n hx hb dX9_meanBytes_0 rfl (lv_at hl 0 rfl) ?_
  refine (vi_FgP (T := TX9) (N := 13) (Ts := _ :: vWall) hx hb hts hown hK (fun w h => List.mem_cons_of_mem _ (vmu_9 w h)) rfl (by decide) (List.mem_cons_of_mem _ (vm_3 _ (List.mem_of_getElem? (i := 36) rfl))) rfl : vi_Fg p l e _ s m _ below meth c _ _ D 52 14 11) s.heap [] 0 0 w q1 x0 1 vs1 [] _ ls hP hw0 hu dX9_meanBytes_1 ?_
  refine (vi_FgN (T := TX3) (N := 10) (Ts := _ :: vWall) hx hb hts hown hK (fun w h => List.mem_cons_of_mem _ (vmu_3 w h)) rfl (by decide) hN nf_9 rfl : vi_Fg p l e _ s m _ below meth c _ _ D 503 8 6) s.heap [] 0 0 w q2 b2 4 vs2 [] _ ls hP gE hus dX9_meanBytes_4 ?_
  refine lv_if_ne (tgt := 21) hx hb dX9_meanBytes_7 (by decide) (fun c4 => ?_) (fun c4 => ?_)
  · refine lv_aload_n hx hb dX9_meanBytes_21 rfl (lv_at hl 0 rfl) ?_
    refine (vi_FgP (T := TX9) (N := 13) (Ts := _ :: vWall) hx hb hts hown hK (fun w h => List.mem_cons_of_mem _ (vmu_9 w h)) rfl (by decide) (List.mem_cons_of_mem _ (vm_3 _ (List.mem_of_getElem? (i := 36) rfl))) rfl : vi_Fg p l e _ s m _ below meth c _ _ D 52 14 11) s.heap [] 0 0 w q1 x0 22 vs1 [] _ ls hP hw0 hu dX9_meanBytes_22 ?_
    refine (vi_FgN (T := TX3) (N := 10) (Ts := _ :: vWall) hx hb hts hown hK (fun w h => List.mem_cons_of_mem _ (vmu_3 w h)) rfl (by decide) hN nf_10 rfl : vi_Fg p l e _ s m _ below meth c _ _ D 508 8 7) s.heap [] 0 0 w q2 b2 25 vs2 [] _ ls hP gE hub dX9_meanBytes_25 ?_
    refine lv_i2d hx hb dX9_meanBytes_28 ?_
    refine lv_aload_n hx hb dX9_meanBytes_29 rfl (lv_at hl 0 rfl) ?_
    refine (vi_FgP (T := TX9) (N := 13) (Ts := _ :: vWall) hx hb hts hown hK (fun w h => List.mem_cons_of_mem _ (vmu_9 w h)) rfl (by decide) (List.mem_cons_of_mem _ (vm_3 _ (List.mem_of_getElem? (i := 36) rfl))) rfl : vi_Fg p l e _ s m _ below meth c _ _ D 52 14 11) s.heap [] 0 0 w q1 x0 30 vs1 [.double (FP.i2d ub1)] _ ls hP hw0 hu dX9_meanBytes_30 ?_
    refine (vi_FgN (T := TX3) (N := 10) (Ts := _ :: vWall) hx hb hts hown hK (fun w h => List.mem_cons_of_mem _ (vmu_3 w h)) rfl (by decide) hN nf_9 rfl : vi_Fg p l e _ s m _ below meth c _ _ D 503 8 6) s.heap [] 0 0 w q2 b2 33 vs2 [.double (FP.i2d ub1)] _ ls hP gE hus dX9_meanBytes_33 ?_
    refine lv_i2d hx hb dX9_meanBytes_36 ?_
    have hne := ddiv_ni (x := ub1) (y := us1) c4
    refine lv_ddiv hx hb dX9_meanBytes_37 hne ?_
    refine W.widen (k := 1) (n := 6 * 1) (Nat.le_of_ble_eq_true rfl) (Nat.le_of_ble_eq_true rfl) ?_
    exact vx_ret (W.dret hx hb hr (fun t ht9 _ => ⟨⟨_, w, rfl, by rw [ht9]; exact hP, ht, vi_kept_rf, _, rfl, hne⟩, va_S.rf.F ht9⟩) (by intro q hq; cases hq) dX9_meanBytes_38 hlocks)
  · have hX : vi_Xr p l e { frames := 6, cells := 1, slots := 6 * 1, locals := 90 } s m [Value.ref x0].toArray below meth c (vx_MQ below (fun _ st oc t => (∃ (v : Option Value) (w1 : va_W), oc = .returned v ∧ va_P D vwCl w1 t.heap ∧ vi_tw vK cy (fun _ => True) ad τ w1 ∧ vi_kept τ [] w w1 ∧ ∃ y : UInt64, v = some (.double y) ∧ vf_n64 y) ∧ va_F (va_A w s.heap.size) st t) (vi_Xq D vK cy ad τ [] w s.heap.size ["java/lang/ArithmeticException"]) [Value.ref x0].toArray s 1 (6 * 1) (va_A w s.heap.size)) vK 1 D cy (vi_kept τ [] w) ad τ (va_A w s.heap.size) s.heap 1 10 := vi_throwSW (WS := _ :: vWall) (text := "no transfer is over") (ik := 497) (is := 506) (ic := 499) (X := "java/lang/ArithmeticException") S.1 S.2.1 hst S.2.2.2.2 S.2.2.2.1 (by decide) (by decide) hT (by decide) (List.mem_cons_of_mem _ (vm_10 _ (List.mem_of_getElem? (i := 39) rfl))) (List.mem_cons_of_mem _ (vm_11 _ (List.mem_of_getElem? (i := 0) rfl))) (fun w h => List.mem_cons_of_mem _ (vmx_4 w h)) (by decide +kernel) (by decide +kernel) (by decide) S.2.2.1 (by decide +kernel) (by decide +kernel) (by decide +kernel) (by decide +kernel) (by decide +kernel) hout hlocks (Nat.le_of_ble_eq_true rfl) (Nat.le_of_ble_eq_true rfl) ⟨Nat.le_refl _, Nat.le_refl _⟩ (Nat.le_refl _) (fun _ h => h)
    exact hX s.heap [] 0 w ls [] hP hDs va_S.rf (vi_tw_Z ht vi_kept_rf) (Nat.le_refl _) (Nat.zero_le _) hl.1

end VFL
