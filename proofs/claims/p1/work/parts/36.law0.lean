theorem frc_mono {cy : Nat → ClassId} {ad : Nat → Nat} {rw_ : Nat → Nat → Option Nat} {w w2 : va_W} (F : FrC cy ad rw_ w) (hs : ∀ q ∈ w, q ∈ w2) : FrC cy ad rw_ w2 := by
  obtain ⟨f0, f1, f2, f3, f4, f5, f6, f7, f8, f9, f10, f11, f12, f13, f14, f15, f16, f17, f18, f19, f20, f21, f22⟩ := F
  exact ⟨hs _ f0, hs _ f1, f2, hs _ f3, hs _ f4, hs _ f5, f6, hs _ f7, hs _ f8, hs _ f9, hs _ f10, hs _ f11, hs _ f12, hs _ f13, hs _ f14, hs _ f15, hs _ f16, hs _ f17, fun x0 x1 x2 => hs _ (f18 x0 x1 x2), fun x0 x1 => hs _ (f19 x0 x1), f20, fun x0 x1 x2 x3 => hs _ (f21 x0 x1 x2 x3), fun x0 x1 => hs _ (f22 x0 x1)⟩

theorem my_cons {l : Launch} {y : MethodName} {ws : List Cond} {rm : Room} {Pc Pc2 : Array Value → State → Prop} {Qc Qc2 : Array Value → State → Outcome → State → Prop} {mc ms : Nat} {free free2 : Addr → Prop} (hM : Met l y ws rm Pc Qc mc ms free) (h1 : ∀ a s, Pc2 a s → Pc a s) (h2 : ∀ a st o t, Qc a st o t → Qc2 a st o t) (h3 : ∀ q, free q → free2 q) : Met l y ws rm Pc2 Qc2 mc ms free2 := by
  intro p e ha hc hk s m args below hf happ hP _
  obtain ⟨n, o, a1, a2, a3, hQ, L, hF, hL⟩ := hM p e ha hc hk s m args below hf happ (h1 _ _ hP) trivial
  exact ⟨n, o, a1, a2, a3, h2 _ _ _ _ hQ, L, hF, fun q hq => h3 _ (hL q hq)⟩
section MYW
variable {l : Launch} {D : va_G} {cy : Nat → ClassId} {y : MethodName} {WS : List Cond} {fr mc ms lo : Nat} {av : List Value} {v : Option Value}
/-- what a method does to some cells it does to a world that has them -/
theorem me_sub {w wc : va_W} {sz : Nat} (hs : ∀ q ∈ wc, q ∈ w) (hd : va_D (fun _ => True) w → (wc.map Prod.fst).Nodup) (hM : ME l D cy wc sz y WS fr mc ms lo av v (fun _ => True)) : ME l D cy w sz y WS fr mc ms lo av v (fun _ => True) := by
  have hsub : ∀ q, va_A wc sz q → va_A w sz q := by
    intro q h
    rcases h with ⟨k, e, h⟩ | h
    · obtain ⟨j, hj⟩ := List.mem_iff_getElem?.mp (hs _ (List.mem_of_getElem? h))
      exact Or.inl ⟨j, e, hj⟩
    · exact Or.inr h
  refine my_cons hM (fun a s h => ⟨h.1, ⟨h.2.1.1, h.2.1.2.1.mem hs, my_nodup.mpr ⟨hd h.2.1.2.2, fun _ _ => trivial⟩⟩, h.2.2⟩) (fun a st o t h => ⟨h.1, trivial, h.2.2.1, fun q h1 h2 => h.2.2.2 q h1 (fun z => h2 (hsub q z))⟩) hsub
/-- a wrapper of the law: it may catch what the class throws -/
def PMS (D : va_G) (cy : Nat → ClassId) (W0 : va_W) (sz : Nat) : State → Prop := fun U => PME D cy W0 sz U ∧ ST U
abbrev MW (l : Launch) (D : va_G) (cy : Nat → ClassId) (W0 : va_W) (sz : Nat) (y : MethodName) (WS : List Cond) (fr mc ms lo : Nat) (av : List Value) (v : Option Value) (B : Heap → Prop) : Prop := Met l y WS { frames := fr, cells := mc, slots := ms, locals := lo } (va_Pc av (PMS D cy W0 sz)) (QE v B (va_A W0 sz)) mc ms (va_A W0 sz)
theorem pms_blind {W0 : va_W} {sz : Nat} : FrameBlind (va_Pc av (PMS D cy W0 sz)) := fun a U g mk q => ⟨q.1, (pme_blind (av := av) a U g mk ⟨q.1, q.2.1⟩).2, st_blind g mk a q.2.2⟩
theorem st_at2 {s : State} {H : Heap} (h : ST s) (hq : ∀ q : Nat, q < s.heap.size → H[q]? = s.heap[q]?) : ∀ U : State, U.heap = H → s.WarmedH U.vm → ST U := by
  intro U hU hW
  obtain ⟨⟨h1, h2⟩, h3, h4, h5, h6⟩ := h
  refine ⟨⟨?_, ?_⟩, fun q hq => ?_, fun E hE => va_Nw.warmC hW (h4 E hE), fun E hE => va_Nw.warmD hW (h5 E hE), fun E hE F hF n => (h6 E hE F hF n).moved hW.alike⟩
  · rw [hU]; exact vx_Zq.moved hW.alike (h1.kept fun a ha _ => hq a ha)
  · rw [hU]; exact vx_Zq.moved hW.alike (h2.kept fun a ha _ => hq a ha)
  · obtain ⟨sa, hk⟩ := h3 q hq
    exact ⟨sa, vk_R.warm hW hk⟩
section
variable {p : Program} {e : Env} {R : Room} {s : State} {m : MethodId} {args : Array Value} {below : List Frame} {meth : Method} {c : Code} {H : Heap} {locs : List Loc} {cells slots : Nat} {Q : State → Prop}
variable {w wr wc : va_W} {A0 : Nat → Prop} {H0 : Heap} {a : Array Value} {pc : Nat} {ls : Array Slot} {st0 rest As : List Value} {B : Heap → Prop}
variable {Ts : List Cond} {n index maxL nL : Nat} {own C E : String} {cc bytes : ByteArray} {ret : Option FieldType} {b ci q0 : Nat} {q9 : vw_C} {fs : List Value} {hh : List (Nat × Nat × Nat × Nat)}
theorem mw_callS (S : CallFix p m c cc nL s args Ts own) (hM : MW l D cy wc H.size y WS fr mc ms lo As v B) (cw : vx_CSW R s args own index y bytes maxL ret hh WS { frames := fr, cells := mc, slots := ms, locals := lo } mc ms n) (hK : va_K D vwCl (tyL cy) s) (hN : NL s) (hT : ST s) (hq : ∀ q : Nat, q < s.heap.size → H[q]? = s.heap[q]?) (hP : va_P D vwCl (wr ++ wc) H) (hD : va_D A0 (wr ++ wc)) (hS : va_S A0 H0 H locs) (hA : ∀ q, H0.size ≤ q → A0 q)
    (hn : As.length = n) (hsize : ls.size = nL) (hst : st0 = As.reverse ++ rest) (hW : (rest.map fun v => v.category).sum ≤ 8) (hdg : decode cc pc = .ok (.invokestatic index, 3)) (hf : cells + mc ≤ R.cells ∧ slots + ms ≤ R.slots)
    (kk : ∀ (H1 : Heap) (locs1 : List Loc), B H1 → (∀ w1 : va_W, va_P D vwCl w1 H1 → va_D (va_A wc H.size) w1 → va_P D vwCl (wr ++ w1) H1 ∧ va_D A0 (wr ++ w1)) → va_S A0 H0 H1 locs1 → W p l e R s m args below meth c H1 locs1 (cells + mc) (slots + ms) Q (F0 m (pc + 3) ls (v.toList ++ rest))) : W p l e R s m args below meth c H locs cells slots Q (F0 m pc ls st0) :=
  me_kk (vx_runSW (g := F0 m pc ls st0) S hM cw ⟨pms_blind, fun U hU hW => ⟨rfl, (me_pv (As := As) hP hD hK hN U hU hW).2, st_at2 hT hq U hU hW⟩⟩ rfl hn hsize hst (lv_room hW) hdg hf) hP hD hS hA kk
/-- the class throws, and the row x of the wrapper's table takes it -/
theorem th_catchV (S : CallFix p m c cc nL s args Ts own) (hM : TH l D cy w y WS fr lo (.ref b :: As) E) (cw : CallW R s args own C index y bytes maxL ret WS { frames := fr, cells := 1, slots := 6, locals := lo } 1 6 n) (hK : va_K D vwCl (tyL cy) s) (hN : NL s) (hP : va_P D vwCl w H) (hT : ST s) (hS : va_S (fun _ => False) s.heap H locs) (hc : vwCl[ci]? = some q9) (he : w[q0]? = some (b, .inr (ci, fs))) (hC : q9.1 = C)
    (hn : As.length = n) (hsize : ls.size = nL) (hst : st0 = As.reverse ++ .ref b :: rest) (hW : (rest.map fun v => v.category).sum ≤ 8) (hdg : decode cc pc = .ok (.invokevirtual index, 3)) (hf : cells + 1 ≤ R.cells ∧ slots + 6 ≤ R.slots)
    (pre : List ExceptionTableEntry) (x : ExceptionTableEntry) (suf : List ExceptionTableEntry) (hsplit : c.exceptionTable.toList = pre ++ x :: suf)
    (hpass : ∀ z ∈ pre, covers z pc = false ∨ (z.catchType ≠ 0 ∧ ∃ nm : String, (Cond.classLink own z.catchType nm).before args s = true ∧ va_Nc E nm s)) (hx : covers x pc = true) (h0 : x.catchType ≠ 0)
    (hlink : (Cond.classLink own x.catchType E).before args s = true) (hcast : (Cond.castable E E).before args s = true)
    (kk : ∀ (q : Nat) (H1 : Heap) (locs1 : List Loc), va_S (fun _ => False) s.heap H1 locs1 → W p l e R s m args below meth c H1 locs1 (cells + 1) (slots + 6) Q (F0 m x.handlerPc ls [.ref q])) : W p l e R s m args below meth c H locs cells slots Q (F0 m pc ls st0) := by
  have hown := S.2.2.2.1
  intro T hT9 X
  rcases vx_runV (g := F0 m pc ls st0) S hM cw (th_pvV hP hK hN hT hS hc he hC) rfl hn hsize hst (lv_room hW) hdg hf T hT9 X with ⟨v', st₀, t, T', L, h9, X', hL, e1, e2, hq, st⟩ | ⟨q, st₀, t, T', L, E', ce, h9, X', hL, e1, e2, ⟨rfl, hz, hk⟩, hce, hcv, hcl, st⟩
  · exact hq.elim
  · rw [h9] at hz hk
    have hk1 : ∀ q : Nat, q < H.size → T'.heap[q]? = H[q]? := fun q h1 => by rw [e1]; exact hk q h1 id
    have hz1 : H.size ≤ T'.heap.size := by rw [e1]; exact hz
    obtain ⟨t2, a1, b1⟩ := vx_catch (pc := pc) (rest := rest) hown pre x suf hsplit hpass hx h0 hlink hcast (by rw [e1]; exact hce) hcv hcl (kk q T'.heap (locs ++ L) ⟨Nat.le_trans hS.1 hz1, fun q h1 h2 => by rw [hk1 q (Nat.lt_of_lt_of_le h1 hS.1)]; exact hS.2.1 q h1 h2, fun z hz9 => by
        rcases List.mem_append.mp hz9 with h | h
        · exact hS.2.2 z h
        · exact hL z h⟩) T' rfl X'
    exact ⟨t2, st.trans a1, b1⟩
end
theorem wr_ofW {WS' : List Cond} {rm : Room} {Pre : State → Prop} {Qc : Array Value → State → Outcome → State → Prop} {free : Addr → Prop} {cc : ByteArray} {maxL : Nat} {ret : Option FieldType} {hh : List (Nat × Nat × Nat × Nat)} {lv : List (Nat × Value)} (hy : plainName y.cls = true) (hw : WS = Cond.codeWith y cc maxL ret hh :: WS') (hn : (lg_sl av).length ≤ maxL) (hlv : lv_args 0 av = lv)
    (body : ∀ (p : Program) (e : Env) (s : State) (m : MethodId) (below : List Frame) (meth : Method) (c : Code) (ls : Array Slot), p.tables.exec = Jvm.exec → c.code = cc → meth.sig.returnType = ret → c.maxLocals = maxL → s.vm.findClass y.cls = some m.cls → meth.locks = false → c.exceptionTable.toList = tableOf hh → (∀ w ∈ WS, w.before av.toArray s = true) → Pre s → lv_has ls maxL lv → W p l e rm s m av.toArray below meth c s.heap [] 0 0 (MQ below Qc av.toArray s mc ms free) (F0 m 0 ls [])) : Met l y WS rm (va_Pc av Pre) Qc mc ms free := by
  refine MetFree.of_bodyS (code := cc) (maxLocals := maxL) (ret := ret) hy ?_ ?_
  · intro args s m h hn
    obtain ⟨m9, meth, c, hn9, h1, h2, h3, h4, -, h5, h6, -⟩ := Cond.codeWith_spec (atoms_spec (ws := WS) h _ (by rw [hw]; exact List.mem_cons_self))
    cases hn.symm.trans hn9
    exact ⟨meth, c, h1, h2, h3, h4, h5, h6⟩
  · intro p e s m args below meth c s₁ B hml hP _
    obtain ⟨rfl, hpre⟩ := hP
    have hh0 : s₁.heap = s.heap := by rw [B.state]; rfl
    have htab := vx_table (x := y) B (atoms_spec (ws := WS) B.pre _ (by rw [hw]; exact List.mem_cons_self))
    have hl := lv_entry av (n := maxL) hn
    have K : W p l e rm s m av.toArray below meth c s.heap [] 0 0 (MQ below Qc av.toArray s mc ms free) (entryFrame m av.toArray maxL) := by
      rw [lg_entry_eq]
      rw [hlv] at hl
      generalize (lg_sl av ++ List.replicate (maxL - (lg_sl av).length) Slot.unset).toArray = ls at hl ⊢
      exact body p e s m below meth c ls B.exec B.bytes B.returns hml (findClass_of_methodNamed B.named) B.notSynchronized htab (atoms_spec (ws := WS) B.pre) hpre hl
    obtain ⟨t, a1, o, b1, b2, b3⟩ := K s₁ hh0 (Stand.of_body B)
    exact ⟨t, o, a1, b1, b2, ⟨b3.1, b3.2⟩⟩
theorem va_S.F2 {A : Nat → Prop} {s t : State} {H : Heap} {locs : List Loc} (h : va_S (fun _ => False) s.heap H locs) (ht : t.heap = H) : va_F A s t := ⟨by rw [ht]; exact h.1, fun q h1 _ => by rw [ht]; exact h.2.1 q h1 id⟩
end MYW

theorem my_one {D : va_G} {w : va_W} {H : Heap} {ko : Nat} {X Y : Nat × va_E} (hP : va_P D vwCl (w.set ko X) H) (h : w[ko]? = some Y) : va_P D vwCl [X] H := by
  intro k q hq
  match k, hq with
  | 0, hq =>
    cases hq
    exact hP ko _ (List.getElem?_set_self (List.getElem?_eq_some_iff.mp h).1)
  | k + 1, hq => simp at hq
theorem my_in1 {w : va_W} {sz : Nat} {ko oa : Nat} {e : va_E} (h : w[ko]? = some (oa, e)) : va_A w sz oa := Or.inl ⟨ko, e, h⟩
theorem my_upd0 (f : Nat → Int64) (x : Int64) : vp_updL f (Int32.toNatClampNeg 0) x = vp_updL f 0 x := by
  have e : Int32.toNatClampNeg 0 = 0 := by decide
  rw [e]
theorem my_rd0 (f : Nat → Int64) (x : Int64) : vp_updL f 0 x (Int32.toNatClampNeg 0) = x := by
  have e : Int32.toNatClampNeg 0 = 0 := by decide
  rw [e]
  simp [vp_updL]
/-- the classes that the law's tables of exceptions name -/
def exW : List Cond := [.classLink RL 13 "java/lang/IllegalArgumentException", .classLink RL 15 "java/lang/IllegalStateException", .classLink RL 21 "java/lang/IndexOutOfBoundsException", .classLink RL 23 "java/lang/UnsupportedOperationException", .classLink RL 56 "java/util/NoSuchElementException", .classLink RL 157 "java/lang/ArithmeticException"]
theorem exW_good : ∀ w ∈ exW, goodWord w = true := by decide +kernel
theorem exW_13 : Cond.classLink RL 13 "java/lang/IllegalArgumentException" ∈ exW := by decide +kernel
theorem exW_15 : Cond.classLink RL 15 "java/lang/IllegalStateException" ∈ exW := by decide +kernel
theorem exW_21 : Cond.classLink RL 21 "java/lang/IndexOutOfBoundsException" ∈ exW := by decide +kernel
theorem exW_23 : Cond.classLink RL 23 "java/lang/UnsupportedOperationException" ∈ exW := by decide +kernel
theorem exW_56 : Cond.classLink RL 56 "java/util/NoSuchElementException" ∈ exW := by decide +kernel
theorem exW_157 : Cond.classLink RL 157 "java/lang/ArithmeticException" ∈ exW := by decide +kernel
theorem goodL {B ws : List Cond} (h : GoodIn B ws) : GoodIn (B ++ exW) ws := fun w hw => ⟨List.mem_append_left _ (h w hw).1, (h w hw).2⟩
theorem goodLW {B ws : List Cond} {own : String} {idx : Nat} {y : MethodName} (h : GoodIn B (va_wsS own idx y ws)) : GoodIn (B ++ exW) (va_wsS own idx y (ws ++ exW)) := fun w hw => by
  rcases List.mem_append.mp hw with h1 | h1
  · exact goodL h w (List.mem_append_left _ h1)
  · rcases List.mem_append.mp h1 with h2 | h2
    · exact goodL h w (List.mem_append_right _ h2)
    · exact ⟨List.mem_append_right _ h2, good_of_word (exW_good w h2)⟩

theorem m_make_w (l : Launch) (D : va_G) (cy : Nat → ClassId) {ad : Nat → Nat} {rw_ : Nat → Nat → Option Nat} {w : va_W} (F : FrC cy ad rw_ w) (sz : Nat) (q a b o z : Int32) (h1 : (q = 108 ∨ q = 102 ∨ q = 104)) (h2 : ¬ a < 0 ∧ ¬ 4 < a) (h3 : ¬ b < 1 ∧ ¬ 5 < b) (h4 : ¬ z < 0 ∧ ¬ 99 < z) (h5 : ¬ (q = 108 ∧ 0 < a)) (hnq : narrow .char (.int q) = .int q) (hfq : fits .char (.int q) = true) (hno : narrow .boolean (.int o) = .int o) (hfo : fits .boolean (.int o) = true) : ME l D cy w sz yX9_make wsX9_make 1 0 0 22 [.ref (ad 0), .int q, .int a, .int b, .int o, .int z] (some (.int (nI 1))) (fun _ => True) := by
  obtain ⟨k0, hk0⟩ := frc_hub F
  have m0 := List.mem_of_getElem? hk0
  obtain ⟨k1, hk1⟩ := frc_dv F
  have m1 := List.mem_of_getElem? hk1
  obtain ⟨k2, hk2⟩ := frc_di F 1 (by decide) (by decide)
  have m2 := List.mem_of_getElem? hk2
  refine me_sub (fun q hq => ?_) (fun hD => ?_) (m_make_ok l D cy sz q a b o z (frc_dvr F 1 (by decide)) h1 h2 h3 h4 h5 hnq hfq hno hfo)
  · simp only [List.mem_cons, List.not_mem_nil, or_false] at hq
    rcases hq with rfl | rfl | rfl
    · exact m0
    · exact m1
    · exact m2
  · have n01 := (my_ne hD m0 m1 (fun z => absurd (congrArg my_cid z) (by show ¬ (14 : Nat) = 1016; decide)))
    have n02 := (my_ne hD m0 m2 (fun z => absurd (congrArg my_cid z) (by show ¬ (14 : Nat) = 6; decide)))
    have n12 := (my_ne hD m1 m2 (fun z => absurd (congrArg my_cid z) (by show ¬ (1016 : Nat) = 6; decide)))
    simp [n01, n02, n12]

theorem m_type_w (l : Launch) (D : va_G) (cy : Nat → ClassId) {ad : Nat → Nat} {rw_ : Nat → Nat → Option Nat} {w : va_W} (F : FrC cy ad rw_ w) (sz : Nat) (v : Int32) (hw : ¬ v < 0 ∧ ¬ 255 < v) : ME l D cy w sz yX9_type wsX9_type 1 0 0 22 [.ref (ad 0), .int v] (some (.int 1)) (fun _ => True) := by
  obtain ⟨k0, hk0⟩ := frc_hub F
  have m0 := List.mem_of_getElem? hk0
  obtain ⟨k1, hk1⟩ := frc_ty F
  have m1 := List.mem_of_getElem? hk1
  obtain ⟨k2, hk2⟩ := frc_tyc F
  have m2 := List.mem_of_getElem? hk2
  refine me_sub (fun q hq => ?_) (fun hD => ?_) (m_type_ok (rw_ := rw_) l D cy sz v hw)
  · simp only [List.mem_cons, List.not_mem_nil, or_false] at hq
    rcases hq with rfl | rfl | rfl
    · exact m0
    · exact m1
    · exact m2
  · have n01 := (my_ne hD m0 m1 (fun z => absurd (congrArg my_cid z) (by show ¬ (14 : Nat) = 5; decide)))
    have n02 := (my_ne hD m0 m2 (fun z => absurd (congrArg my_cid z) (by show ¬ (14 : Nat) = 1032; decide)))
    have n12 := (my_ne hD m1 m2 (fun z => absurd (congrArg my_cid z) (by show ¬ (5 : Nat) = 1032; decide)))
    simp [n01, n02, n12]

theorem m_wipe_w (l : Launch) (D : va_G) (cy : Nat → ClassId) {ad : Nat → Nat} {rw_ : Nat → Nat → Option Nat} {w : va_W} (F : FrC cy ad rw_ w) (sz : Nat)  : ME l D cy w sz yX9_wipe wsX9_wipe 2 0 0 35 [.ref (ad 0)] (some (.int 0)) (fun _ => True) := by
  obtain ⟨k0, hk0⟩ := frc_hub F
  have m0 := List.mem_of_getElem? hk0
  obtain ⟨k1, hk1⟩ := frc_ty F
  have m1 := List.mem_of_getElem? hk1
  refine me_sub (fun q hq => ?_) (fun hD => ?_) (m_wipe_ok (rw_ := rw_) l D cy sz)
  · simp only [List.mem_cons, List.not_mem_nil, or_false] at hq
    rcases hq with rfl | rfl
    · exact m0
    · exact m1
  · have n01 := (my_ne hD m0 m1 (fun z => absurd (congrArg my_cid z) (by show ¬ (14 : Nat) = 5; decide)))
    simp [n01]

set_option maxRecDepth 100000 in
set_option maxHeartbeats 4000000 in
theorem m_driver_al (l : Launch) (D : va_G) (cy : Nat → ClassId) {ad : Nat → Nat} {rw_ : Nat → Nat → Option Nat} (sz : Nat) (a b : Int32) (h1 : ¬ a < 0 ∧ ¬ 9 < a) (h2 : ¬ b < -1 ∧ ¬ 9 < b) : ME l D cy ([(ad 0, .inr (14, [.ref (ad 1), .int 1, .ref (ad 2), .ref (ad 2), .int 0, .ref (ad 4), .int 11, .int 0, .ref (ad 5), .ref (ad 7), .ref (ad 9), .ref (ad 13), .ref (ad 17)])), (ad 2, .inl (cy 0, 8, .inl (fun _ => 0)))]) sz yX9_driver wsX9_driver 1 0 0 22 [.ref (ad 0), .int a, .int b] (some (.int 0)) (fun _ => True) := by
  refine ro_ofW (cc := cX9_driver) (maxL := 3) (ret := (some .int)) (lv := [(0, .ref (ad 0)), (1, .int a), (2, .int b)]) (by decide) rfl (Nat.le_of_ble_eq_true rfl) rfl ?_
  intro p e s m below meth c ls hx hb hr hml hown hlocks hname hts hv hl
  have hown : s.vm.findClass RX9 = some m.cls := hown
  obtain ⟨⟨hsz, hP, hD0⟩, hK, hN⟩ := hv
  subst hsz
  have hD := hD0.self (sz := s.heap.size)
  generalize hAe : va_A ([(ad 0, .inr (14, [.ref (ad 1), .int 1, .ref (ad 2), .ref (ad 2), .int 0, .ref (ad 4), .int 11, .int 0, .ref (ad 5), .ref (ad 7), .ref (ad 9), .ref (ad 13), .ref (ad 17)])), (ad 2, .inl (cy 0, 8, .inl (fun _ => 0)))]) s.heap.size = A at hD ⊢
  have hA : ∀ q : Nat, s.heap.size ≤ q → A q := fun q h => by rw [← hAe]; exact Or.inr h
  have hS : va_S A s.heap s.heap [] := va_S.rf
  refine lv_iload_n hx hb dX9_driver_0 rfl (lv_at hl 1 rfl) ?_
  refine lv_iconst (v := 0) hx hb dX9_driver_1 (by decide) ?_
  refine lv_bipush (v := 9) hx hb dX9_driver_2 (by decide) ?_
  refine ro_callS (As := [.int a, .int 0, .int 9]) (rest := []) ⟨hx, hb, hml, hown, hts⟩ (c_isWithin_t l D cy _ _ _ _ h1.1 h1.2) (va_cwS 3 hts gX9_driver_X9_isWithin rfl rfl rfl (by decide +kernel) ⟨by decide, by decide⟩) hK hN hP hS rfl hl.1 rfl (Nat.le_of_ble_eq_true rfl) dX9_driver_4 ⟨Nat.le_of_ble_eq_true rfl, Nat.le_of_ble_eq_true rfl⟩ (fun H locs hP hS => ?_)
  refine lv_if_eq (tgt := 20) hx hb dX9_driver_7 (by decide) (fun c => absurd c (by decide)) (fun _ => ?_)
  refine lv_iload_n hx hb dX9_driver_10 rfl (lv_at hl 2 rfl) ?_
  refine lv_iconst (v := (-1)) hx hb dX9_driver_11 (by decide) ?_
  refine lv_bipush (v := 9) hx hb dX9_driver_12 (by decide) ?_
  refine ro_callS (As := [.int b, .int (-1), .int 9]) (rest := []) ⟨hx, hb, hml, hown, hts⟩ (c_isWithin_t l D cy _ _ _ _ h2.1 h2.2) (va_cwS 3 hts gX9_driver_X9_isWithin rfl rfl rfl (by decide +kernel) ⟨by decide, by decide⟩) hK hN hP hS rfl hl.1 rfl (Nat.le_of_ble_eq_true rfl) dX9_driver_14 ⟨Nat.le_of_ble_eq_true rfl, Nat.le_of_ble_eq_true rfl⟩ (fun H locs hP hS => ?_)
  refine lv_if_ne (tgt := 30) hx hb dX9_driver_17 (by decide) (fun _ => ?_) (fun c => absurd c (by decide))
  refine lv_aload_n hx hb dX9_driver_30 rfl (lv_at hl 0 rfl) ?_
  refine va_get (D := D) (ci := 14) (v := .int 0) (C := RX9) (T := TX9) (N := 13) hx hb hts iw_X9_driver_RX9 hown hK hP 0 rfl rfl 4 (by decide) (hts (.fieldLink RX9 231 "Hubcascade" "driverCount" "I") (by decide +kernel)) (fun _ h9 => h9) rfl dX9_driver_31 ?_
  refine lv_bipush (v := 8) hx hb dX9_driver_34 (by decide) ?_
  refine lv_icmp_lt (tgt := 49) hx hb dX9_driver_36 (by decide) (fun _ => ?_) (fun c => absurd (by decide) c)
  refine lv_aload_n hx hb dX9_driver_49 rfl (lv_at hl 0 rfl) ?_
  refine va_get (D := D) (ci := 14) (v := .ref (ad 2)) (C := RX9) (T := TX9) (N := 13) hx hb hts iw_X9_driver_RX9 hown hK hP 0 rfl rfl 2 (by decide) (hts (.fieldLink RX9 15 "Hubcascade" "driverClasses" "[I") (by decide +kernel)) (fun _ h9 => h9) rfl dX9_driver_50 ?_
  refine lv_aload_n hx hb dX9_driver_53 rfl (lv_at hl 0 rfl) ?_
  refine va_get (D := D) (ci := 14) (v := .int 0) (C := RX9) (T := TX9) (N := 13) hx hb hts iw_X9_driver_RX9 hown hK hP 0 rfl rfl 4 (by decide) (hts (.fieldLink RX9 231 "Hubcascade" "driverCount" "I") (by decide +kernel)) (fun _ h9 => h9) rfl dX9_driver_54 ?_
  refine lv_iload_n hx hb dX9_driver_57 rfl (lv_at hl 1 rfl) ?_
  refine va_iast hx hb hK hP hD hS 1 0 rfl rfl (by unfold vp_in; decide) dX9_driver_58 (fun H locs hP hD hS => ?_)
  obtain ⟨f_1, ef_1⟩ : ∃ z, z = upd (fun _ => 0) (Int32.toNatClampNeg 0) a := ⟨_, rfl⟩
  rw [← ef_1] at hP hD
  have hP : va_P D vwCl ([(ad 0, .inr (14, [.ref (ad 1), .int 1, .ref (ad 2), .ref (ad 2), .int 0, .ref (ad 4), .int 11, .int 0, .ref (ad 5), .ref (ad 7), .ref (ad 9), .ref (ad 13), .ref (ad 17)])), (ad 2, .inl (cy 0, 8, .inl (f_1)))]) H := hP
  have hD : va_D A ([(ad 0, .inr (14, [.ref (ad 1), .int 1, .ref (ad 2), .ref (ad 2), .int 0, .ref (ad 4), .int 11, .int 0, .ref (ad 5), .ref (ad 7), .ref (ad 9), .ref (ad 13), .ref (ad 17)])), (ad 2, .inl (cy 0, 8, .inl (f_1)))]) := hD
  refine lv_aload_n hx hb dX9_driver_59 rfl (lv_at hl 0 rfl) ?_
  refine va_get (D := D) (ci := 14) (v := .ref (ad 2)) (C := RX9) (T := TX9) (N := 13) hx hb hts iw_X9_driver_RX9 hown hK hP 0 rfl rfl 3 (by decide) (hts (.fieldLink RX9 19 "Hubcascade" "driverSubclasses" "[I") (by decide +kernel)) (fun _ h9 => h9) rfl dX9_driver_60 ?_
  refine lv_aload_n hx hb dX9_driver_63 rfl (lv_at hl 0 rfl) ?_
  refine va_get (D := D) (ci := 14) (v := .int 0) (C := RX9) (T := TX9) (N := 13) hx hb hts iw_X9_driver_RX9 hown hK hP 0 rfl rfl 4 (by decide) (hts (.fieldLink RX9 231 "Hubcascade" "driverCount" "I") (by decide +kernel)) (fun _ h9 => h9) rfl dX9_driver_64 ?_
  refine lv_iload_n hx hb dX9_driver_67 rfl (lv_at hl 2 rfl) ?_
  refine va_iast hx hb hK hP hD hS 1 0 rfl rfl (by unfold vp_in; decide) dX9_driver_68 (fun H locs hP hD hS => ?_)
  obtain ⟨f_2, ef_2⟩ : ∃ z, z = upd (f_1) (Int32.toNatClampNeg 0) b := ⟨_, rfl⟩
  rw [← ef_2] at hP hD
  have hP : va_P D vwCl ([(ad 0, .inr (14, [.ref (ad 1), .int 1, .ref (ad 2), .ref (ad 2), .int 0, .ref (ad 4), .int 11, .int 0, .ref (ad 5), .ref (ad 7), .ref (ad 9), .ref (ad 13), .ref (ad 17)])), (ad 2, .inl (cy 0, 8, .inl (f_2)))]) H := hP
  have hD : va_D A ([(ad 0, .inr (14, [.ref (ad 1), .int 1, .ref (ad 2), .ref (ad 2), .int 0, .ref (ad 4), .int 11, .int 0, .ref (ad 5), .ref (ad 7), .ref (ad 9), .ref (ad 13), .ref (ad 17)])), (ad 2, .inl (cy 0, 8, .inl (f_2)))]) := hD
  refine lv_aload_n hx hb dX9_driver_69 rfl (lv_at hl 0 rfl) ?_
  refine lv_dup hx hb dX9_driver_70 rfl ?_
  refine va_get (D := D) (ci := 14) (v := .int 0) (C := RX9) (T := TX9) (N := 13) hx hb hts iw_X9_driver_RX9 hown hK hP 0 rfl rfl 4 (by decide) (hts (.fieldLink RX9 231 "Hubcascade" "driverCount" "I") (by decide +kernel)) (fun _ h9 => h9) rfl dX9_driver_71 ?_
  refine lv_iconst (v := 1) hx hb dX9_driver_74 (by decide) ?_
  refine lv_iadd hx hb dX9_driver_75 ?_
  refine lv_topi (fun y ey => ?_)
  obtain rfl : y = 1 := ey.trans (by decide)
  refine va_put (D := D) (ci := 14) (v := .int 1) (ty := .int) (C := RX9) (T := TX9) (N := 13) hx hb hts iw_X9_driver_RX9 tyX9 tyX9_ok nmX9 hown hK hP hD hS 0 rfl rfl 4 (by decide) (hts (.fieldLink RX9 231 "Hubcascade" "driverCount" "I") (by decide +kernel)) (fun _ h9 => h9) rfl (by decide +kernel) rfl rfl (Nat.le_of_ble_eq_true rfl) dX9_driver_76 (fun H locs hP hD hS => ?_)
  have hP : va_P D vwCl ([(ad 0, .inr (14, [.ref (ad 1), .int 1, .ref (ad 2), .ref (ad 2), .int 1, .ref (ad 4), .int 11, .int 0, .ref (ad 5), .ref (ad 7), .ref (ad 9), .ref (ad 13), .ref (ad 17)])), (ad 2, .inl (cy 0, 8, .inl (f_2)))]) H := hP
  have hD : va_D A ([(ad 0, .inr (14, [.ref (ad 1), .int 1, .ref (ad 2), .ref (ad 2), .int 1, .ref (ad 4), .int 11, .int 0, .ref (ad 5), .ref (ad 7), .ref (ad 9), .ref (ad 13), .ref (ad 17)])), (ad 2, .inl (cy 0, 8, .inl (f_2)))]) := hD
  refine lv_aload_n hx hb dX9_driver_79 rfl (lv_at hl 0 rfl) ?_
  refine va_get (D := D) (ci := 14) (v := .int 1) (C := RX9) (T := TX9) (N := 13) hx hb hts iw_X9_driver_RX9 hown hK hP 0 rfl rfl 4 (by decide) (hts (.fieldLink RX9 231 "Hubcascade" "driverCount" "I") (by decide +kernel)) (fun _ h9 => h9) rfl dX9_driver_80 ?_
  refine lv_iconst (v := 1) hx hb dX9_driver_83 (by decide) ?_
  refine lv_isub hx hb dX9_driver_84 ?_
  refine lv_topi (fun y ey => ?_)
  obtain rfl : y = 0 := ey.trans (by decide)
  refine W.widen (k := 0) (n := 0) (Nat.le_of_ble_eq_true rfl) (Nat.le_of_ble_eq_true rfl) ?_
  exact W.iret hx hb hr (fun t ht hW => ⟨rfl, trivial, hS.F ht⟩) hS.2.2 dX9_driver_85

theorem m_driver_w (l : Launch) (D : va_G) (cy : Nat → ClassId) {ad : Nat → Nat} {rw_ : Nat → Nat → Option Nat} {w : va_W} (F : FrC cy ad rw_ w) (sz : Nat) (a b : Int32) (h1 : ¬ a < 0 ∧ ¬ 9 < a) (h2 : ¬ b < -1 ∧ ¬ 9 < b) : ME l D cy w sz yX9_driver wsX9_driver 1 0 0 22 [.ref (ad 0), .int a, .int b] (some (.int 0)) (fun _ => True) := by
  obtain ⟨k0, hk0⟩ := frc_hub F
  have m0 := List.mem_of_getElem? hk0
  obtain ⟨k1, hk1⟩ := frc_dc F
  have m1 := List.mem_of_getElem? hk1
  obtain ⟨k2, hk2⟩ := frc_ds F
  have m2 := List.mem_of_getElem? hk2
  by_cases he : ad 3 = ad 2
  · rw [he] at m0
    refine me_sub (fun q hq => ?_) (fun hD => ?_) (m_driver_al (rw_ := rw_) l D cy sz a b h1 h2)
    · simp only [List.mem_cons, List.not_mem_nil, or_false] at hq
      rcases hq with rfl | rfl
      · exact m0
      · exact m1
    · have n01 := (my_ne hD m0 m1 (fun z => absurd (congrArg my_cid z) (by show ¬ (14 : Nat) = 1008; decide)))
      simp [n01]
  · refine me_sub (fun q hq => ?_) (fun hD => ?_) (m_driver_ok (rw_ := rw_) l D cy sz a b h1 h2)
    · simp only [List.mem_cons, List.not_mem_nil, or_false] at hq
      rcases hq with rfl | rfl | rfl
      · exact m0
      · exact m1
      · exact m2
    · have n01 := (my_ne hD m0 m1 (fun z => absurd (congrArg my_cid z) (by show ¬ (14 : Nat) = 1008; decide)))
      have n02 := (my_ne hD m0 m2 (fun z => absurd (congrArg my_cid z) (by show ¬ (14 : Nat) = 1008; decide)))
      have n12 : ad 2 ≠ ad 3 := fun z => he z.symm
      simp [n01, n02, n12]
