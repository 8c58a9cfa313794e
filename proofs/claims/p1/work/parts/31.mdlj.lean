theorem my_lo128 {k : Nat} (h : k < 2 ^ 31) : ¬ nI k < (-128) := by
  rw [Int32.lt_iff_toInt_lt, nI_toInt h]
  have e0 : (-128 : Int32).toInt = -128 := by decide
  omega
theorem my_4le {z : Int32} (h : 4 ≤ z) : 3 < z := by
  rw [Int32.le_iff_toInt_le] at h
  rw [Int32.lt_iff_toInt_lt]
  have e0 : (4 : Int32).toInt = 4 := by decide
  have e1 : (3 : Int32).toInt = 3 := by decide
  omega
theorem my_lt4 {z : Int32} (h : z < 4) : ¬ 3 < z := by
  rw [Int32.lt_iff_toInt_lt] at h ⊢
  have e0 : (4 : Int32).toInt = 4 := by decide
  have e1 : (3 : Int32).toInt = 3 := by decide
  omega
section MYJ
/-- what the lists of the JDK need beyond the world: their statics, the small Integers, the iterator's interface -/
def JS (eda ca : Nat) (ia : Nat → Nat) (A : Nat → Prop) (U : State) (H : Heap) : Prop := va_Z "java/util/ArrayList" "DEFAULTCAPACITY_EMPTY_ELEMENTDATA" "[Ljava/lang/Object;" (.ref eda) A U H ∧ va_T (.object "java/lang/Object") eda 0 (fun _ => .null) A U H ∧ va_Z "java/lang/Integer$IntegerCache" "high" "I" (.int 127) A U H ∧ va_Z "java/lang/Integer$IntegerCache" "cache" "[Ljava/lang/Integer;" (.ref ca) A U H ∧ va_T (.object "java/lang/Integer") ca 256 (fun k => .ref (ia k)) A U H ∧ (∀ k : Nat, k < 256 → va_O "java/lang/Integer" (ia k) A U H) ∧ va_Fw "java/util/ArrayList$Itr" ⟨"java/util/Iterator", "hasNext", "()Z"⟩ yJx35411_hasNext_aae02 U ∧ va_Fw "java/util/ArrayList$Itr" ⟨"java/util/Iterator", "next", "()Ljava/lang/Object;"⟩ yJx35411_next_0502b U
theorem js_at {s : State} {H : Heap} {eda ca : Nat} {ia : Nat → Nat} {A B : Nat → Prop} (h : JS eda ca ia A s s.heap) (hq : ∀ q : Nat, q < s.heap.size → ¬ A q → H[q]? = s.heap[q]?) (hB : ∀ q, B q → A q) {U : State} (hU : U.heap = H) (hW : s.WarmedH U.vm) : JS eda ca ia B U U.heap := by
  subst hU
  obtain ⟨h1, h2, h3, h4, h5, h6, h7, h8⟩ := h
  exact ⟨va_Z.moved hW.alike ((h1.kept hq).narrow hB), va_T.moved hW.alike ((h2.kept hq).narrow hB), va_Z.moved hW.alike ((h3.kept hq).narrow hB), va_Z.moved hW.alike ((h4.kept hq).narrow hB), va_T.moved hW.alike ((h5.kept hq).narrow hB), fun k hk => va_O.moved hW.alike (((h6 k hk).kept hq).narrow hB), va_Fw.moved (by decide) hW.alike h7, va_Fw.moved (by decide) hW.alike h8⟩
theorem js_blind {U : State} {eda ca : Nat} {ia : Nat → Nat} {A : Nat → Prop} (g : JFrame) (mk : MethodId) (a : Array Value) (h : JS eda ca ia A U U.heap) : JS eda ca ia A (U.calling g mk a) (U.calling g mk a).heap := by
  obtain ⟨h1, h2, h3, h4, h5, h6, h7, h8⟩ := h
  have hv := Vm.Alike.refl U.vm
  exact ⟨va_Z.moved (u := U) (U := U.calling g mk a) hv h1, va_T.moved (u := U) (U := U.calling g mk a) hv h2, va_Z.moved (u := U) (U := U.calling g mk a) hv h3, va_Z.moved (u := U) (U := U.calling g mk a) hv h4, va_T.moved (u := U) (U := U.calling g mk a) hv h5, fun k hk => va_O.moved (u := U) (U := U.calling g mk a) hv (h6 k hk), va_Fw.moved (u := U) (U := U.calling g mk a) (by decide) hv h7, va_Fw.moved (u := U) (U := U.calling g mk a) (by decide) hv h8⟩
def PMJ (D : va_G) (cy : Nat → ClassId) (eda ca : Nat) (ia : Nat → Nat) (W0 : va_W) (sz : Nat) : State → Prop := fun U => PME D cy W0 sz U ∧ JS eda ca ia (va_A W0 sz) U U.heap
abbrev MJ (l : Launch) (D : va_G) (cy : Nat → ClassId) (eda ca : Nat) (ia : Nat → Nat) (W0 : va_W) (sz : Nat) (y : MethodName) (WS : List Cond) (fr mc ms lo : Nat) (av : List Value) (v : Option Value) (B : Heap → Prop) : Prop := Met l y WS { frames := fr, cells := mc, slots := ms, locals := lo } (va_Pc av (PMJ D cy eda ca ia W0 sz)) (QE v B (va_A W0 sz)) mc ms (va_A W0 sz)
/-- the same for a method that answers an object of its own making -/
def QRr (B : Nat → Heap → Prop) (A : Nat → Prop) : Array Value → State → Outcome → State → Prop := fun _ st oc t => ∃ q : Nat, oc = .returned (some (.ref q)) ∧ B q t.heap ∧ va_F A st t
abbrev MJR (l : Launch) (D : va_G) (cy : Nat → ClassId) (eda ca : Nat) (ia : Nat → Nat) (W0 : va_W) (sz : Nat) (y : MethodName) (WS : List Cond) (fr mc ms lo : Nat) (av : List Value) (B : Nat → Heap → Prop) : Prop := Met l y WS { frames := fr, cells := mc, slots := ms, locals := lo } (va_Pc av (PMJ D cy eda ca ia W0 sz)) (QRr B (va_A W0 sz)) mc ms (va_A W0 sz)
theorem pmj_blind {D : va_G} {cy : Nat → ClassId} {eda ca : Nat} {ia : Nat → Nat} {W0 : va_W} {sz : Nat} {av : List Value} : FrameBlind (va_Pc av (PMJ D cy eda ca ia W0 sz)) := fun a U g mk q => ⟨q.1, (pme_blind (av := av) a U g mk ⟨q.1, q.2.1⟩).2, js_blind g mk a q.2.2⟩
section
variable {p : Program} {l : Launch} {e : Env} {R : Room} {s : State} {m : MethodId} {args : Array Value} {below : List Frame} {meth : Method} {c : Code} {H : Heap} {locs : List Loc} {cells slots : Nat} {Q : State → Prop}
variable {D : va_G} {cy : Nat → ClassId} {w wr wc w1 : va_W} {A0 : Nat → Prop} {H0 H1 : Heap} {eda ca : Nat} {ia : Nat → Nat}
variable {a : Array Value} {pc : Nat} {ls : Array Slot} {st0 rest As : List Value} {v : Option Value} {B : Heap → Prop} {mc ms : Nat}
variable {y x : MethodName} {WS Ts : List Cond} {fr lo n index count maxL nL : Nat} {own C host : String} {cc bytes : ByteArray} {ret : Option FieldType} {b ci q0 : Nat} {q9 : vw_C} {fs : List Value}
theorem my_free (hD : va_D A0 (wr ++ wc)) (hS : va_S A0 H0 H locs) (hA : ∀ q, H0.size ≤ q → A0 q) : ∀ q, va_A wc H.size q → A0 q := by
  intro q h
  rcases h with ⟨k, e, h⟩ | h
  · exact hD.right.2 k (q, e) h
  · exact hA q (Nat.le_trans hS.1 h)
theorem mj_pv (hP : va_P D vwCl (wr ++ wc) H) (hD : va_D A0 (wr ++ wc)) (hK : va_K D vwCl (tyL cy) s) (hN : NL s) (hS : va_S A0 s.heap H locs) (hA : ∀ q, s.heap.size ≤ q → A0 q) (hJ : JS eda ca ia A0 s s.heap) : ∀ U : State, U.heap = H → s.WarmedH U.vm → va_Pc As (PMJ D cy eda ca ia wc H.size) As.toArray U := fun U hU hW => ⟨rfl, (me_pv (As := As) hP hD hK hN U hU hW).2, js_at hJ hS.2.1 (my_free hD hS hA) hU hW⟩
theorem mj_callI (S : CallFix p m c cc nL s args Ts own) (hM : MJ l D cy eda ca ia wc H.size y WS fr mc ms lo (.ref b :: As) v B) (cw : CallB R s args own index y bytes maxL none WS { frames := fr, cells := mc, slots := ms, locals := lo } mc ms n ∧ y.name = "<init>" ∧ (Cond.instanceMethod y).before args s = true) (hK : va_K D vwCl (tyL cy) s) (hN : NL s) (hP : va_P D vwCl (wr ++ wc) H) (hD : va_D A0 (wr ++ wc)) (hS : va_S A0 s.heap H locs) (hA : ∀ q, s.heap.size ≤ q → A0 q) (hJ : JS eda ca ia A0 s s.heap)
    (hn : As.length = n) (hsize : ls.size = nL) (hst : st0 = As.reverse ++ .ref b :: rest) (hW : (rest.map fun v => v.category).sum ≤ 8) (hdg : decode cc pc = .ok (.invokespecial index, 3)) (hf : cells + mc ≤ R.cells ∧ slots + ms ≤ R.slots)
    (kk : ∀ (H1 : Heap) (locs1 : List Loc), B H1 → (∀ w1 : va_W, va_P D vwCl w1 H1 → va_D (va_A wc H.size) w1 → va_P D vwCl (wr ++ w1) H1 ∧ va_D A0 (wr ++ w1)) → va_S A0 s.heap H1 locs1 → W p l e R s m args below meth c H1 locs1 (cells + mc) (slots + ms) Q (F0 m (pc + 3) ls (v.toList ++ rest))) : W p l e R s m args below meth c H locs cells slots Q (F0 m pc ls st0) :=
  me_kk (va_runI (g := F0 m pc ls st0) S hM cw ⟨pmj_blind, mj_pv hP hD hK hN hS hA hJ⟩ rfl hn hsize hst (lv_room hW) hdg hf) hP hD hS hA kk
theorem mj_callV (S : CallFix p m c cc nL s args Ts own) (hM : MJ l D cy eda ca ia wc H.size y WS fr mc ms lo (.ref b :: As) v B) (cw : CallW R s args own C index y bytes maxL ret WS { frames := fr, cells := mc, slots := ms, locals := lo } mc ms n) (hK : va_K D vwCl (tyL cy) s) (hN : NL s) (hP : va_P D vwCl (wr ++ wc) H) (hD : va_D A0 (wr ++ wc)) (hS : va_S A0 s.heap H locs) (hA : ∀ q, s.heap.size ≤ q → A0 q) (hJ : JS eda ca ia A0 s s.heap)
    (hc : vwCl[ci]? = some q9) (he : wc[q0]? = some (b, .inr (ci, fs))) (hC : q9.1 = C) (hn : As.length = n) (hsize : ls.size = nL) (hst : st0 = As.reverse ++ .ref b :: rest) (hW : (rest.map fun v => v.category).sum ≤ 8) (hdg : decode cc pc = .ok (.invokevirtual index, 3)) (hf : cells + mc ≤ R.cells ∧ slots + ms ≤ R.slots)
    (kk : ∀ (H1 : Heap) (locs1 : List Loc), B H1 → (∀ w1 : va_W, va_P D vwCl w1 H1 → va_D (va_A wc H.size) w1 → va_P D vwCl (wr ++ w1) H1 ∧ va_D A0 (wr ++ w1)) → va_S A0 s.heap H1 locs1 → W p l e R s m args below meth c H1 locs1 (cells + mc) (slots + ms) Q (F0 m (pc + 3) ls (v.toList ++ rest))) : W p l e R s m args below meth c H locs cells slots Q (F0 m pc ls st0) :=
  me_kk (va_runV (g := F0 m pc ls st0) S hM cw ⟨pmj_blind, hC ▸ va_recv hK hP.right hc he, mj_pv hP hD hK hN hS hA hJ⟩ rfl hn hsize hst (lv_room hW) hdg hf) hP hD hS hA kk
theorem mj_callS (S : CallFix p m c cc nL s args Ts own) (hM : MJ l D cy eda ca ia wc H.size y WS fr mc ms lo As v B) (cw : CallB R s args own index y bytes maxL ret WS { frames := fr, cells := mc, slots := ms, locals := lo } mc ms n ∧ (Cond.static y).before args s = true) (hK : va_K D vwCl (tyL cy) s) (hN : NL s) (hP : va_P D vwCl (wr ++ wc) H) (hD : va_D A0 (wr ++ wc)) (hS : va_S A0 s.heap H locs) (hA : ∀ q, s.heap.size ≤ q → A0 q) (hJ : JS eda ca ia A0 s s.heap)
    (hn : As.length = n) (hsize : ls.size = nL) (hst : st0 = As.reverse ++ rest) (hW : (rest.map fun v => v.category).sum ≤ 8) (hdg : decode cc pc = .ok (.invokestatic index, 3)) (hf : cells + mc ≤ R.cells ∧ slots + ms ≤ R.slots)
    (kk : ∀ (H1 : Heap) (locs1 : List Loc), B H1 → (∀ w1 : va_W, va_P D vwCl w1 H1 → va_D (va_A wc H.size) w1 → va_P D vwCl (wr ++ w1) H1 ∧ va_D A0 (wr ++ w1)) → va_S A0 s.heap H1 locs1 → W p l e R s m args below meth c H1 locs1 (cells + mc) (slots + ms) Q (F0 m (pc + 3) ls (v.toList ++ rest))) : W p l e R s m args below meth c H locs cells slots Q (F0 m pc ls st0) :=
  me_kk (va_runS (g := F0 m pc ls st0) S hM cw ⟨pmj_blind, mj_pv hP hD hK hN hS hA hJ⟩ rfl hn hsize hst (lv_room hW) hdg hf) hP hD hS hA kk
theorem mr_kk {B : Nat → Heap → Prop} (hr : va_Run p l e R s m args below meth c H locs cells slots mc ms (F0 m pc ls st0) rest (QRr B (va_A wc H.size) a) (va_A wc H.size)) (hP : va_P D vwCl (wr ++ wc) H) (hD : va_D A0 (wr ++ wc)) (hS : va_S A0 H0 H locs) (hA : ∀ q, H0.size ≤ q → A0 q)
    (kk : ∀ (q : Nat) (H1 : Heap) (locs1 : List Loc), B q H1 → (∀ w1 : va_W, va_P D vwCl w1 H1 → va_D (va_A wc H.size) w1 → va_P D vwCl (wr ++ w1) H1 ∧ va_D A0 (wr ++ w1)) → va_S A0 H0 H1 locs1 → W p l e R s m args below meth c H1 locs1 (cells + mc) (slots + ms) Q (F0 m (pc + 3) ls (.ref q :: rest))) : W p l e R s m args below meth c H locs cells slots Q (F0 m pc ls st0) := by
  intro T hT X
  obtain ⟨v', st₀, t, T', L, h0, X', hL, e1, e2, ⟨q9, hv, hB, hz, hk⟩, st⟩ := hr T hT X
  cases hv
  rw [h0] at hz hk
  have hF : ∀ q, va_A wc H.size q → A0 q := my_free hD hS hA
  have hk1 : ∀ q : Nat, q < H.size → ¬ va_A wc H.size q → T'.heap[q]? = H[q]? := fun q h1 h2 => by rw [e1]; exact hk q h1 h2
  obtain ⟨t2, a1, b1⟩ := kk q9 T'.heap (locs ++ L) (by rw [e1]; exact hB) (fun w1 h1 h2 => my_join hP hD hk1 hF h1 h2)
    ⟨Nat.le_trans hS.1 (by rw [e1]; exact hz), fun q h1 h2 => by rw [hk1 q (Nat.lt_of_lt_of_le h1 hS.1) (fun z => h2 (hF q z))]; exact hS.2.1 q h1 h2, fun q hq => by
      rcases List.mem_append.mp hq with h | h
      · exact hS.2.2 q h
      · exact hF _ (hL q h)⟩ T' rfl X'
  exact ⟨t2, st t2 a1, b1⟩
theorem mr_callV {B : Nat → Heap → Prop} (S : CallFix p m c cc nL s args Ts own) (hM : MJR l D cy eda ca ia wc H.size y WS fr mc ms lo (.ref b :: As) B) (cw : CallW R s args own C index y bytes maxL ret WS { frames := fr, cells := mc, slots := ms, locals := lo } mc ms n) (hK : va_K D vwCl (tyL cy) s) (hN : NL s) (hP : va_P D vwCl (wr ++ wc) H) (hD : va_D A0 (wr ++ wc)) (hS : va_S A0 s.heap H locs) (hA : ∀ q, s.heap.size ≤ q → A0 q) (hJ : JS eda ca ia A0 s s.heap)
    (hc : vwCl[ci]? = some q9) (he : wc[q0]? = some (b, .inr (ci, fs))) (hC : q9.1 = C) (hn : As.length = n) (hsize : ls.size = nL) (hst : st0 = As.reverse ++ .ref b :: rest) (hW : (rest.map fun v => v.category).sum ≤ 8) (hdg : decode cc pc = .ok (.invokevirtual index, 3)) (hf : cells + mc ≤ R.cells ∧ slots + ms ≤ R.slots)
    (kk : ∀ (q : Nat) (H1 : Heap) (locs1 : List Loc), B q H1 → (∀ w1 : va_W, va_P D vwCl w1 H1 → va_D (va_A wc H.size) w1 → va_P D vwCl (wr ++ w1) H1 ∧ va_D A0 (wr ++ w1)) → va_S A0 s.heap H1 locs1 → W p l e R s m args below meth c H1 locs1 (cells + mc) (slots + ms) Q (F0 m (pc + 3) ls (.ref q :: rest))) : W p l e R s m args below meth c H locs cells slots Q (F0 m pc ls st0) :=
  mr_kk (va_runV (g := F0 m pc ls st0) S hM cw ⟨pmj_blind, hC ▸ va_recv hK hP.right hc he, mj_pv hP hD hK hN hS hA hJ⟩ rfl hn hsize hst (lv_room hW) hdg hf) hP hD hS hA kk
theorem mr_callS {B : Nat → Heap → Prop} (S : CallFix p m c cc nL s args Ts own) (hM : MJR l D cy eda ca ia wc H.size y WS fr mc ms lo As B) (cw : CallB R s args own index y bytes maxL ret WS { frames := fr, cells := mc, slots := ms, locals := lo } mc ms n ∧ (Cond.static y).before args s = true) (hK : va_K D vwCl (tyL cy) s) (hN : NL s) (hP : va_P D vwCl (wr ++ wc) H) (hD : va_D A0 (wr ++ wc)) (hS : va_S A0 s.heap H locs) (hA : ∀ q, s.heap.size ≤ q → A0 q) (hJ : JS eda ca ia A0 s s.heap)
    (hn : As.length = n) (hsize : ls.size = nL) (hst : st0 = As.reverse ++ rest) (hW : (rest.map fun v => v.category).sum ≤ 8) (hdg : decode cc pc = .ok (.invokestatic index, 3)) (hf : cells + mc ≤ R.cells ∧ slots + ms ≤ R.slots)
    (kk : ∀ (q : Nat) (H1 : Heap) (locs1 : List Loc), B q H1 → (∀ w1 : va_W, va_P D vwCl w1 H1 → va_D (va_A wc H.size) w1 → va_P D vwCl (wr ++ w1) H1 ∧ va_D A0 (wr ++ w1)) → va_S A0 s.heap H1 locs1 → W p l e R s m args below meth c H1 locs1 (cells + mc) (slots + ms) Q (F0 m (pc + 3) ls (.ref q :: rest))) : W p l e R s m args below meth c H locs cells slots Q (F0 m pc ls st0) :=
  mr_kk (va_runS (g := F0 m pc ls st0) S hM cw ⟨pmj_blind, mj_pv hP hD hK hN hS hA hJ⟩ rfl hn hsize hst (lv_room hW) hdg hf) hP hD hS hA kk
theorem ro_kk5 (hr : va_Run5 p l e R s m args below meth c H locs cells slots 0 0 (F0 m pc ls st0) rest (QO v a) (fun _ => False)) (hP : va_P D vwCl w H) (hS : va_S A0 H0 H locs)
    (kk : ∀ (H1 : Heap) (locs1 : List Loc), va_P D vwCl w H1 → va_S A0 H0 H1 locs1 → W p l e R s m args below meth c H1 locs1 cells slots Q (F0 m (pc + 5) ls (v.toList ++ rest))) : W p l e R s m args below meth c H locs cells slots Q (F0 m pc ls st0) := by
  intro T hT X
  obtain ⟨v', st₀, t, T', L, h0, X', hL, e1, e2, ⟨hv, hz, hk⟩, st⟩ := hr T hT X
  cases hv
  rw [h0] at hz hk
  have hk1 : ∀ q : Nat, q < H.size → T'.heap[q]? = H[q]? := fun q h1 => by rw [e1]; exact hk q h1 id
  obtain ⟨t2, a1, b1⟩ := kk T'.heap (locs ++ L) (hP.kept fun k q hq => hk1 q.1 (vx_lt hP hq))
    ⟨Nat.le_trans hS.1 (by rw [e1]; exact hz), fun q h1 h2 => by rw [hk1 q (Nat.lt_of_lt_of_le h1 hS.1)]; exact hS.2.1 q h1 h2, fun q hq => by
      rcases List.mem_append.mp hq with h | h
      · exact hS.2.2 q h
      · exact (hL q h).elim⟩ T' rfl X'
  exact ⟨t2, st t2 a1, b1⟩
theorem ro_callF (S : CallFix p m c cc nL s args Ts own) (hM : RO l D cy w y WS fr lo (.ref b :: As) v) (cw : va_CI R s args own C index x y bytes maxL ret WS { frames := fr, cells := 0, slots := 0, locals := lo } 0 0 n) (hK : va_K D vwCl (tyL cy) s) (hN : NL s) (hP : va_P D vwCl w H) (hS : va_S A0 H0 H locs) (hc : vwCl[ci]? = some q9) (he : w[q0]? = some (b, .inr (ci, fs))) (hC : q9.1 = C)
    (hn : As.length = n) (hsize : ls.size = nL) (hst : st0 = As.reverse ++ .ref b :: rest) (hW : (rest.map fun v => v.category).sum ≤ 8) (hdg : decode cc pc = .ok (.invokeinterface index count, 5)) (hf : cells + 0 ≤ R.cells ∧ slots + 0 ≤ R.slots)
    (kk : ∀ (H1 : Heap) (locs1 : List Loc), va_P D vwCl w H1 → va_S A0 H0 H1 locs1 → W p l e R s m args below meth c H1 locs1 cells slots Q (F0 m (pc + 5) ls (v.toList ++ rest))) : W p l e R s m args below meth c H locs cells slots Q (F0 m pc ls st0) :=
  ro_kk5 (va_runF (g := F0 m pc ls st0) (hC ▸ (hK.1 _ _ hc).2) S hM cw (ro_pvV hP hK hN hc he hC) rfl hn hsize hst (lv_room hW) hdg hf) hP hS kk
theorem me_kk5 (hr : va_Run5 p l e R s m args below meth c H locs cells slots mc ms (F0 m pc ls st0) rest (QE v B (va_A wc H.size) a) (va_A wc H.size)) (hP : va_P D vwCl (wr ++ wc) H) (hD : va_D A0 (wr ++ wc)) (hS : va_S A0 H0 H locs) (hA : ∀ q, H0.size ≤ q → A0 q)
    (kk : ∀ (H1 : Heap) (locs1 : List Loc), B H1 → (∀ w1 : va_W, va_P D vwCl w1 H1 → va_D (va_A wc H.size) w1 → va_P D vwCl (wr ++ w1) H1 ∧ va_D A0 (wr ++ w1)) → va_S A0 H0 H1 locs1 → W p l e R s m args below meth c H1 locs1 (cells + mc) (slots + ms) Q (F0 m (pc + 5) ls (v.toList ++ rest))) : W p l e R s m args below meth c H locs cells slots Q (F0 m pc ls st0) := by
  intro T hT X
  obtain ⟨v', st₀, t, T', L, h0, X', hL, e1, e2, ⟨hv, hB, hz, hk⟩, st⟩ := hr T hT X
  cases hv
  rw [h0] at hz hk
  have hF : ∀ q, va_A wc H.size q → A0 q := my_free hD hS hA
  have hk1 : ∀ q : Nat, q < H.size → ¬ va_A wc H.size q → T'.heap[q]? = H[q]? := fun q h1 h2 => by rw [e1]; exact hk q h1 h2
  obtain ⟨t2, a1, b1⟩ := kk T'.heap (locs ++ L) (by rw [e1]; exact hB) (fun w1 h1 h2 => my_join hP hD hk1 hF h1 h2)
    ⟨Nat.le_trans hS.1 (by rw [e1]; exact hz), fun q h1 h2 => by rw [hk1 q (Nat.lt_of_lt_of_le h1 hS.1) (fun z => h2 (hF q z))]; exact hS.2.1 q h1 h2, fun q hq => by
      rcases List.mem_append.mp hq with h | h
      · exact hS.2.2 q h
      · exact hF _ (hL q h)⟩ T' rfl X'
  exact ⟨t2, st t2 a1, b1⟩
theorem me_callF (S : CallFix p m c cc nL s args Ts own) (hM : ME l D cy wc H.size y WS fr mc ms lo (.ref b :: As) v B) (cw : va_CI R s args own C index x y bytes maxL ret WS { frames := fr, cells := mc, slots := ms, locals := lo } mc ms n) (hK : va_K D vwCl (tyL cy) s) (hN : NL s) (hP : va_P D vwCl (wr ++ wc) H) (hD : va_D A0 (wr ++ wc)) (hS : va_S A0 H0 H locs) (hA : ∀ q, H0.size ≤ q → A0 q)
    (hc : vwCl[ci]? = some q9) (he : wc[q0]? = some (b, .inr (ci, fs))) (hC : q9.1 = C) (hn : As.length = n) (hsize : ls.size = nL) (hst : st0 = As.reverse ++ .ref b :: rest) (hW : (rest.map fun v => v.category).sum ≤ 8) (hdg : decode cc pc = .ok (.invokeinterface index count, 5)) (hf : cells + mc ≤ R.cells ∧ slots + ms ≤ R.slots)
    (kk : ∀ (H1 : Heap) (locs1 : List Loc), B H1 → (∀ w1 : va_W, va_P D vwCl w1 H1 → va_D (va_A wc H.size) w1 → va_P D vwCl (wr ++ w1) H1 ∧ va_D A0 (wr ++ w1)) → va_S A0 H0 H1 locs1 → W p l e R s m args below meth c H1 locs1 (cells + mc) (slots + ms) Q (F0 m (pc + 5) ls (v.toList ++ rest))) : W p l e R s m args below meth c H locs cells slots Q (F0 m pc ls st0) :=
  me_kk5 (va_runF (g := F0 m pc ls st0) (hC ▸ (hK.1 _ _ hc).2) S hM cw ⟨pme_blind, hC ▸ va_recv hK hP.right hc he, me_pv hP hD hK hN⟩ rfl hn hsize hst (lv_room hW) hdg hf) hP hD hS hA kk
/-- an array of ints as an object -/
theorem my_recvI {q : Nat} {f : Nat → Int32} {k : Nat} (hK : va_K D vwCl (tyL cy) s) (hP : va_P D vwCl w H) (he : w[q0]? = some (q, .inl (cy 0, k, .inl f))) : ∃ cell : Cell, H[q]? = some cell ∧ cell.vm.isStatics = false ∧ s.vm.findClass "[I" = some cell.cls := by
  have h := hP q0 _ he
  have h2 := (hK.2 0 _ rfl).2
  exact ⟨_, h, rfl, h2⟩
end
end MYJ

theorem iw_Jx35411_hasNext_aae02_RJx35411 : ∀ w ∈ u_ws RJx35411 TJx35411 4, w ∈ wsJx35411_hasNext_aae02 := by decide +kernel
theorem iw_Jx35411_hasNext_aae02_RJx4a65c : ∀ w ∈ u_ws RJx4a65c TJx4a65c 3, w ∈ wsJx35411_hasNext_aae02 := by decide +kernel
set_option maxRecDepth 100000 in
set_option maxHeartbeats 4000000 in
theorem c_hasNext1 (l : Launch) (D : va_G) (cy : Nat → ClassId) (w : va_W) (k1 k2 a1 a2 e1 : Nat) (cur lr ex mc n1 : Int32) (h1 : w[k1]? = some (a1, .inr (3, [.int cur, .int lr, .int ex, .ref a2]))) (h2 : w[k2]? = some (a2, .inr (4, [.int mc, .ref e1, .int n1]))) (h0 : ¬ cur = n1) : RO l D cy w yJx35411_hasNext_aae02 wsJx35411_hasNext_aae02 0 0 [.ref a1] (some (.int 1)) := by
  refine ro_ofW (cc := cJx35411_hasNext_aae02) (maxL := 1) (ret := (some .boolean)) (lv := [(0, .ref a1)]) (by decide) rfl (Nat.le_of_ble_eq_true rfl) rfl ?_
  intro p e s m below meth c ls hx hb hr hml hown hlocks hname hts hv hl
  have hown : s.vm.findClass RJx35411 = some m.cls := hown
  obtain ⟨hP, hK, hN⟩ := hv
  have hS : va_S (fun _ => False) s.heap s.heap [] := va_S.rf
  refine lv_aload_n hx hb dJx35411_hasNext_aae02_0 rfl (lv_at hl 0 rfl) ?_
  refine va_get (D := D) (ci := 3) (v := .int cur) (C := RJx35411) (T := TJx35411) (N := 4) hx hb hts iw_Jx35411_hasNext_aae02_RJx35411 hown hK hP k1 h1 rfl 0 (by decide) (hts (.fieldLink RJx35411 25 "java/util/ArrayList$Itr" "cursor" "I") (by decide +kernel)) (fun _ h9 => h9) rfl dJx35411_hasNext_aae02_1 ?_
  refine lv_aload_n hx hb dJx35411_hasNext_aae02_4 rfl (lv_at hl 0 rfl) ?_
  refine va_get (D := D) (ci := 3) (v := .ref a2) (C := RJx35411) (T := TJx35411) (N := 4) hx hb hts iw_Jx35411_hasNext_aae02_RJx35411 hown hK hP k1 h1 rfl 3 (by decide) (hts (.fieldLink RJx35411 1 "java/util/ArrayList$Itr" "this$0" "Ljava/util/ArrayList;") (by decide +kernel)) (fun _ h9 => h9) rfl dJx35411_hasNext_aae02_5 ?_
  refine va_getN (D := D) (ci := 4) (v := .int n1) (C := RJx4a65c) (T := TJx4a65c) (N := 3) hx hb hts iw_Jx35411_hasNext_aae02_RJx4a65c hown hK hP k2 h2 rfl 2 (by decide) (va_Nw.use rfl (hN.1 _ nf_76)) (fun _ h9 => h9) rfl dJx35411_hasNext_aae02_8 ?_
  refine lv_icmp_eq (tgt := 18) hx hb dJx35411_hasNext_aae02_11 (by decide) (fun c => absurd c h0) (fun _ => ?_)
  refine lv_iconst (v := 1) hx hb dJx35411_hasNext_aae02_14 (by decide) ?_
  refine lv_goto (tgt := 19) hx hb dJx35411_hasNext_aae02_15 (by decide) ?_
  exact W.zret hx hb hr (by decide) (fun t ht hW => ⟨rfl, hS.F ht⟩) hS.2.2 dJx35411_hasNext_aae02_19

set_option maxRecDepth 100000 in
set_option maxHeartbeats 4000000 in
theorem c_hasNext0 (l : Launch) (D : va_G) (cy : Nat → ClassId) (w : va_W) (k1 k2 a1 a2 e1 : Nat) (cur lr ex mc n1 : Int32) (h1 : w[k1]? = some (a1, .inr (3, [.int cur, .int lr, .int ex, .ref a2]))) (h2 : w[k2]? = some (a2, .inr (4, [.int mc, .ref e1, .int n1]))) (h0 : cur = n1) : RO l D cy w yJx35411_hasNext_aae02 wsJx35411_hasNext_aae02 0 0 [.ref a1] (some (.int 0)) := by
  refine ro_ofW (cc := cJx35411_hasNext_aae02) (maxL := 1) (ret := (some .boolean)) (lv := [(0, .ref a1)]) (by decide) rfl (Nat.le_of_ble_eq_true rfl) rfl ?_
  intro p e s m below meth c ls hx hb hr hml hown hlocks hname hts hv hl
  have hown : s.vm.findClass RJx35411 = some m.cls := hown
  obtain ⟨hP, hK, hN⟩ := hv
  have hS : va_S (fun _ => False) s.heap s.heap [] := va_S.rf
  refine lv_aload_n hx hb dJx35411_hasNext_aae02_0 rfl (lv_at hl 0 rfl) ?_
  refine va_get (D := D) (ci := 3) (v := .int cur) (C := RJx35411) (T := TJx35411) (N := 4) hx hb hts iw_Jx35411_hasNext_aae02_RJx35411 hown hK hP k1 h1 rfl 0 (by decide) (hts (.fieldLink RJx35411 25 "java/util/ArrayList$Itr" "cursor" "I") (by decide +kernel)) (fun _ h9 => h9) rfl dJx35411_hasNext_aae02_1 ?_
  refine lv_aload_n hx hb dJx35411_hasNext_aae02_4 rfl (lv_at hl 0 rfl) ?_
  refine va_get (D := D) (ci := 3) (v := .ref a2) (C := RJx35411) (T := TJx35411) (N := 4) hx hb hts iw_Jx35411_hasNext_aae02_RJx35411 hown hK hP k1 h1 rfl 3 (by decide) (hts (.fieldLink RJx35411 1 "java/util/ArrayList$Itr" "this$0" "Ljava/util/ArrayList;") (by decide +kernel)) (fun _ h9 => h9) rfl dJx35411_hasNext_aae02_5 ?_
  refine va_getN (D := D) (ci := 4) (v := .int n1) (C := RJx4a65c) (T := TJx4a65c) (N := 3) hx hb hts iw_Jx35411_hasNext_aae02_RJx4a65c hown hK hP k2 h2 rfl 2 (by decide) (va_Nw.use rfl (hN.1 _ nf_76)) (fun _ h9 => h9) rfl dJx35411_hasNext_aae02_8 ?_
  refine lv_icmp_eq (tgt := 18) hx hb dJx35411_hasNext_aae02_11 (by decide) (fun _ => ?_) (fun c => absurd h0 c)
  refine lv_iconst (v := 0) hx hb dJx35411_hasNext_aae02_18 (by decide) ?_
  exact W.zret hx hb hr (by decide) (fun t ht hW => ⟨rfl, hS.F ht⟩) hS.2.2 dJx35411_hasNext_aae02_19

theorem iw_Jx35411_checkForComodification_da8c8_RJx35411 : ∀ w ∈ u_ws RJx35411 TJx35411 4, w ∈ wsJx35411_checkForComodification_da8c8 := by decide +kernel
theorem iw_Jx35411_checkForComodification_da8c8_RJx4a65c : ∀ w ∈ u_ws RJx4a65c TJx4a65c 3, w ∈ wsJx35411_checkForComodification_da8c8 := by decide +kernel
set_option maxRecDepth 100000 in
set_option maxHeartbeats 4000000 in
theorem c_comod (l : Launch) (D : va_G) (cy : Nat → ClassId) (w : va_W) (k1 k2 a1 a2 e1 : Nat) (cur lr ex mc n1 : Int32) (h1 : w[k1]? = some (a1, .inr (3, [.int cur, .int lr, .int ex, .ref a2]))) (h2 : w[k2]? = some (a2, .inr (4, [.int mc, .ref e1, .int n1]))) (h0 : mc = ex) : RO l D cy w yJx35411_checkForComodification_da8c8 wsJx35411_checkForComodification_da8c8 0 0 [.ref a1] none := by
  refine ro_ofW (cc := cJx35411_checkForComodification_da8c8) (maxL := 1) (ret := none) (lv := [(0, .ref a1)]) (by decide) rfl (Nat.le_of_ble_eq_true rfl) rfl ?_
  intro p e s m below meth c ls hx hb hr hml hown hlocks hname hts hv hl
  have hown : s.vm.findClass RJx35411 = some m.cls := hown
  obtain ⟨hP, hK, hN⟩ := hv
  have hS : va_S (fun _ => False) s.heap s.heap [] := va_S.rf
  refine lv_aload_n hx hb dJx35411_checkForComodification_da8c8_0 rfl (lv_at hl 0 rfl) ?_
  refine va_get (D := D) (ci := 3) (v := .ref a2) (C := RJx35411) (T := TJx35411) (N := 4) hx hb hts iw_Jx35411_checkForComodification_da8c8_RJx35411 hown hK hP k1 h1 rfl 3 (by decide) (hts (.fieldLink RJx35411 1 "java/util/ArrayList$Itr" "this$0" "Ljava/util/ArrayList;") (by decide +kernel)) (fun _ h9 => h9) rfl dJx35411_checkForComodification_da8c8_1 ?_
  refine va_get (D := D) (ci := 4) (v := .int mc) (C := RJx4a65c) (T := TJx4a65c) (N := 3) hx hb hts iw_Jx35411_checkForComodification_da8c8_RJx4a65c hown hK hP k2 h2 rfl 0 (by decide) (hts (.fieldLink RJx35411 17 "java/util/ArrayList" "modCount" "I") (by decide +kernel)) (fun x9 h9 => u_same (hts (.sameField "java/util/ArrayList" "java/util/AbstractList" "modCount" "I") (by decide +kernel)) x9 h9) rfl dJx35411_checkForComodification_da8c8_4 ?_
  refine lv_aload_n hx hb dJx35411_checkForComodification_da8c8_7 rfl (lv_at hl 0 rfl) ?_
  refine va_get (D := D) (ci := 3) (v := .int ex) (C := RJx35411) (T := TJx35411) (N := 4) hx hb hts iw_Jx35411_checkForComodification_da8c8_RJx35411 hown hK hP k1 h1 rfl 2 (by decide) (hts (.fieldLink RJx35411 22 "java/util/ArrayList$Itr" "expectedModCount" "I") (by decide +kernel)) (fun _ h9 => h9) rfl dJx35411_checkForComodification_da8c8_8 ?_
  refine lv_icmp_eq (tgt := 22) hx hb dJx35411_checkForComodification_da8c8_11 (by decide) (fun _ => ?_) (fun c => absurd h0 c)
  exact W.vret hx hb hr (fun t ht hW => ⟨rfl, hS.F ht⟩) hS.2.2 dJx35411_checkForComodification_da8c8_22

theorem iw_Jx35411_next_0502b_RJx35411 : ∀ w ∈ u_ws RJx35411 TJx35411 4, w ∈ wsJx35411_next_0502b := by decide +kernel
theorem iw_Jx35411_next_0502b_RJx4a65c : ∀ w ∈ u_ws RJx4a65c TJx4a65c 3, w ∈ wsJx35411_next_0502b := by decide +kernel
set_option maxRecDepth 100000 in
set_option maxHeartbeats 4000000 in
theorem m_next0 (l : Launch) (D : va_G) (cy : Nat → ClassId) (a1 a2 e2 r0 : Nat) (sz : Nat) (mc : Int32) : ME l D cy ([(a1, .inr (3, [.int 0, .int (-1), .int mc, .ref a2])), (a2, .inr (4, [.int mc, .ref e2, .int 1])), (e2, .inl (cy 10, 10, .inr (.inr (.inr (.inr (va_up (fun _ => none) 0 (some r0)))))))]) sz yJx35411_next_0502b wsJx35411_next_0502b 1 0 0 20 [.ref a1] (some (.ref r0)) (fun H => va_P D vwCl ([(a1, .inr (3, [.int 1, .int 0, .int mc, .ref a2])), (a2, .inr (4, [.int mc, .ref e2, .int 1])), (e2, .inl (cy 10, 10, .inr (.inr (.inr (.inr (va_up (fun _ => none) 0 (some r0)))))))]) H ∧ va_D (va_A ([(a1, .inr (3, [.int 0, .int (-1), .int mc, .ref a2])), (a2, .inr (4, [.int mc, .ref e2, .int 1])), (e2, .inl (cy 10, 10, .inr (.inr (.inr (.inr (va_up (fun _ => none) 0 (some r0)))))))]) sz) ([(a1, .inr (3, [.int 1, .int 0, .int mc, .ref a2])), (a2, .inr (4, [.int mc, .ref e2, .int 1])), (e2, .inl (cy 10, 10, .inr (.inr (.inr (.inr (va_up (fun _ => none) 0 (some r0)))))))])) := by
  refine ro_ofW (cc := cJx35411_next_0502b) (maxL := 3) (ret := (some (.object "java/lang/Object"))) (lv := [(0, .ref a1)]) (by decide) rfl (Nat.le_of_ble_eq_true rfl) rfl ?_
  intro p e s m below meth c ls hx hb hr hml hown hlocks hname hts hv hl
  have hown : s.vm.findClass RJx35411 = some m.cls := hown
  obtain ⟨⟨hsz, hP, hD0⟩, hK, hN⟩ := hv
  subst hsz
  have hD := hD0.self (sz := s.heap.size)
  generalize hAe : va_A ([(a1, .inr (3, [.int 0, .int (-1), .int mc, .ref a2])), (a2, .inr (4, [.int mc, .ref e2, .int 1])), (e2, .inl (cy 10, 10, .inr (.inr (.inr (.inr (va_up (fun _ => none) 0 (some r0)))))))]) s.heap.size = A at hD ⊢
  have hA : ∀ q : Nat, s.heap.size ≤ q → A q := fun q h => by rw [← hAe]; exact Or.inr h
  have hS : va_S A s.heap s.heap [] := va_S.rf
  refine lv_aload_n hx hb dJx35411_next_0502b_0 rfl (lv_at hl 0 rfl) ?_
  refine ro_callV (As := []) (rest := []) ⟨hx, hb, hml, hown, hts⟩ (c_comod l D cy _ 0 1 a1 a2 e2 0 (-1) mc mc 1 rfl rfl rfl) (cwV 0 hts gJx35411_next_0502b_Jx35411_checkForComodification_da8c8 rfl rfl rfl (by decide +kernel) ⟨by decide, by decide⟩) hK hN hP hS (ci := 3) (q0 := 0) rfl rfl rfl rfl hl.1 rfl (Nat.le_of_ble_eq_true rfl) dJx35411_next_0502b_1 ⟨Nat.le_of_ble_eq_true rfl, Nat.le_of_ble_eq_true rfl⟩ (fun H locs hP hS => ?_)
  refine lv_aload_n hx hb dJx35411_next_0502b_4 rfl (lv_at hl 0 rfl) ?_
  refine va_get (D := D) (ci := 3) (v := .int 0) (C := RJx35411) (T := TJx35411) (N := 4) hx hb hts iw_Jx35411_next_0502b_RJx35411 hown hK hP 0 rfl rfl 0 (by decide) (hts (.fieldLink RJx35411 25 "java/util/ArrayList$Itr" "cursor" "I") (by decide +kernel)) (fun _ h9 => h9) rfl dJx35411_next_0502b_5 ?_
  refine lv_istore_n (lv' := [(1, .int 0), (0, .ref a1)]) hx hb dJx35411_next_0502b_8 rfl hl (by decide) rfl (fun ls hl => ?_)
  refine lv_iload_n hx hb dJx35411_next_0502b_9 rfl (lv_at hl 0 rfl) ?_
  refine lv_aload_n hx hb dJx35411_next_0502b_10 rfl (lv_at hl 1 rfl) ?_
  refine va_get (D := D) (ci := 3) (v := .ref a2) (C := RJx35411) (T := TJx35411) (N := 4) hx hb hts iw_Jx35411_next_0502b_RJx35411 hown hK hP 0 rfl rfl 3 (by decide) (hts (.fieldLink RJx35411 1 "java/util/ArrayList$Itr" "this$0" "Ljava/util/ArrayList;") (by decide +kernel)) (fun _ h9 => h9) rfl dJx35411_next_0502b_11 ?_
  refine va_getN (D := D) (ci := 4) (v := .int 1) (C := RJx4a65c) (T := TJx4a65c) (N := 3) hx hb hts iw_Jx35411_next_0502b_RJx4a65c hown hK hP 1 rfl rfl 2 (by decide) (va_Nw.use rfl (hN.1 _ nf_76)) (fun _ h9 => h9) rfl dJx35411_next_0502b_14 ?_
  refine lv_icmp_lt (tgt := 28) hx hb dJx35411_next_0502b_17 (by decide) (fun _ => ?_) (fun c => absurd (by decide) c)
  refine lv_aload_n hx hb dJx35411_next_0502b_28 rfl (lv_at hl 1 rfl) ?_
  refine va_get (D := D) (ci := 3) (v := .ref a2) (C := RJx35411) (T := TJx35411) (N := 4) hx hb hts iw_Jx35411_next_0502b_RJx35411 hown hK hP 0 rfl rfl 3 (by decide) (hts (.fieldLink RJx35411 1 "java/util/ArrayList$Itr" "this$0" "Ljava/util/ArrayList;") (by decide +kernel)) (fun _ h9 => h9) rfl dJx35411_next_0502b_29 ?_
  refine va_get (D := D) (ci := 4) (v := .ref e2) (C := RJx4a65c) (T := TJx4a65c) (N := 3) hx hb hts iw_Jx35411_next_0502b_RJx4a65c hown hK hP 1 rfl rfl 1 (by decide) (hts (.fieldLink RJx35411 37 "java/util/ArrayList" "elementData" "[Ljava/lang/Object;") (by decide +kernel)) (fun _ h9 => h9) rfl dJx35411_next_0502b_32 ?_
  refine lv_astore_n (lv' := [(2, .ref e2), (1, .int 0), (0, .ref a1)]) hx hb dJx35411_next_0502b_35 rfl hl (by decide) rfl (fun ls hl => ?_)
  refine lv_iload_n hx hb dJx35411_next_0502b_36 rfl (lv_at hl 1 rfl) ?_
  refine lv_aload_n hx hb dJx35411_next_0502b_37 rfl (lv_at hl 0 rfl) ?_
  refine va_alen (v := 10) hx hb hK hP 2 10 rfl rfl rfl dJx35411_next_0502b_38 ?_
  refine lv_icmp_lt (tgt := 50) hx hb dJx35411_next_0502b_39 (by decide) (fun _ => ?_) (fun c => absurd (by decide) c)
  refine lv_aload_n hx hb dJx35411_next_0502b_50 rfl (lv_at hl 2 rfl) ?_
  refine lv_iload_n hx hb dJx35411_next_0502b_51 rfl (lv_at hl 1 rfl) ?_
  refine lv_iconst (v := 1) hx hb dJx35411_next_0502b_52 (by decide) ?_
  refine lv_iadd hx hb dJx35411_next_0502b_53 ?_
  refine lv_topi (fun y ey => ?_)
  obtain rfl : y = 1 := ey.trans (by decide)
  refine va_put (D := D) (ci := 3) (v := .int 1) (ty := .int) (C := RJx35411) (T := TJx35411) (N := 4) hx hb hts iw_Jx35411_next_0502b_RJx35411 tyJx35411 tyJx35411_ok nmJx35411 hown hK hP hD hS 0 rfl rfl 0 (by decide) (hts (.fieldLink RJx35411 25 "java/util/ArrayList$Itr" "cursor" "I") (by decide +kernel)) (fun _ h9 => h9) rfl (by decide +kernel) rfl rfl (Nat.le_of_ble_eq_true rfl) dJx35411_next_0502b_54 (fun H locs hP hD hS => ?_)
  have hP : va_P D vwCl ([(a1, .inr (3, [.int 1, .int (-1), .int mc, .ref a2])), (a2, .inr (4, [.int mc, .ref e2, .int 1])), (e2, .inl (cy 10, 10, .inr (.inr (.inr (.inr (va_up (fun _ => none) 0 (some r0)))))))]) H := hP
  have hD : va_D A ([(a1, .inr (3, [.int 1, .int (-1), .int mc, .ref a2])), (a2, .inr (4, [.int mc, .ref e2, .int 1])), (e2, .inl (cy 10, 10, .inr (.inr (.inr (.inr (va_up (fun _ => none) 0 (some r0)))))))]) := hD
  refine lv_aload_n hx hb dJx35411_next_0502b_57 rfl (lv_at hl 0 rfl) ?_
  refine lv_aload_n hx hb dJx35411_next_0502b_58 rfl (lv_at hl 2 rfl) ?_
  refine lv_iload_n hx hb dJx35411_next_0502b_59 rfl (lv_at hl 1 rfl) ?_
  refine lv_dup_x1 hx hb dJx35411_next_0502b_60 rfl rfl ?_
  refine va_put (D := D) (ci := 3) (v := .int 0) (ty := .int) (C := RJx35411) (T := TJx35411) (N := 4) hx hb hts iw_Jx35411_next_0502b_RJx35411 tyJx35411 tyJx35411_ok nmJx35411 hown hK hP hD hS 0 rfl rfl 1 (by decide) (hts (.fieldLink RJx35411 13 "java/util/ArrayList$Itr" "lastRet" "I") (by decide +kernel)) (fun _ h9 => h9) rfl (by decide +kernel) rfl rfl (Nat.le_of_ble_eq_true rfl) dJx35411_next_0502b_61 (fun H locs hP hD hS => ?_)
  have hP : va_P D vwCl ([(a1, .inr (3, [.int 1, .int 0, .int mc, .ref a2])), (a2, .inr (4, [.int mc, .ref e2, .int 1])), (e2, .inl (cy 10, 10, .inr (.inr (.inr (.inr (va_up (fun _ => none) 0 (some r0)))))))]) H := hP
  have hD : va_D A ([(a1, .inr (3, [.int 1, .int 0, .int mc, .ref a2])), (a2, .inr (4, [.int mc, .ref e2, .int 1])), (e2, .inl (cy 10, 10, .inr (.inr (.inr (.inr (va_up (fun _ => none) 0 (some r0)))))))]) := hD
  refine my_ald hx hb hK hP 2 10 rfl rfl (i := 0) (j := 0) (r := r0) (by decide) (by decide) (by decide) rfl dJx35411_next_0502b_64 ?_
  refine W.widen (k := 0) (n := 0) (Nat.le_of_ble_eq_true rfl) (Nat.le_of_ble_eq_true rfl) ?_
  have hP9 := hP.sub (ws' := [(a1, .inr (3, [.int 1, .int 0, .int mc, .ref a2])), (a2, .inr (4, [.int mc, .ref e2, .int 1])), (e2, .inl (cy 10, 10, .inr (.inr (.inr (.inr (va_up (fun _ => none) 0 (some r0)))))))]) [0, 1, 2] rfl
  have hD9 := hD.sub (ws' := [(a1, .inr (3, [.int 1, .int 0, .int mc, .ref a2])), (a2, .inr (4, [.int mc, .ref e2, .int 1])), (e2, .inl (cy 10, 10, .inr (.inr (.inr (.inr (va_up (fun _ => none) 0 (some r0)))))))]) [0, 1, 2] (by decide) rfl
  exact W.aret hx hb hr (Or.inl ⟨_, rfl⟩) (Or.inr ⟨_, rfl⟩) (fun t ht hW => ⟨rfl, ⟨by rw [ht]; exact hP9, hD9⟩, hS.F ht⟩) hS.2.2 dJx35411_next_0502b_65

theorem iw_Jx35411_init_45d68_RJx35411 : ∀ w ∈ u_ws RJx35411 TJx35411 4, w ∈ wsJx35411_init_45d68 := by decide +kernel
theorem iw_Jx35411_init_45d68_RJx4a65c : ∀ w ∈ u_ws RJx4a65c TJx4a65c 3, w ∈ wsJx35411_init_45d68 := by decide +kernel
set_option maxRecDepth 100000 in
set_option maxHeartbeats 4000000 in
theorem m_itr_init (l : Launch) (D : va_G) (cy : Nat → ClassId) (a1 e1 q1 : Nat) (sz : Nat) (mc n1 : Int32) : ME l D cy ([(a1, .inr (4, [.int mc, .ref e1, .int n1])), (q1, .inr (3, [.int 0, .int 0, .int 0, .null]))]) sz yJx35411_init_45d68 wsJx35411_init_45d68 1 0 0 12 [.ref q1, .ref a1] none (fun H => va_P D vwCl ([(a1, .inr (4, [.int mc, .ref e1, .int n1])), (q1, .inr (3, [.int 0, .int (-1), .int mc, .ref a1]))]) H ∧ va_D (va_A ([(a1, .inr (4, [.int mc, .ref e1, .int n1])), (q1, .inr (3, [.int 0, .int 0, .int 0, .null]))]) sz) ([(a1, .inr (4, [.int mc, .ref e1, .int n1])), (q1, .inr (3, [.int 0, .int (-1), .int mc, .ref a1]))])) := by
  refine ro_ofW (cc := cJx35411_init_45d68) (maxL := 2) (ret := none) (lv := [(0, .ref q1), (1, .ref a1)]) (by decide) rfl (Nat.le_of_ble_eq_true rfl) rfl ?_
  intro p e s m below meth c ls hx hb hr hml hown hlocks hname hts hv hl
  have hown : s.vm.findClass RJx35411 = some m.cls := hown
  obtain ⟨⟨hsz, hP, hD0⟩, hK, hN⟩ := hv
  subst hsz
  have hD := hD0.self (sz := s.heap.size)
  generalize hAe : va_A ([(a1, .inr (4, [.int mc, .ref e1, .int n1])), (q1, .inr (3, [.int 0, .int 0, .int 0, .null]))]) s.heap.size = A at hD ⊢
  have hA : ∀ q : Nat, s.heap.size ≤ q → A q := fun q h => by rw [← hAe]; exact Or.inr h
  have hS : va_S A s.heap s.heap [] := va_S.rf
  refine lv_aload_n hx hb dJx35411_init_45d68_0 rfl (lv_at hl 0 rfl) ?_
  refine lv_aload_n hx hb dJx35411_init_45d68_1 rfl (lv_at hl 1 rfl) ?_
  refine va_putF (D := D) (ci := 3) (v := .ref a1) (ty := .object "java/util/ArrayList") (C := RJx35411) (T := TJx35411) (N := 4) hx hb hts iw_Jx35411_init_45d68_RJx35411 tyJx35411 tyJx35411_ok nmJx35411 hown hK hP hD hS 1 rfl rfl 3 (by decide) (hts (.fieldLink RJx35411 1 "java/util/ArrayList$Itr" "this$0" "Ljava/util/ArrayList;") (by decide +kernel)) (fun _ h9 => h9) rfl hname rfl (by decide +kernel) rfl rfl (Nat.le_of_ble_eq_true rfl) dJx35411_init_45d68_2 (fun H locs hP hD hS => ?_)
  have hP : va_P D vwCl ([(a1, .inr (4, [.int mc, .ref e1, .int n1])), (q1, .inr (3, [.int 0, .int 0, .int 0, .ref a1]))]) H := hP
  have hD : va_D A ([(a1, .inr (4, [.int mc, .ref e1, .int n1])), (q1, .inr (3, [.int 0, .int 0, .int 0, .ref a1]))]) := hD
  refine lv_aload_n hx hb dJx35411_init_45d68_5 rfl (lv_at hl 0 rfl) ?_
  refine W.objInit hx hb hown (hts (.methodLink RJx35411 7 objectInit) (by decide +kernel)) (hts (.instanceMethod objectInit) (by decide +kernel)) (hts (.code objectInit ⟨#[0xb1]⟩ 1 none) (by decide +kernel)) rfl (by rw [hml]; exact hl.1) rfl dJx35411_init_45d68_6 (Nat.le_of_ble_eq_true rfl) (Nat.le_of_ble_eq_true rfl) ?_
  refine W.eq (g2 := F0 m 9 ls []) rfl ?_
  refine lv_aload_n hx hb dJx35411_init_45d68_9 rfl (lv_at hl 0 rfl) ?_
  refine lv_iconst (v := (-1)) hx hb dJx35411_init_45d68_10 (by decide) ?_
  refine va_put (D := D) (ci := 3) (v := .int (-1)) (ty := .int) (C := RJx35411) (T := TJx35411) (N := 4) hx hb hts iw_Jx35411_init_45d68_RJx35411 tyJx35411 tyJx35411_ok nmJx35411 hown hK hP hD hS 1 rfl rfl 1 (by decide) (hts (.fieldLink RJx35411 13 "java/util/ArrayList$Itr" "lastRet" "I") (by decide +kernel)) (fun _ h9 => h9) rfl (by decide +kernel) rfl rfl (Nat.le_of_ble_eq_true rfl) dJx35411_init_45d68_11 (fun H locs hP hD hS => ?_)
  have hP : va_P D vwCl ([(a1, .inr (4, [.int mc, .ref e1, .int n1])), (q1, .inr (3, [.int 0, .int (-1), .int 0, .ref a1]))]) H := hP
  have hD : va_D A ([(a1, .inr (4, [.int mc, .ref e1, .int n1])), (q1, .inr (3, [.int 0, .int (-1), .int 0, .ref a1]))]) := hD
  refine lv_aload_n hx hb dJx35411_init_45d68_14 rfl (lv_at hl 0 rfl) ?_
  refine lv_aload_n hx hb dJx35411_init_45d68_15 rfl (lv_at hl 0 rfl) ?_
  refine va_get (D := D) (ci := 3) (v := .ref a1) (C := RJx35411) (T := TJx35411) (N := 4) hx hb hts iw_Jx35411_init_45d68_RJx35411 hown hK hP 1 rfl rfl 3 (by decide) (hts (.fieldLink RJx35411 1 "java/util/ArrayList$Itr" "this$0" "Ljava/util/ArrayList;") (by decide +kernel)) (fun _ h9 => h9) rfl dJx35411_init_45d68_16 ?_
  refine va_get (D := D) (ci := 4) (v := .int mc) (C := RJx4a65c) (T := TJx4a65c) (N := 3) hx hb hts iw_Jx35411_init_45d68_RJx4a65c hown hK hP 0 rfl rfl 0 (by decide) (hts (.fieldLink RJx35411 17 "java/util/ArrayList" "modCount" "I") (by decide +kernel)) (fun x9 h9 => u_same (hts (.sameField "java/util/ArrayList" "java/util/AbstractList" "modCount" "I") (by decide +kernel)) x9 h9) rfl dJx35411_init_45d68_19 ?_
  refine va_put (D := D) (ci := 3) (v := .int mc) (ty := .int) (C := RJx35411) (T := TJx35411) (N := 4) hx hb hts iw_Jx35411_init_45d68_RJx35411 tyJx35411 tyJx35411_ok nmJx35411 hown hK hP hD hS 1 rfl rfl 2 (by decide) (hts (.fieldLink RJx35411 22 "java/util/ArrayList$Itr" "expectedModCount" "I") (by decide +kernel)) (fun _ h9 => h9) rfl (by decide +kernel) rfl rfl (Nat.le_of_ble_eq_true rfl) dJx35411_init_45d68_22 (fun H locs hP hD hS => ?_)
  have hP : va_P D vwCl ([(a1, .inr (4, [.int mc, .ref e1, .int n1])), (q1, .inr (3, [.int 0, .int (-1), .int mc, .ref a1]))]) H := hP
  have hD : va_D A ([(a1, .inr (4, [.int mc, .ref e1, .int n1])), (q1, .inr (3, [.int 0, .int (-1), .int mc, .ref a1]))]) := hD
  refine W.widen (k := 0) (n := 0) (Nat.le_of_ble_eq_true rfl) (Nat.le_of_ble_eq_true rfl) ?_
  have hP9 := hP.sub (ws' := [(a1, .inr (4, [.int mc, .ref e1, .int n1])), (q1, .inr (3, [.int 0, .int (-1), .int mc, .ref a1]))]) [0, 1] rfl
  have hD9 := hD.sub (ws' := [(a1, .inr (4, [.int mc, .ref e1, .int n1])), (q1, .inr (3, [.int 0, .int (-1), .int mc, .ref a1]))]) [0, 1] (by decide) rfl
  exact W.vret hx hb hr (fun t ht hW => ⟨rfl, ⟨by rw [ht]; exact hP9, hD9⟩, hS.F ht⟩) hS.2.2 dJx35411_init_45d68_25

theorem iw_Jx4a65c_iterator_32c93_RJx35411 : ∀ w ∈ u_ws RJx35411 TJx35411 4, w ∈ wsJx4a65c_iterator_32c93 := by decide +kernel
theorem df_RJx35411 : ∀ j, j < 4 → defaultValue (tyJx35411 j) = vp_V [.int 0, .int 0, .int 0, .null] j := by decide +kernel
set_option maxRecDepth 100000 in
set_option maxHeartbeats 4000000 in
theorem m_iter (l : Launch) (D : va_G) (cy : Nat → ClassId) {ca : Nat} {ia : Nat → Nat} {eda : Nat} (a1 e1 : Nat) (sz : Nat) (mc n1 : Int32) : MJR l D cy eda ca ia ([(a1, .inr (4, [.int mc, .ref e1, .int n1]))]) sz yJx4a65c_iterator_32c93 wsJx4a65c_iterator_32c93 2 1 4 33 [.ref a1] (fun q1 H => va_P D vwCl ([(a1, .inr (4, [.int mc, .ref e1, .int n1])), (q1, .inr (3, [.int 0, .int (-1), .int mc, .ref a1]))]) H ∧ va_D (va_A ([(a1, .inr (4, [.int mc, .ref e1, .int n1]))]) sz) ([(a1, .inr (4, [.int mc, .ref e1, .int n1])), (q1, .inr (3, [.int 0, .int (-1), .int mc, .ref a1]))])) := by
  refine ro_ofW (cc := cJx4a65c_iterator_32c93) (maxL := 1) (ret := (some (.object "java/util/Iterator"))) (lv := [(0, .ref a1)]) (by decide) rfl (Nat.le_of_ble_eq_true rfl) rfl ?_
  intro p e s m below meth c ls hx hb hr hml hown hlocks hname hts hv hl
  have hown : s.vm.findClass RJx4a65c = some m.cls := hown
  obtain ⟨⟨⟨hsz, hP, hD0⟩, hK, hN⟩, hJS⟩ := hv
  subst hsz
  have hD := hD0.self (sz := s.heap.size)
  generalize hAe : va_A ([(a1, .inr (4, [.int mc, .ref e1, .int n1]))]) s.heap.size = A at hD hJS ⊢
  have hA : ∀ q : Nat, s.heap.size ≤ q → A q := fun q h => by rw [← hAe]; exact Or.inr h
  have hS : va_S A s.heap s.heap [] := va_S.rf
  refine va_new (ci := 3) (fs := [.int 0, .int 0, .int 0, .null]) (C := RJx35411) (T := TJx35411) (N := 4) hx hb hts iw_Jx4a65c_iterator_32c93_RJx35411 tyJx35411 tyJx35411_ok hown (hts (.classLink RJx4a65c 267 RJx35411) (by decide +kernel)) (hts (.instantiable RJx35411 4) (by decide +kernel)) (hts (.initialized RJx35411) (by decide +kernel)) hK hP hD hS hA rfl df_RJx35411 (Nat.le_of_ble_eq_true rfl) (Nat.le_of_ble_eq_true rfl) dJx4a65c_iterator_32c93_0 (fun q1 H hP hD hS => ?_)
  have hP : va_P D vwCl ([(a1, .inr (4, [.int mc, .ref e1, .int n1])), (q1, .inr (3, [.int 0, .int 0, .int 0, .null]))]) H := hP
  have hD : va_D A ([(a1, .inr (4, [.int mc, .ref e1, .int n1])), (q1, .inr (3, [.int 0, .int 0, .int 0, .null]))]) := hD
  refine lv_dup hx hb dJx4a65c_iterator_32c93_3 rfl ?_
  refine lv_aload_n hx hb dJx4a65c_iterator_32c93_4 rfl (lv_at hl 0 rfl) ?_
  refine me_callI (wr := []) (wc := [(a1, .inr (4, [.int mc, .ref e1, .int n1])), (q1, .inr (3, [.int 0, .int 0, .int 0, .null]))]) (As := [.ref a1]) (rest := [.ref q1]) ⟨hx, hb, hml, hown, hts⟩ (m_itr_init l D cy a1 e1 q1 _ mc n1 ) (cwI 1 hts gJx4a65c_iterator_32c93_Jx35411_init_45d68 rfl rfl rfl (hts (.initialized RJx35411) (by decide +kernel)) (hts (.methodLink RJx4a65c 269 yJx35411_init_45d68) (by decide +kernel)) (hts (.instanceMethod yJx35411_init_45d68) (by decide +kernel)) rfl (by decide +kernel) ⟨by decide, by decide⟩) hK hN hP hD hS hA rfl hl.1 rfl (Nat.le_of_ble_eq_true rfl) dJx4a65c_iterator_32c93_5 ⟨Nat.le_of_ble_eq_true rfl, Nat.le_of_ble_eq_true rfl⟩ (fun H locs hB hJ hS => ?_)
  obtain ⟨hP1, hD1⟩ := hB
  obtain ⟨hP, hD⟩ := hJ _ hP1 hD1
  have hP : va_P D vwCl ([(a1, .inr (4, [.int mc, .ref e1, .int n1])), (q1, .inr (3, [.int 0, .int (-1), .int mc, .ref a1]))]) H := hP
  have hD : va_D A ([(a1, .inr (4, [.int mc, .ref e1, .int n1])), (q1, .inr (3, [.int 0, .int (-1), .int mc, .ref a1]))]) := hD
  refine W.widen (k := 1) (n := 4) (Nat.le_of_ble_eq_true rfl) (Nat.le_of_ble_eq_true rfl) ?_
  have hP9 := hP.sub (ws' := [(a1, .inr (4, [.int mc, .ref e1, .int n1])), (q1, .inr (3, [.int 0, .int (-1), .int mc, .ref a1]))]) [0, 1] rfl
  have hD9 := hD.sub (ws' := [(a1, .inr (4, [.int mc, .ref e1, .int n1])), (q1, .inr (3, [.int 0, .int (-1), .int mc, .ref a1]))]) [0, 1] (by decide) rfl
  exact W.aret hx hb hr (Or.inl ⟨_, rfl⟩) (Or.inr ⟨_, rfl⟩) (fun t ht hW => ⟨q1, rfl, ⟨by rw [ht]; exact hP9, hD9⟩, hS.F ht⟩) hS.2.2 dJx4a65c_iterator_32c93_8

set_option maxRecDepth 100000 in
set_option maxHeartbeats 4000000 in
theorem m_ac_init (l : Launch) (D : va_G) (cy : Nat → ClassId) (a1 : Nat) (sz : Nat) : ME l D cy ([(a1, .inr (4, [.int 0, .null, .int 0]))]) sz yJxa1e45_init_da8c8 wsJxa1e45_init_da8c8 1 0 0 12 [.ref a1] none (fun H => va_P D vwCl ([(a1, .inr (4, [.int 0, .null, .int 0]))]) H ∧ va_D (va_A ([(a1, .inr (4, [.int 0, .null, .int 0]))]) sz) ([(a1, .inr (4, [.int 0, .null, .int 0]))])) := by
  refine ro_ofW (cc := cJxa1e45_init_da8c8) (maxL := 1) (ret := none) (lv := [(0, .ref a1)]) (by decide) rfl (Nat.le_of_ble_eq_true rfl) rfl ?_
  intro p e s m below meth c ls hx hb hr hml hown hlocks hname hts hv hl
  have hown : s.vm.findClass RJxa1e45 = some m.cls := hown
  obtain ⟨⟨hsz, hP, hD0⟩, hK, hN⟩ := hv
  subst hsz
  have hD := hD0.self (sz := s.heap.size)
  generalize hAe : va_A ([(a1, .inr (4, [.int 0, .null, .int 0]))]) s.heap.size = A at hD ⊢
  have hA : ∀ q : Nat, s.heap.size ≤ q → A q := fun q h => by rw [← hAe]; exact Or.inr h
  have hS : va_S A s.heap s.heap [] := va_S.rf
  refine lv_aload_n hx hb dJxa1e45_init_da8c8_0 rfl (lv_at hl 0 rfl) ?_
  refine W.objInit hx hb hown (hts (.methodLink RJxa1e45 1 objectInit) (by decide +kernel)) (hts (.instanceMethod objectInit) (by decide +kernel)) (hts (.code objectInit ⟨#[0xb1]⟩ 1 none) (by decide +kernel)) rfl (by rw [hml]; exact hl.1) rfl dJxa1e45_init_da8c8_1 (Nat.le_of_ble_eq_true rfl) (Nat.le_of_ble_eq_true rfl) ?_
  refine W.eq (g2 := F0 m 4 ls []) rfl ?_
  refine W.widen (k := 0) (n := 0) (Nat.le_of_ble_eq_true rfl) (Nat.le_of_ble_eq_true rfl) ?_
  have hP9 := hP.sub (ws' := [(a1, .inr (4, [.int 0, .null, .int 0]))]) [0] rfl
  have hD9 := hD.sub (ws' := [(a1, .inr (4, [.int 0, .null, .int 0]))]) [0] (by decide) rfl
  exact W.vret hx hb hr (fun t ht hW => ⟨rfl, ⟨by rw [ht]; exact hP9, hD9⟩, hS.F ht⟩) hS.2.2 dJxa1e45_init_da8c8_4

theorem iw_Jxc12de_init_da8c8_RJx4a65c : ∀ w ∈ u_ws RJx4a65c TJx4a65c 3, w ∈ wsJxc12de_init_da8c8 := by decide +kernel
set_option maxRecDepth 100000 in
set_option maxHeartbeats 4000000 in
theorem m_al_init (l : Launch) (D : va_G) (cy : Nat → ClassId) (a1 : Nat) (sz : Nat) : ME l D cy ([(a1, .inr (4, [.int 0, .null, .int 0]))]) sz yJxc12de_init_da8c8 wsJxc12de_init_da8c8 2 0 0 32 [.ref a1] none (fun H => va_P D vwCl ([(a1, .inr (4, [.int 0, .null, .int 0]))]) H ∧ va_D (va_A ([(a1, .inr (4, [.int 0, .null, .int 0]))]) sz) ([(a1, .inr (4, [.int 0, .null, .int 0]))])) := by
  refine ro_ofW (cc := cJxc12de_init_da8c8) (maxL := 1) (ret := none) (lv := [(0, .ref a1)]) (by decide) rfl (Nat.le_of_ble_eq_true rfl) rfl ?_
  intro p e s m below meth c ls hx hb hr hml hown hlocks hname hts hv hl
  have hown : s.vm.findClass RJxc12de = some m.cls := hown
  obtain ⟨⟨hsz, hP, hD0⟩, hK, hN⟩ := hv
  subst hsz
  have hD := hD0.self (sz := s.heap.size)
  generalize hAe : va_A ([(a1, .inr (4, [.int 0, .null, .int 0]))]) s.heap.size = A at hD ⊢
  have hA : ∀ q : Nat, s.heap.size ≤ q → A q := fun q h => by rw [← hAe]; exact Or.inr h
  have hS : va_S A s.heap s.heap [] := va_S.rf
  refine lv_aload_n hx hb dJxc12de_init_da8c8_0 rfl (lv_at hl 0 rfl) ?_
  refine me_callI (wr := []) (wc := [(a1, .inr (4, [.int 0, .null, .int 0]))]) (As := []) (rest := []) ⟨hx, hb, hml, hown, hts⟩ (m_ac_init l D cy a1 _  ) (cwI 0 hts gJxc12de_init_da8c8_Jxa1e45_init_da8c8 rfl rfl rfl (hts (.initialized RJxa1e45) (by decide +kernel)) (hts (.methodLink RJxc12de 1 yJxa1e45_init_da8c8) (by decide +kernel)) (hts (.instanceMethod yJxa1e45_init_da8c8) (by decide +kernel)) rfl (by decide +kernel) ⟨by decide, by decide⟩) hK hN hP hD hS hA rfl hl.1 rfl (Nat.le_of_ble_eq_true rfl) dJxc12de_init_da8c8_1 ⟨Nat.le_of_ble_eq_true rfl, Nat.le_of_ble_eq_true rfl⟩ (fun H locs hB hJ hS => ?_)
  obtain ⟨hP1, hD1⟩ := hB
  obtain ⟨hP, hD⟩ := hJ _ hP1 hD1
  have hP : va_P D vwCl ([(a1, .inr (4, [.int 0, .null, .int 0]))]) H := hP
  have hD : va_D A ([(a1, .inr (4, [.int 0, .null, .int 0]))]) := hD
  refine lv_aload_n hx hb dJxc12de_init_da8c8_4 rfl (lv_at hl 0 rfl) ?_
  refine lv_iconst (v := 0) hx hb dJxc12de_init_da8c8_5 (by decide) ?_
  refine va_put (D := D) (ci := 4) (v := .int 0) (ty := .int) (C := RJx4a65c) (T := TJx4a65c) (N := 3) hx hb hts iw_Jxc12de_init_da8c8_RJx4a65c tyJx4a65c tyJx4a65c_ok nmJx4a65c hown hK hP hD hS 0 rfl rfl 0 (by decide) (hts (.fieldLink RJxc12de 7 "java/util/AbstractList" "modCount" "I") (by decide +kernel)) (fun _ h9 => h9) rfl (by decide +kernel) rfl rfl (Nat.le_of_ble_eq_true rfl) dJxc12de_init_da8c8_6 (fun H locs hP hD hS => ?_)
  have hP : va_P D vwCl ([(a1, .inr (4, [.int 0, .null, .int 0]))]) H := hP
  have hD : va_D A ([(a1, .inr (4, [.int 0, .null, .int 0]))]) := hD
  refine W.widen (k := 0) (n := 0) (Nat.le_of_ble_eq_true rfl) (Nat.le_of_ble_eq_true rfl) ?_
  have hP9 := hP.sub (ws' := [(a1, .inr (4, [.int 0, .null, .int 0]))]) [0] rfl
  have hD9 := hD.sub (ws' := [(a1, .inr (4, [.int 0, .null, .int 0]))]) [0] (by decide) rfl
  exact W.vret hx hb hr (fun t ht hW => ⟨rfl, ⟨by rw [ht]; exact hP9, hD9⟩, hS.F ht⟩) hS.2.2 dJxc12de_init_da8c8_9

theorem iw_Jx4a65c_init_da8c8_RJx4a65c : ∀ w ∈ u_ws RJx4a65c TJx4a65c 3, w ∈ wsJx4a65c_init_da8c8 := by decide +kernel
set_option maxRecDepth 100000 in
set_option maxHeartbeats 4000000 in
theorem m_list_init (l : Launch) (D : va_G) (cy : Nat → ClassId) {ca : Nat} {ia : Nat → Nat} {eda : Nat} (a1 : Nat) (sz : Nat) : MJ l D cy eda ca ia ([(a1, .inr (4, [.int 0, .null, .int 0]))]) sz yJx4a65c_init_da8c8 wsJx4a65c_init_da8c8 3 0 0 52 [.ref a1] none (fun H => va_P D vwCl ([(a1, .inr (4, [.int 0, .ref eda, .int 0]))]) H ∧ va_D (va_A ([(a1, .inr (4, [.int 0, .null, .int 0]))]) sz) ([(a1, .inr (4, [.int 0, .ref eda, .int 0]))])) := by
  refine ro_ofW (cc := cJx4a65c_init_da8c8) (maxL := 1) (ret := none) (lv := [(0, .ref a1)]) (by decide) rfl (Nat.le_of_ble_eq_true rfl) rfl ?_
  intro p e s m below meth c ls hx hb hr hml hown hlocks hname hts hv hl
  have hown : s.vm.findClass RJx4a65c = some m.cls := hown
  obtain ⟨⟨⟨hsz, hP, hD0⟩, hK, hN⟩, hJS⟩ := hv
  subst hsz
  have hD := hD0.self (sz := s.heap.size)
  generalize hAe : va_A ([(a1, .inr (4, [.int 0, .null, .int 0]))]) s.heap.size = A at hD hJS ⊢
  have hA : ∀ q : Nat, s.heap.size ≤ q → A q := fun q h => by rw [← hAe]; exact Or.inr h
  have hS : va_S A s.heap s.heap [] := va_S.rf
  refine lv_aload_n hx hb dJx4a65c_init_da8c8_0 rfl (lv_at hl 0 rfl) ?_
  refine me_callI (wr := []) (wc := [(a1, .inr (4, [.int 0, .null, .int 0]))]) (As := []) (rest := []) ⟨hx, hb, hml, hown, hts⟩ (m_al_init l D cy a1 _  ) (cwI 0 hts gJx4a65c_init_da8c8_Jxc12de_init_da8c8 rfl rfl rfl (hts (.initialized RJxc12de) (by decide +kernel)) (hts (.methodLink RJx4a65c 1 yJxc12de_init_da8c8) (by decide +kernel)) (hts (.instanceMethod yJxc12de_init_da8c8) (by decide +kernel)) rfl (by decide +kernel) ⟨by decide, by decide⟩) hK hN hP hD hS hA rfl hl.1 rfl (Nat.le_of_ble_eq_true rfl) dJx4a65c_init_da8c8_1 ⟨Nat.le_of_ble_eq_true rfl, Nat.le_of_ble_eq_true rfl⟩ (fun H locs hB hJ hS => ?_)
  obtain ⟨hP1, hD1⟩ := hB
  obtain ⟨hP, hD⟩ := hJ _ hP1 hD1
  have hP : va_P D vwCl ([(a1, .inr (4, [.int 0, .null, .int 0]))]) H := hP
  have hD : va_D A ([(a1, .inr (4, [.int 0, .null, .int 0]))]) := hD
  refine lv_aload_n hx hb dJx4a65c_init_da8c8_4 rfl (lv_at hl 0 rfl) ?_
  refine va_gets hx hb hJS.1 hS hown (hts (.fieldLink RJx4a65c 39 "java/util/ArrayList" "DEFAULTCAPACITY_EMPTY_ELEMENTDATA" "[Ljava/lang/Object;") (by decide +kernel)) (fun _ h9 => h9) dJx4a65c_init_da8c8_5 ?_
  refine va_put (D := D) (ci := 4) (v := .ref eda) (ty := .array (.object "java/lang/Object")) (C := RJx4a65c) (T := TJx4a65c) (N := 3) hx hb hts iw_Jx4a65c_init_da8c8_RJx4a65c tyJx4a65c tyJx4a65c_ok nmJx4a65c hown hK hP hD hS 0 rfl rfl 1 (by decide) (hts (.fieldLink RJx4a65c 9 "java/util/ArrayList" "elementData" "[Ljava/lang/Object;") (by decide +kernel)) (fun _ h9 => h9) rfl (by decide +kernel) rfl rfl (Nat.le_of_ble_eq_true rfl) dJx4a65c_init_da8c8_8 (fun H locs hP hD hS => ?_)
  have hP : va_P D vwCl ([(a1, .inr (4, [.int 0, .ref eda, .int 0]))]) H := hP
  have hD : va_D A ([(a1, .inr (4, [.int 0, .ref eda, .int 0]))]) := hD
  refine W.widen (k := 0) (n := 0) (Nat.le_of_ble_eq_true rfl) (Nat.le_of_ble_eq_true rfl) ?_
  have hP9 := hP.sub (ws' := [(a1, .inr (4, [.int 0, .ref eda, .int 0]))]) [0] rfl
  have hD9 := hD.sub (ws' := [(a1, .inr (4, [.int 0, .ref eda, .int 0]))]) [0] (by decide) rfl
  exact W.vret hx hb hr (fun t ht hW => ⟨rfl, ⟨by rw [ht]; exact hP9, hD9⟩, hS.F ht⟩) hS.2.2 dJx4a65c_init_da8c8_11

theorem iw_Jx4a65c_grow_92f84_RJx4a65c : ∀ w ∈ u_ws RJx4a65c TJx4a65c 3, w ∈ wsJx4a65c_grow_92f84 := by decide +kernel
set_option maxRecDepth 100000 in
set_option maxHeartbeats 4000000 in
theorem m_grow1 (l : Launch) (D : va_G) (cy : Nat → ClassId) {ca : Nat} {ia : Nat → Nat} {eda : Nat} (a1 : Nat) (sz : Nat) (mc : Int32) : MJR l D cy eda ca ia ([(a1, .inr (4, [.int mc, .ref eda, .int 0]))]) sz yJx4a65c_grow_92f84 wsJx4a65c_grow_92f84 1 1 10 14 [.ref a1, .int 1] (fun q1 H => va_P D vwCl ([(a1, .inr (4, [.int mc, .ref q1, .int 0])), (q1, .inl (cy 10, 10, .inr (.inr (.inr (.inr (fun _ => none))))))]) H ∧ va_D (va_A ([(a1, .inr (4, [.int mc, .ref eda, .int 0]))]) sz) ([(a1, .inr (4, [.int mc, .ref q1, .int 0])), (q1, .inl (cy 10, 10, .inr (.inr (.inr (.inr (fun _ => none))))))])) := by
  refine ro_ofW (cc := cJx4a65c_grow_92f84) (maxL := 4) (ret := (some (.array (.object "java/lang/Object")))) (lv := [(0, .ref a1), (1, .int 1)]) (by decide) rfl (Nat.le_of_ble_eq_true rfl) rfl ?_
  intro p e s m below meth c ls hx hb hr hml hown hlocks hname hts hv hl
  have hown : s.vm.findClass RJx4a65c = some m.cls := hown
  obtain ⟨⟨⟨hsz, hP, hD0⟩, hK, hN⟩, hJS⟩ := hv
  subst hsz
  have hD := hD0.self (sz := s.heap.size)
  generalize hAe : va_A ([(a1, .inr (4, [.int mc, .ref eda, .int 0]))]) s.heap.size = A at hD hJS ⊢
  have hA : ∀ q : Nat, s.heap.size ≤ q → A q := fun q h => by rw [← hAe]; exact Or.inr h
  have hS : va_S A s.heap s.heap [] := va_S.rf
  refine lv_aload_n hx hb dJx4a65c_grow_92f84_0 rfl (lv_at hl 0 rfl) ?_
  refine va_get (D := D) (ci := 4) (v := .ref eda) (C := RJx4a65c) (T := TJx4a65c) (N := 3) hx hb hts iw_Jx4a65c_grow_92f84_RJx4a65c hown hK hP 0 rfl rfl 1 (by decide) (hts (.fieldLink RJx4a65c 9 "java/util/ArrayList" "elementData" "[Ljava/lang/Object;") (by decide +kernel)) (fun _ h9 => h9) rfl dJx4a65c_grow_92f84_1 ?_
  refine va_tlen (v := 0) hx hb hJS.2.1 hS rfl dJx4a65c_grow_92f84_4 ?_
  refine lv_istore_n (lv' := [(2, .int 0), (0, .ref a1), (1, .int 1)]) hx hb dJx4a65c_grow_92f84_5 rfl hl (by decide) rfl (fun ls hl => ?_)
  refine lv_iload_n hx hb dJx4a65c_grow_92f84_6 rfl (lv_at hl 0 rfl) ?_
  refine lv_if_gt (tgt := 20) hx hb dJx4a65c_grow_92f84_7 (by decide) (fun c => absurd c (by decide)) (fun _ => ?_)
  refine lv_aload_n hx hb dJx4a65c_grow_92f84_10 rfl (lv_at hl 1 rfl) ?_
  refine va_get (D := D) (ci := 4) (v := .ref eda) (C := RJx4a65c) (T := TJx4a65c) (N := 3) hx hb hts iw_Jx4a65c_grow_92f84_RJx4a65c hown hK hP 0 rfl rfl 1 (by decide) (hts (.fieldLink RJx4a65c 9 "java/util/ArrayList" "elementData" "[Ljava/lang/Object;") (by decide +kernel)) (fun _ h9 => h9) rfl dJx4a65c_grow_92f84_11 ?_
  refine va_gets hx hb hJS.1 hS hown (hts (.fieldLink RJx4a65c 39 "java/util/ArrayList" "DEFAULTCAPACITY_EMPTY_ELEMENTDATA" "[Ljava/lang/Object;") (by decide +kernel)) (fun _ h9 => h9) dJx4a65c_grow_92f84_14 ?_
  refine lv_acmp_eq (rx := (some eda)) (ry := (some eda)) (tgt := 45) hx hb dJx4a65c_grow_92f84_17 (by decide) (fun _ => ?_) (fun c => absurd rfl c)
  refine lv_aload_n hx hb dJx4a65c_grow_92f84_45 rfl (lv_at hl 1 rfl) ?_
  refine lv_bipush (v := 10) hx hb dJx4a65c_grow_92f84_46 (by decide) ?_
  refine lv_iload_n hx hb dJx4a65c_grow_92f84_48 rfl (lv_at hl 2 rfl) ?_
  refine va_mmax hx hb (hml.trans hl.1.symm) hown (hts (.methodLink RJx4a65c 79 Lib.Math.max.name) (by decide +kernel)) (hts (.static Lib.Math.max.name) (by decide +kernel)) (hts (.initialized "java/lang/Math") (by decide +kernel)) (hts (.code Lib.Math.max.name Lib.Math.max.code 2 (some .int)) (by decide +kernel)) (Nat.le_of_ble_eq_true rfl) (Nat.le_of_ble_eq_true rfl) (Nat.le_of_ble_eq_true rfl) (Nat.le_of_ble_eq_true rfl) dJx4a65c_grow_92f84_49 ?_
  refine lv_topi (fun y ey => ?_)
  obtain rfl : y = 10 := ey.trans (by decide)
  refine my_newq 10 (C := "java/lang/Object") (k := 10) (N' := 10) hx hb hown (hts (.classLink RJx4a65c 7 "java/lang/Object") (by decide +kernel)) hN (by decide +kernel) rfl hK hP hD hS hA (by decide) (by decide) (Nat.le_of_ble_eq_true rfl) (Nat.le_of_ble_eq_true rfl) (Nat.le_of_ble_eq_true rfl) dJx4a65c_grow_92f84_52 (fun q1 H hP hD hS => ?_)
  have hP : va_P D vwCl ([(a1, .inr (4, [.int mc, .ref eda, .int 0])), (q1, .inl (cy 10, 10, .inr (.inr (.inr (.inr (fun _ => none))))))]) H := hP
  have hD : va_D A ([(a1, .inr (4, [.int mc, .ref eda, .int 0])), (q1, .inl (cy 10, 10, .inr (.inr (.inr (.inr (fun _ => none))))))]) := hD
  refine lv_dup_x1 hx hb dJx4a65c_grow_92f84_55 rfl rfl ?_
  refine va_put (D := D) (ci := 4) (v := .ref q1) (ty := .array (.object "java/lang/Object")) (C := RJx4a65c) (T := TJx4a65c) (N := 3) hx hb hts iw_Jx4a65c_grow_92f84_RJx4a65c tyJx4a65c tyJx4a65c_ok nmJx4a65c hown hK hP hD hS 0 rfl rfl 1 (by decide) (hts (.fieldLink RJx4a65c 9 "java/util/ArrayList" "elementData" "[Ljava/lang/Object;") (by decide +kernel)) (fun _ h9 => h9) rfl (by decide +kernel) rfl rfl (Nat.le_of_ble_eq_true rfl) dJx4a65c_grow_92f84_56 (fun H locs hP hD hS => ?_)
  have hP : va_P D vwCl ([(a1, .inr (4, [.int mc, .ref q1, .int 0])), (q1, .inl (cy 10, 10, .inr (.inr (.inr (.inr (fun _ => none))))))]) H := hP
  have hD : va_D A ([(a1, .inr (4, [.int mc, .ref q1, .int 0])), (q1, .inl (cy 10, 10, .inr (.inr (.inr (.inr (fun _ => none))))))]) := hD
  refine W.widen (k := 1) (n := 10) (Nat.le_of_ble_eq_true rfl) (Nat.le_of_ble_eq_true rfl) ?_
  have hP9 := hP.sub (ws' := [(a1, .inr (4, [.int mc, .ref q1, .int 0])), (q1, .inl (cy 10, 10, .inr (.inr (.inr (.inr (fun _ => none))))))]) [0, 1] rfl
  have hD9 := hD.sub (ws' := [(a1, .inr (4, [.int mc, .ref q1, .int 0])), (q1, .inl (cy 10, 10, .inr (.inr (.inr (.inr (fun _ => none))))))]) [0, 1] (by decide) rfl
  exact W.aret hx hb hr (Or.inr ⟨_, rfl⟩) (Or.inr ⟨_, rfl⟩) (fun t ht hW => ⟨q1, rfl, ⟨by rw [ht]; exact hP9, hD9⟩, hS.F ht⟩) hS.2.2 dJx4a65c_grow_92f84_59

theorem iw_Jx4a65c_grow_d5877_RJx4a65c : ∀ w ∈ u_ws RJx4a65c TJx4a65c 3, w ∈ wsJx4a65c_grow_d5877 := by decide +kernel
set_option maxRecDepth 100000 in
set_option maxHeartbeats 4000000 in
theorem m_grow0 (l : Launch) (D : va_G) (cy : Nat → ClassId) {ca : Nat} {ia : Nat → Nat} {eda : Nat} (a1 : Nat) (sz : Nat) (mc : Int32) : MJR l D cy eda ca ia ([(a1, .inr (4, [.int mc, .ref eda, .int 0]))]) sz yJx4a65c_grow_d5877 wsJx4a65c_grow_d5877 2 1 10 37 [.ref a1] (fun q1 H => va_P D vwCl ([(a1, .inr (4, [.int mc, .ref q1, .int 0])), (q1, .inl (cy 10, 10, .inr (.inr (.inr (.inr (fun _ => none))))))]) H ∧ va_D (va_A ([(a1, .inr (4, [.int mc, .ref eda, .int 0]))]) sz) ([(a1, .inr (4, [.int mc, .ref q1, .int 0])), (q1, .inl (cy 10, 10, .inr (.inr (.inr (.inr (fun _ => none))))))])) := by
  refine ro_ofW (cc := cJx4a65c_grow_d5877) (maxL := 1) (ret := (some (.array (.object "java/lang/Object")))) (lv := [(0, .ref a1)]) (by decide) rfl (Nat.le_of_ble_eq_true rfl) rfl ?_
  intro p e s m below meth c ls hx hb hr hml hown hlocks hname hts hv hl
  have hown : s.vm.findClass RJx4a65c = some m.cls := hown
  obtain ⟨⟨⟨hsz, hP, hD0⟩, hK, hN⟩, hJS⟩ := hv
  subst hsz
  have hD := hD0.self (sz := s.heap.size)
  generalize hAe : va_A ([(a1, .inr (4, [.int mc, .ref eda, .int 0]))]) s.heap.size = A at hD hJS ⊢
  have hA : ∀ q : Nat, s.heap.size ≤ q → A q := fun q h => by rw [← hAe]; exact Or.inr h
  have hS : va_S A s.heap s.heap [] := va_S.rf
  refine lv_aload_n hx hb dJx4a65c_grow_d5877_0 rfl (lv_at hl 0 rfl) ?_
  refine lv_aload_n hx hb dJx4a65c_grow_d5877_1 rfl (lv_at hl 0 rfl) ?_
  refine va_get (D := D) (ci := 4) (v := .int 0) (C := RJx4a65c) (T := TJx4a65c) (N := 3) hx hb hts iw_Jx4a65c_grow_d5877_RJx4a65c hown hK hP 0 rfl rfl 2 (by decide) (hts (.fieldLink RJx4a65c 48 "java/util/ArrayList" "size" "I") (by decide +kernel)) (fun _ h9 => h9) rfl dJx4a65c_grow_d5877_2 ?_
  refine lv_iconst (v := 1) hx hb dJx4a65c_grow_d5877_5 (by decide) ?_
  refine lv_iadd hx hb dJx4a65c_grow_d5877_6 ?_
  refine lv_topi (fun y ey => ?_)
  obtain rfl : y = 1 := ey.trans (by decide)
  refine mr_callV (wr := []) (wc := [(a1, .inr (4, [.int mc, .ref eda, .int 0]))]) (As := [.int 1]) (rest := []) ⟨hx, hb, hml, hown, hts⟩ (m_grow1 l D cy a1 _ mc ) (cwV 1 hts gJx4a65c_grow_d5877_Jx4a65c_grow_92f84 rfl rfl rfl (by decide +kernel) ⟨by decide, by decide⟩) hK hN hP hD hS hA hJS (ci := 4) (q0 := 0) rfl rfl rfl rfl hl.1 rfl (Nat.le_of_ble_eq_true rfl) dJx4a65c_grow_d5877_7 ⟨Nat.le_of_ble_eq_true rfl, Nat.le_of_ble_eq_true rfl⟩ (fun q1 H locs hB hJ hS => ?_)
  obtain ⟨hP1, hD1⟩ := hB
  obtain ⟨hP, hD⟩ := hJ _ hP1 hD1
  have hP : va_P D vwCl ([(a1, .inr (4, [.int mc, .ref q1, .int 0])), (q1, .inl (cy 10, 10, .inr (.inr (.inr (.inr (fun _ => none))))))]) H := hP
  have hD : va_D A ([(a1, .inr (4, [.int mc, .ref q1, .int 0])), (q1, .inl (cy 10, 10, .inr (.inr (.inr (.inr (fun _ => none))))))]) := hD
  refine W.widen (k := 1) (n := 10) (Nat.le_of_ble_eq_true rfl) (Nat.le_of_ble_eq_true rfl) ?_
  have hP9 := hP.sub (ws' := [(a1, .inr (4, [.int mc, .ref q1, .int 0])), (q1, .inl (cy 10, 10, .inr (.inr (.inr (.inr (fun _ => none))))))]) [0, 1] rfl
  have hD9 := hD.sub (ws' := [(a1, .inr (4, [.int mc, .ref q1, .int 0])), (q1, .inl (cy 10, 10, .inr (.inr (.inr (.inr (fun _ => none))))))]) [0, 1] (by decide) rfl
  exact W.aret hx hb hr (Or.inr ⟨_, rfl⟩) (Or.inr ⟨_, rfl⟩) (fun t ht hW => ⟨q1, rfl, ⟨by rw [ht]; exact hP9, hD9⟩, hS.F ht⟩) hS.2.2 dJx4a65c_grow_d5877_10

theorem iw_Jx4a65c_add_72be8_RJx4a65c : ∀ w ∈ u_ws RJx4a65c TJx4a65c 3, w ∈ wsJx4a65c_add_72be8 := by decide +kernel
set_option maxRecDepth 100000 in
set_option maxHeartbeats 4000000 in
theorem m_addaD (l : Launch) (D : va_G) (cy : Nat → ClassId) {ca : Nat} {ia : Nat → Nat} {eda : Nat} (a1 v : Nat) (sz : Nat) (mc : Int32) (fs : List Value) : MJ l D cy eda ca ia ([(a1, .inr (4, [.int mc, .ref eda, .int 0])), (v, .inr (15, fs))]) sz yJx4a65c_add_72be8 wsJx4a65c_add_72be8 3 1 10 57 [.ref a1, .ref v, .ref eda, .int 0] none (fun H => ∃ (q1 : Nat) , va_P D vwCl ([(v, .inr (15, fs)), (a1, .inr (4, [.int mc, .ref q1, .int 1])), (q1, .inl (cy 10, 10, .inr (.inr (.inr (.inr (va_up (fun _ => none) 0 (some v)))))))]) H ∧ va_D (va_A ([(a1, .inr (4, [.int mc, .ref eda, .int 0])), (v, .inr (15, fs))]) sz) ([(v, .inr (15, fs)), (a1, .inr (4, [.int mc, .ref q1, .int 1])), (q1, .inl (cy 10, 10, .inr (.inr (.inr (.inr (va_up (fun _ => none) 0 (some v)))))))])) := by
  refine ro_ofW (cc := cJx4a65c_add_72be8) (maxL := 4) (ret := none) (lv := [(0, .ref a1), (1, .ref v), (2, .ref eda), (3, .int 0)]) (by decide) rfl (Nat.le_of_ble_eq_true rfl) rfl ?_
  intro p e s m below meth c ls hx hb hr hml hown hlocks hname hts hv hl
  have hown : s.vm.findClass RJx4a65c = some m.cls := hown
  obtain ⟨⟨⟨hsz, hP, hD0⟩, hK, hN⟩, hJS⟩ := hv
  subst hsz
  have hD := hD0.self (sz := s.heap.size)
  generalize hAe : va_A ([(a1, .inr (4, [.int mc, .ref eda, .int 0])), (v, .inr (15, fs))]) s.heap.size = A at hD hJS ⊢
  have hA : ∀ q : Nat, s.heap.size ≤ q → A q := fun q h => by rw [← hAe]; exact Or.inr h
  have hS : va_S A s.heap s.heap [] := va_S.rf
  refine lv_iload_n hx hb dJx4a65c_add_72be8_0 rfl (lv_at hl 3 rfl) ?_
  refine lv_aload_n hx hb dJx4a65c_add_72be8_1 rfl (lv_at hl 2 rfl) ?_
  refine va_tlen (v := 0) hx hb hJS.2.1 hS rfl dJx4a65c_add_72be8_2 ?_
  refine lv_icmp_ne (tgt := 11) hx hb dJx4a65c_add_72be8_3 (by decide) (fun c => absurd (by decide) c) (fun _ => ?_)
  refine lv_aload_n hx hb dJx4a65c_add_72be8_6 rfl (lv_at hl 0 rfl) ?_
  have hP := hP.sub (ws' := [(v, .inr (15, fs)), (a1, .inr (4, [.int mc, .ref eda, .int 0]))]) [1, 0] rfl
  have hD := hD.sub (ws' := [(v, .inr (15, fs)), (a1, .inr (4, [.int mc, .ref eda, .int 0]))]) [1, 0] (by decide) rfl
  refine mr_callV (wr := [(v, .inr (15, fs))]) (wc := [(a1, .inr (4, [.int mc, .ref eda, .int 0]))]) (As := []) (rest := []) ⟨hx, hb, hml, hown, hts⟩ (m_grow0 l D cy a1 _ mc ) (cwV 0 hts gJx4a65c_add_72be8_Jx4a65c_grow_d5877 rfl rfl rfl (by decide +kernel) ⟨by decide, by decide⟩) hK hN hP hD hS hA hJS (ci := 4) (q0 := 0) rfl rfl rfl rfl hl.1 rfl (Nat.le_of_ble_eq_true rfl) dJx4a65c_add_72be8_7 ⟨Nat.le_of_ble_eq_true rfl, Nat.le_of_ble_eq_true rfl⟩ (fun q1 H locs hB hJ hS => ?_)
  obtain ⟨hP1, hD1⟩ := hB
  obtain ⟨hP, hD⟩ := hJ _ hP1 hD1
  have hP : va_P D vwCl ([(v, .inr (15, fs)), (a1, .inr (4, [.int mc, .ref q1, .int 0])), (q1, .inl (cy 10, 10, .inr (.inr (.inr (.inr (fun _ => none))))))]) H := hP
  have hD : va_D A ([(v, .inr (15, fs)), (a1, .inr (4, [.int mc, .ref q1, .int 0])), (q1, .inl (cy 10, 10, .inr (.inr (.inr (.inr (fun _ => none))))))]) := hD
  refine lv_astore_n (lv' := [(2, .ref q1), (0, .ref a1), (1, .ref v), (3, .int 0)]) hx hb dJx4a65c_add_72be8_10 rfl hl (by decide) rfl (fun ls hl => ?_)
  refine lv_aload_n hx hb dJx4a65c_add_72be8_11 rfl (lv_at hl 0 rfl) ?_
  refine lv_iload_n hx hb dJx4a65c_add_72be8_12 rfl (lv_at hl 3 rfl) ?_
  refine lv_aload_n hx hb dJx4a65c_add_72be8_13 rfl (lv_at hl 2 rfl) ?_
  refine vb_astq hx hb hK hP hD hS 2 10 rfl rfl (va_recv hK hP (ci := 15) (q0 := 0) rfl rfl) (vb_asgC (hN.2.2 ("HubcascadeModel$Device", "java/lang/Object") (by decide +kernel))) (by unfold vp_in; decide) dJx4a65c_add_72be8_14 (fun H locs hP hD hS => ?_)
  have hP : va_P D vwCl ([(v, .inr (15, fs)), (a1, .inr (4, [.int mc, .ref q1, .int 0])), (q1, .inl (cy 10, 10, .inr (.inr (.inr (.inr (va_up (fun _ => none) 0 (some v)))))))]) H := hP
  have hD : va_D A ([(v, .inr (15, fs)), (a1, .inr (4, [.int mc, .ref q1, .int 0])), (q1, .inl (cy 10, 10, .inr (.inr (.inr (.inr (va_up (fun _ => none) 0 (some v)))))))]) := hD
  refine lv_aload_n hx hb dJx4a65c_add_72be8_15 rfl (lv_at hl 1 rfl) ?_
  refine lv_iload_n hx hb dJx4a65c_add_72be8_16 rfl (lv_at hl 3 rfl) ?_
  refine lv_iconst (v := 1) hx hb dJx4a65c_add_72be8_17 (by decide) ?_
  refine lv_iadd hx hb dJx4a65c_add_72be8_18 ?_
  refine lv_topi (fun y ey => ?_)
  obtain rfl : y = 1 := ey.trans (by decide)
  refine va_put (D := D) (ci := 4) (v := .int 1) (ty := .int) (C := RJx4a65c) (T := TJx4a65c) (N := 3) hx hb hts iw_Jx4a65c_add_72be8_RJx4a65c tyJx4a65c tyJx4a65c_ok nmJx4a65c hown hK hP hD hS 1 rfl rfl 2 (by decide) (hts (.fieldLink RJx4a65c 48 "java/util/ArrayList" "size" "I") (by decide +kernel)) (fun _ h9 => h9) rfl (by decide +kernel) rfl rfl (Nat.le_of_ble_eq_true rfl) dJx4a65c_add_72be8_19 (fun H locs hP hD hS => ?_)
  have hP : va_P D vwCl ([(v, .inr (15, fs)), (a1, .inr (4, [.int mc, .ref q1, .int 1])), (q1, .inl (cy 10, 10, .inr (.inr (.inr (.inr (va_up (fun _ => none) 0 (some v)))))))]) H := hP
  have hD : va_D A ([(v, .inr (15, fs)), (a1, .inr (4, [.int mc, .ref q1, .int 1])), (q1, .inl (cy 10, 10, .inr (.inr (.inr (.inr (va_up (fun _ => none) 0 (some v)))))))]) := hD
  refine W.widen (k := 1) (n := 10) (Nat.le_of_ble_eq_true rfl) (Nat.le_of_ble_eq_true rfl) ?_
  have hP9 := hP.sub (ws' := [(v, .inr (15, fs)), (a1, .inr (4, [.int mc, .ref q1, .int 1])), (q1, .inl (cy 10, 10, .inr (.inr (.inr (.inr (va_up (fun _ => none) 0 (some v)))))))]) [0, 1, 2] rfl
  have hD9 := hD.sub (ws' := [(v, .inr (15, fs)), (a1, .inr (4, [.int mc, .ref q1, .int 1])), (q1, .inl (cy 10, 10, .inr (.inr (.inr (.inr (va_up (fun _ => none) 0 (some v)))))))]) [0, 1, 2] (by decide) rfl
  exact W.vret hx hb hr (fun t ht hW => ⟨rfl, ⟨q1, by rw [ht]; exact hP9, hD9⟩, hS.F ht⟩) hS.2.2 dJx4a65c_add_72be8_22

theorem iw_Jx4a65c_add_9ea2d_RJx4a65c : ∀ w ∈ u_ws RJx4a65c TJx4a65c 3, w ∈ wsJx4a65c_add_9ea2d := by decide +kernel
set_option maxRecDepth 100000 in
set_option maxHeartbeats 4000000 in
theorem m_addD (l : Launch) (D : va_G) (cy : Nat → ClassId) {ca : Nat} {ia : Nat → Nat} {eda : Nat} (a1 v : Nat) (sz : Nat) (mc : Int32) (fs : List Value) : MJ l D cy eda ca ia ([(a1, .inr (4, [.int mc, .ref eda, .int 0])), (v, .inr (15, fs))]) sz yJx4a65c_add_9ea2d wsJx4a65c_add_9ea2d 4 1 10 80 [.ref a1, .ref v] (some (.int 1)) (fun H => ∃ (q1 : Nat) , va_P D vwCl ([(v, .inr (15, fs)), (a1, .inr (4, [.int (mc + 1), .ref q1, .int 1])), (q1, .inl (cy 10, 10, .inr (.inr (.inr (.inr (va_up (fun _ => none) 0 (some v)))))))]) H ∧ va_D (va_A ([(a1, .inr (4, [.int mc, .ref eda, .int 0])), (v, .inr (15, fs))]) sz) ([(v, .inr (15, fs)), (a1, .inr (4, [.int (mc + 1), .ref q1, .int 1])), (q1, .inl (cy 10, 10, .inr (.inr (.inr (.inr (va_up (fun _ => none) 0 (some v)))))))])) := by
  refine ro_ofW (cc := cJx4a65c_add_9ea2d) (maxL := 2) (ret := (some .boolean)) (lv := [(0, .ref a1), (1, .ref v)]) (by decide) rfl (Nat.le_of_ble_eq_true rfl) rfl ?_
  intro p e s m below meth c ls hx hb hr hml hown hlocks hname hts hv hl
  have hown : s.vm.findClass RJx4a65c = some m.cls := hown
  obtain ⟨⟨⟨hsz, hP, hD0⟩, hK, hN⟩, hJS⟩ := hv
  subst hsz
  have hD := hD0.self (sz := s.heap.size)
  generalize hAe : va_A ([(a1, .inr (4, [.int mc, .ref eda, .int 0])), (v, .inr (15, fs))]) s.heap.size = A at hD hJS ⊢
  have hA : ∀ q : Nat, s.heap.size ≤ q → A q := fun q h => by rw [← hAe]; exact Or.inr h
  have hS : va_S A s.heap s.heap [] := va_S.rf
  refine lv_aload_n hx hb dJx4a65c_add_9ea2d_0 rfl (lv_at hl 0 rfl) ?_
  refine lv_dup hx hb dJx4a65c_add_9ea2d_1 rfl ?_
  refine va_get (D := D) (ci := 4) (v := .int mc) (C := RJx4a65c) (T := TJx4a65c) (N := 3) hx hb hts iw_Jx4a65c_add_9ea2d_RJx4a65c hown hK hP 0 rfl rfl 0 (by decide) (hts (.fieldLink RJx4a65c 63 "java/util/ArrayList" "modCount" "I") (by decide +kernel)) (fun x9 h9 => u_same (hts (.sameField "java/util/ArrayList" "java/util/AbstractList" "modCount" "I") (by decide +kernel)) x9 h9) rfl dJx4a65c_add_9ea2d_2 ?_
  refine lv_iconst (v := 1) hx hb dJx4a65c_add_9ea2d_5 (by decide) ?_
  refine lv_iadd hx hb dJx4a65c_add_9ea2d_6 ?_
  refine lv_topi (fun y ey => ?_)
  obtain rfl : y = mc + 1 := ey.trans rfl
  refine va_put (D := D) (ci := 4) (v := .int (mc + 1)) (ty := .int) (C := RJx4a65c) (T := TJx4a65c) (N := 3) hx hb hts iw_Jx4a65c_add_9ea2d_RJx4a65c tyJx4a65c tyJx4a65c_ok nmJx4a65c hown hK hP hD hS 0 rfl rfl 0 (by decide) (hts (.fieldLink RJx4a65c 63 "java/util/ArrayList" "modCount" "I") (by decide +kernel)) (fun x9 h9 => u_same (hts (.sameField "java/util/ArrayList" "java/util/AbstractList" "modCount" "I") (by decide +kernel)) x9 h9) rfl (by decide +kernel) rfl rfl (Nat.le_of_ble_eq_true rfl) dJx4a65c_add_9ea2d_7 (fun H locs hP hD hS => ?_)
  have hP : va_P D vwCl ([(a1, .inr (4, [.int (mc + 1), .ref eda, .int 0])), (v, .inr (15, fs))]) H := hP
  have hD : va_D A ([(a1, .inr (4, [.int (mc + 1), .ref eda, .int 0])), (v, .inr (15, fs))]) := hD
  refine lv_aload_n hx hb dJx4a65c_add_9ea2d_10 rfl (lv_at hl 0 rfl) ?_
  refine lv_aload_n hx hb dJx4a65c_add_9ea2d_11 rfl (lv_at hl 1 rfl) ?_
  refine lv_aload_n hx hb dJx4a65c_add_9ea2d_12 rfl (lv_at hl 0 rfl) ?_
  refine va_get (D := D) (ci := 4) (v := .ref eda) (C := RJx4a65c) (T := TJx4a65c) (N := 3) hx hb hts iw_Jx4a65c_add_9ea2d_RJx4a65c hown hK hP 0 rfl rfl 1 (by decide) (hts (.fieldLink RJx4a65c 9 "java/util/ArrayList" "elementData" "[Ljava/lang/Object;") (by decide +kernel)) (fun _ h9 => h9) rfl dJx4a65c_add_9ea2d_13 ?_
  refine lv_aload_n hx hb dJx4a65c_add_9ea2d_16 rfl (lv_at hl 0 rfl) ?_
  refine va_get (D := D) (ci := 4) (v := .int 0) (C := RJx4a65c) (T := TJx4a65c) (N := 3) hx hb hts iw_Jx4a65c_add_9ea2d_RJx4a65c hown hK hP 0 rfl rfl 2 (by decide) (hts (.fieldLink RJx4a65c 48 "java/util/ArrayList" "size" "I") (by decide +kernel)) (fun _ h9 => h9) rfl dJx4a65c_add_9ea2d_17 ?_
  refine mj_callV (wr := []) (wc := [(a1, .inr (4, [.int (mc + 1), .ref eda, .int 0])), (v, .inr (15, fs))]) (As := [.ref v, .ref eda, .int 0]) (rest := []) ⟨hx, hb, hml, hown, hts⟩ (m_addaD l D cy a1 v _ (mc + 1) fs ) (cwV 3 hts gJx4a65c_add_9ea2d_Jx4a65c_add_72be8 rfl rfl rfl (by decide +kernel) ⟨by decide, by decide⟩) hK hN hP hD hS hA hJS (ci := 4) (q0 := 0) rfl rfl rfl rfl hl.1 rfl (Nat.le_of_ble_eq_true rfl) dJx4a65c_add_9ea2d_20 ⟨Nat.le_of_ble_eq_true rfl, Nat.le_of_ble_eq_true rfl⟩ (fun H locs hB hJ hS => ?_)
  obtain ⟨q1, hP1, hD1⟩ := hB
  obtain ⟨hP, hD⟩ := hJ _ hP1 hD1
  have hP : va_P D vwCl ([(v, .inr (15, fs)), (a1, .inr (4, [.int (mc + 1), .ref q1, .int 1])), (q1, .inl (cy 10, 10, .inr (.inr (.inr (.inr (va_up (fun _ => none) 0 (some v)))))))]) H := hP
  have hD : va_D A ([(v, .inr (15, fs)), (a1, .inr (4, [.int (mc + 1), .ref q1, .int 1])), (q1, .inl (cy 10, 10, .inr (.inr (.inr (.inr (va_up (fun _ => none) 0 (some v)))))))]) := hD
  refine lv_iconst (v := 1) hx hb dJx4a65c_add_9ea2d_23 (by decide) ?_
  refine W.widen (k := 1) (n := 10) (Nat.le_of_ble_eq_true rfl) (Nat.le_of_ble_eq_true rfl) ?_
  have hP9 := hP.sub (ws' := [(v, .inr (15, fs)), (a1, .inr (4, [.int (mc + 1), .ref q1, .int 1])), (q1, .inl (cy 10, 10, .inr (.inr (.inr (.inr (va_up (fun _ => none) 0 (some v)))))))]) [0, 1, 2] rfl
  have hD9 := hD.sub (ws' := [(v, .inr (15, fs)), (a1, .inr (4, [.int (mc + 1), .ref q1, .int 1])), (q1, .inl (cy 10, 10, .inr (.inr (.inr (.inr (va_up (fun _ => none) 0 (some v)))))))]) [0, 1, 2] (by decide) rfl
  exact W.zret hx hb hr (by decide) (fun t ht hW => ⟨rfl, ⟨q1, by rw [ht]; exact hP9, hD9⟩, hS.F ht⟩) hS.2.2 dJx4a65c_add_9ea2d_24

set_option maxRecDepth 100000 in
set_option maxHeartbeats 4000000 in
theorem m_addaN (l : Launch) (D : va_G) (cy : Nat → ClassId) {ca : Nat} {ia : Nat → Nat} {eda : Nat} (a1 v : Nat) (sz : Nat) (mc : Int32) (fs : List Value) : MJ l D cy eda ca ia ([(a1, .inr (4, [.int mc, .ref eda, .int 0])), (v, .inr (1, fs))]) sz yJx4a65c_add_72be8 wsJx4a65c_add_72be8 3 1 10 57 [.ref a1, .ref v, .ref eda, .int 0] none (fun H => ∃ (q1 : Nat) , va_P D vwCl ([(v, .inr (1, fs)), (a1, .inr (4, [.int mc, .ref q1, .int 1])), (q1, .inl (cy 10, 10, .inr (.inr (.inr (.inr (va_up (fun _ => none) 0 (some v)))))))]) H ∧ va_D (va_A ([(a1, .inr (4, [.int mc, .ref eda, .int 0])), (v, .inr (1, fs))]) sz) ([(v, .inr (1, fs)), (a1, .inr (4, [.int mc, .ref q1, .int 1])), (q1, .inl (cy 10, 10, .inr (.inr (.inr (.inr (va_up (fun _ => none) 0 (some v)))))))])) := by
  refine ro_ofW (cc := cJx4a65c_add_72be8) (maxL := 4) (ret := none) (lv := [(0, .ref a1), (1, .ref v), (2, .ref eda), (3, .int 0)]) (by decide) rfl (Nat.le_of_ble_eq_true rfl) rfl ?_
  intro p e s m below meth c ls hx hb hr hml hown hlocks hname hts hv hl
  have hown : s.vm.findClass RJx4a65c = some m.cls := hown
  obtain ⟨⟨⟨hsz, hP, hD0⟩, hK, hN⟩, hJS⟩ := hv
  subst hsz
  have hD := hD0.self (sz := s.heap.size)
  generalize hAe : va_A ([(a1, .inr (4, [.int mc, .ref eda, .int 0])), (v, .inr (1, fs))]) s.heap.size = A at hD hJS ⊢
  have hA : ∀ q : Nat, s.heap.size ≤ q → A q := fun q h => by rw [← hAe]; exact Or.inr h
  have hS : va_S A s.heap s.heap [] := va_S.rf
  refine lv_iload_n hx hb dJx4a65c_add_72be8_0 rfl (lv_at hl 3 rfl) ?_
  refine lv_aload_n hx hb dJx4a65c_add_72be8_1 rfl (lv_at hl 2 rfl) ?_
  refine va_tlen (v := 0) hx hb hJS.2.1 hS rfl dJx4a65c_add_72be8_2 ?_
  refine lv_icmp_ne (tgt := 11) hx hb dJx4a65c_add_72be8_3 (by decide) (fun c => absurd (by decide) c) (fun _ => ?_)
  refine lv_aload_n hx hb dJx4a65c_add_72be8_6 rfl (lv_at hl 0 rfl) ?_
  have hP := hP.sub (ws' := [(v, .inr (1, fs)), (a1, .inr (4, [.int mc, .ref eda, .int 0]))]) [1, 0] rfl
  have hD := hD.sub (ws' := [(v, .inr (1, fs)), (a1, .inr (4, [.int mc, .ref eda, .int 0]))]) [1, 0] (by decide) rfl
  refine mr_callV (wr := [(v, .inr (1, fs))]) (wc := [(a1, .inr (4, [.int mc, .ref eda, .int 0]))]) (As := []) (rest := []) ⟨hx, hb, hml, hown, hts⟩ (m_grow0 l D cy a1 _ mc ) (cwV 0 hts gJx4a65c_add_72be8_Jx4a65c_grow_d5877 rfl rfl rfl (by decide +kernel) ⟨by decide, by decide⟩) hK hN hP hD hS hA hJS (ci := 4) (q0 := 0) rfl rfl rfl rfl hl.1 rfl (Nat.le_of_ble_eq_true rfl) dJx4a65c_add_72be8_7 ⟨Nat.le_of_ble_eq_true rfl, Nat.le_of_ble_eq_true rfl⟩ (fun q1 H locs hB hJ hS => ?_)
  obtain ⟨hP1, hD1⟩ := hB
  obtain ⟨hP, hD⟩ := hJ _ hP1 hD1
  have hP : va_P D vwCl ([(v, .inr (1, fs)), (a1, .inr (4, [.int mc, .ref q1, .int 0])), (q1, .inl (cy 10, 10, .inr (.inr (.inr (.inr (fun _ => none))))))]) H := hP
  have hD : va_D A ([(v, .inr (1, fs)), (a1, .inr (4, [.int mc, .ref q1, .int 0])), (q1, .inl (cy 10, 10, .inr (.inr (.inr (.inr (fun _ => none))))))]) := hD
  refine lv_astore_n (lv' := [(2, .ref q1), (0, .ref a1), (1, .ref v), (3, .int 0)]) hx hb dJx4a65c_add_72be8_10 rfl hl (by decide) rfl (fun ls hl => ?_)
  refine lv_aload_n hx hb dJx4a65c_add_72be8_11 rfl (lv_at hl 0 rfl) ?_
  refine lv_iload_n hx hb dJx4a65c_add_72be8_12 rfl (lv_at hl 3 rfl) ?_
  refine lv_aload_n hx hb dJx4a65c_add_72be8_13 rfl (lv_at hl 2 rfl) ?_
  refine vb_astq hx hb hK hP hD hS 2 10 rfl rfl (va_recv hK hP (ci := 1) (q0 := 0) rfl rfl) (vb_asgC (hN.2.2 ("java/lang/Integer", "java/lang/Object") (by decide +kernel))) (by unfold vp_in; decide) dJx4a65c_add_72be8_14 (fun H locs hP hD hS => ?_)
  have hP : va_P D vwCl ([(v, .inr (1, fs)), (a1, .inr (4, [.int mc, .ref q1, .int 0])), (q1, .inl (cy 10, 10, .inr (.inr (.inr (.inr (va_up (fun _ => none) 0 (some v)))))))]) H := hP
  have hD : va_D A ([(v, .inr (1, fs)), (a1, .inr (4, [.int mc, .ref q1, .int 0])), (q1, .inl (cy 10, 10, .inr (.inr (.inr (.inr (va_up (fun _ => none) 0 (some v)))))))]) := hD
  refine lv_aload_n hx hb dJx4a65c_add_72be8_15 rfl (lv_at hl 1 rfl) ?_
  refine lv_iload_n hx hb dJx4a65c_add_72be8_16 rfl (lv_at hl 3 rfl) ?_
  refine lv_iconst (v := 1) hx hb dJx4a65c_add_72be8_17 (by decide) ?_
  refine lv_iadd hx hb dJx4a65c_add_72be8_18 ?_
  refine lv_topi (fun y ey => ?_)
  obtain rfl : y = 1 := ey.trans (by decide)
  refine va_put (D := D) (ci := 4) (v := .int 1) (ty := .int) (C := RJx4a65c) (T := TJx4a65c) (N := 3) hx hb hts iw_Jx4a65c_add_72be8_RJx4a65c tyJx4a65c tyJx4a65c_ok nmJx4a65c hown hK hP hD hS 1 rfl rfl 2 (by decide) (hts (.fieldLink RJx4a65c 48 "java/util/ArrayList" "size" "I") (by decide +kernel)) (fun _ h9 => h9) rfl (by decide +kernel) rfl rfl (Nat.le_of_ble_eq_true rfl) dJx4a65c_add_72be8_19 (fun H locs hP hD hS => ?_)
  have hP : va_P D vwCl ([(v, .inr (1, fs)), (a1, .inr (4, [.int mc, .ref q1, .int 1])), (q1, .inl (cy 10, 10, .inr (.inr (.inr (.inr (va_up (fun _ => none) 0 (some v)))))))]) H := hP
  have hD : va_D A ([(v, .inr (1, fs)), (a1, .inr (4, [.int mc, .ref q1, .int 1])), (q1, .inl (cy 10, 10, .inr (.inr (.inr (.inr (va_up (fun _ => none) 0 (some v)))))))]) := hD
  refine W.widen (k := 1) (n := 10) (Nat.le_of_ble_eq_true rfl) (Nat.le_of_ble_eq_true rfl) ?_
  have hP9 := hP.sub (ws' := [(v, .inr (1, fs)), (a1, .inr (4, [.int mc, .ref q1, .int 1])), (q1, .inl (cy 10, 10, .inr (.inr (.inr (.inr (va_up (fun _ => none) 0 (some v)))))))]) [0, 1, 2] rfl
  have hD9 := hD.sub (ws' := [(v, .inr (1, fs)), (a1, .inr (4, [.int mc, .ref q1, .int 1])), (q1, .inl (cy 10, 10, .inr (.inr (.inr (.inr (va_up (fun _ => none) 0 (some v)))))))]) [0, 1, 2] (by decide) rfl
  exact W.vret hx hb hr (fun t ht hW => ⟨rfl, ⟨q1, by rw [ht]; exact hP9, hD9⟩, hS.F ht⟩) hS.2.2 dJx4a65c_add_72be8_22

set_option maxRecDepth 100000 in
set_option maxHeartbeats 4000000 in
theorem m_addN (l : Launch) (D : va_G) (cy : Nat → ClassId) {ca : Nat} {ia : Nat → Nat} {eda : Nat} (a1 v : Nat) (sz : Nat) (mc : Int32) (fs : List Value) : MJ l D cy eda ca ia ([(a1, .inr (4, [.int mc, .ref eda, .int 0])), (v, .inr (1, fs))]) sz yJx4a65c_add_9ea2d wsJx4a65c_add_9ea2d 4 1 10 80 [.ref a1, .ref v] (some (.int 1)) (fun H => ∃ (q1 : Nat) , va_P D vwCl ([(v, .inr (1, fs)), (a1, .inr (4, [.int (mc + 1), .ref q1, .int 1])), (q1, .inl (cy 10, 10, .inr (.inr (.inr (.inr (va_up (fun _ => none) 0 (some v)))))))]) H ∧ va_D (va_A ([(a1, .inr (4, [.int mc, .ref eda, .int 0])), (v, .inr (1, fs))]) sz) ([(v, .inr (1, fs)), (a1, .inr (4, [.int (mc + 1), .ref q1, .int 1])), (q1, .inl (cy 10, 10, .inr (.inr (.inr (.inr (va_up (fun _ => none) 0 (some v)))))))])) := by
  refine ro_ofW (cc := cJx4a65c_add_9ea2d) (maxL := 2) (ret := (some .boolean)) (lv := [(0, .ref a1), (1, .ref v)]) (by decide) rfl (Nat.le_of_ble_eq_true rfl) rfl ?_
  intro p e s m below meth c ls hx hb hr hml hown hlocks hname hts hv hl
  have hown : s.vm.findClass RJx4a65c = some m.cls := hown
  obtain ⟨⟨⟨hsz, hP, hD0⟩, hK, hN⟩, hJS⟩ := hv
  subst hsz
  have hD := hD0.self (sz := s.heap.size)
  generalize hAe : va_A ([(a1, .inr (4, [.int mc, .ref eda, .int 0])), (v, .inr (1, fs))]) s.heap.size = A at hD hJS ⊢
  have hA : ∀ q : Nat, s.heap.size ≤ q → A q := fun q h => by rw [← hAe]; exact Or.inr h
  have hS : va_S A s.heap s.heap [] := va_S.rf
  refine lv_aload_n hx hb dJx4a65c_add_9ea2d_0 rfl (lv_at hl 0 rfl) ?_
  refine lv_dup hx hb dJx4a65c_add_9ea2d_1 rfl ?_
  refine va_get (D := D) (ci := 4) (v := .int mc) (C := RJx4a65c) (T := TJx4a65c) (N := 3) hx hb hts iw_Jx4a65c_add_9ea2d_RJx4a65c hown hK hP 0 rfl rfl 0 (by decide) (hts (.fieldLink RJx4a65c 63 "java/util/ArrayList" "modCount" "I") (by decide +kernel)) (fun x9 h9 => u_same (hts (.sameField "java/util/ArrayList" "java/util/AbstractList" "modCount" "I") (by decide +kernel)) x9 h9) rfl dJx4a65c_add_9ea2d_2 ?_
  refine lv_iconst (v := 1) hx hb dJx4a65c_add_9ea2d_5 (by decide) ?_
  refine lv_iadd hx hb dJx4a65c_add_9ea2d_6 ?_
  refine lv_topi (fun y ey => ?_)
  obtain rfl : y = mc + 1 := ey.trans rfl
  refine va_put (D := D) (ci := 4) (v := .int (mc + 1)) (ty := .int) (C := RJx4a65c) (T := TJx4a65c) (N := 3) hx hb hts iw_Jx4a65c_add_9ea2d_RJx4a65c tyJx4a65c tyJx4a65c_ok nmJx4a65c hown hK hP hD hS 0 rfl rfl 0 (by decide) (hts (.fieldLink RJx4a65c 63 "java/util/ArrayList" "modCount" "I") (by decide +kernel)) (fun x9 h9 => u_same (hts (.sameField "java/util/ArrayList" "java/util/AbstractList" "modCount" "I") (by decide +kernel)) x9 h9) rfl (by decide +kernel) rfl rfl (Nat.le_of_ble_eq_true rfl) dJx4a65c_add_9ea2d_7 (fun H locs hP hD hS => ?_)
  have hP : va_P D vwCl ([(a1, .inr (4, [.int (mc + 1), .ref eda, .int 0])), (v, .inr (1, fs))]) H := hP
  have hD : va_D A ([(a1, .inr (4, [.int (mc + 1), .ref eda, .int 0])), (v, .inr (1, fs))]) := hD
  refine lv_aload_n hx hb dJx4a65c_add_9ea2d_10 rfl (lv_at hl 0 rfl) ?_
  refine lv_aload_n hx hb dJx4a65c_add_9ea2d_11 rfl (lv_at hl 1 rfl) ?_
  refine lv_aload_n hx hb dJx4a65c_add_9ea2d_12 rfl (lv_at hl 0 rfl) ?_
  refine va_get (D := D) (ci := 4) (v := .ref eda) (C := RJx4a65c) (T := TJx4a65c) (N := 3) hx hb hts iw_Jx4a65c_add_9ea2d_RJx4a65c hown hK hP 0 rfl rfl 1 (by decide) (hts (.fieldLink RJx4a65c 9 "java/util/ArrayList" "elementData" "[Ljava/lang/Object;") (by decide +kernel)) (fun _ h9 => h9) rfl dJx4a65c_add_9ea2d_13 ?_
  refine lv_aload_n hx hb dJx4a65c_add_9ea2d_16 rfl (lv_at hl 0 rfl) ?_
  refine va_get (D := D) (ci := 4) (v := .int 0) (C := RJx4a65c) (T := TJx4a65c) (N := 3) hx hb hts iw_Jx4a65c_add_9ea2d_RJx4a65c hown hK hP 0 rfl rfl 2 (by decide) (hts (.fieldLink RJx4a65c 48 "java/util/ArrayList" "size" "I") (by decide +kernel)) (fun _ h9 => h9) rfl dJx4a65c_add_9ea2d_17 ?_
  refine mj_callV (wr := []) (wc := [(a1, .inr (4, [.int (mc + 1), .ref eda, .int 0])), (v, .inr (1, fs))]) (As := [.ref v, .ref eda, .int 0]) (rest := []) ⟨hx, hb, hml, hown, hts⟩ (m_addaN l D cy a1 v _ (mc + 1) fs ) (cwV 3 hts gJx4a65c_add_9ea2d_Jx4a65c_add_72be8 rfl rfl rfl (by decide +kernel) ⟨by decide, by decide⟩) hK hN hP hD hS hA hJS (ci := 4) (q0 := 0) rfl rfl rfl rfl hl.1 rfl (Nat.le_of_ble_eq_true rfl) dJx4a65c_add_9ea2d_20 ⟨Nat.le_of_ble_eq_true rfl, Nat.le_of_ble_eq_true rfl⟩ (fun H locs hB hJ hS => ?_)
  obtain ⟨q1, hP1, hD1⟩ := hB
  obtain ⟨hP, hD⟩ := hJ _ hP1 hD1
  have hP : va_P D vwCl ([(v, .inr (1, fs)), (a1, .inr (4, [.int (mc + 1), .ref q1, .int 1])), (q1, .inl (cy 10, 10, .inr (.inr (.inr (.inr (va_up (fun _ => none) 0 (some v)))))))]) H := hP
  have hD : va_D A ([(v, .inr (1, fs)), (a1, .inr (4, [.int (mc + 1), .ref q1, .int 1])), (q1, .inl (cy 10, 10, .inr (.inr (.inr (.inr (va_up (fun _ => none) 0 (some v)))))))]) := hD
  refine lv_iconst (v := 1) hx hb dJx4a65c_add_9ea2d_23 (by decide) ?_
  refine W.widen (k := 1) (n := 10) (Nat.le_of_ble_eq_true rfl) (Nat.le_of_ble_eq_true rfl) ?_
  have hP9 := hP.sub (ws' := [(v, .inr (1, fs)), (a1, .inr (4, [.int (mc + 1), .ref q1, .int 1])), (q1, .inl (cy 10, 10, .inr (.inr (.inr (.inr (va_up (fun _ => none) 0 (some v)))))))]) [0, 1, 2] rfl
  have hD9 := hD.sub (ws' := [(v, .inr (1, fs)), (a1, .inr (4, [.int (mc + 1), .ref q1, .int 1])), (q1, .inl (cy 10, 10, .inr (.inr (.inr (.inr (va_up (fun _ => none) 0 (some v)))))))]) [0, 1, 2] (by decide) rfl
  exact W.zret hx hb hr (by decide) (fun t ht hW => ⟨rfl, ⟨q1, by rw [ht]; exact hP9, hD9⟩, hS.F ht⟩) hS.2.2 dJx4a65c_add_9ea2d_24

set_option maxRecDepth 100000 in
set_option maxHeartbeats 4000000 in
theorem m_addaI (l : Launch) (D : va_G) (cy : Nat → ClassId) {ca : Nat} {ia : Nat → Nat} {eda : Nat} (a1 v : Nat) (sz : Nat) (mc : Int32) (fa : Nat → Int32) : MJ l D cy eda ca ia ([(a1, .inr (4, [.int mc, .ref eda, .int 0])), (v, .inl (cy 0, 2, .inl (fa)))]) sz yJx4a65c_add_72be8 wsJx4a65c_add_72be8 3 1 10 57 [.ref a1, .ref v, .ref eda, .int 0] none (fun H => ∃ (q1 : Nat) , va_P D vwCl ([(v, .inl (cy 0, 2, .inl (fa))), (a1, .inr (4, [.int mc, .ref q1, .int 1])), (q1, .inl (cy 10, 10, .inr (.inr (.inr (.inr (va_up (fun _ => none) 0 (some v)))))))]) H ∧ va_D (va_A ([(a1, .inr (4, [.int mc, .ref eda, .int 0])), (v, .inl (cy 0, 2, .inl (fa)))]) sz) ([(v, .inl (cy 0, 2, .inl (fa))), (a1, .inr (4, [.int mc, .ref q1, .int 1])), (q1, .inl (cy 10, 10, .inr (.inr (.inr (.inr (va_up (fun _ => none) 0 (some v)))))))])) := by
  refine ro_ofW (cc := cJx4a65c_add_72be8) (maxL := 4) (ret := none) (lv := [(0, .ref a1), (1, .ref v), (2, .ref eda), (3, .int 0)]) (by decide) rfl (Nat.le_of_ble_eq_true rfl) rfl ?_
  intro p e s m below meth c ls hx hb hr hml hown hlocks hname hts hv hl
  have hown : s.vm.findClass RJx4a65c = some m.cls := hown
  obtain ⟨⟨⟨hsz, hP, hD0⟩, hK, hN⟩, hJS⟩ := hv
  subst hsz
  have hD := hD0.self (sz := s.heap.size)
  generalize hAe : va_A ([(a1, .inr (4, [.int mc, .ref eda, .int 0])), (v, .inl (cy 0, 2, .inl (fa)))]) s.heap.size = A at hD hJS ⊢
  have hA : ∀ q : Nat, s.heap.size ≤ q → A q := fun q h => by rw [← hAe]; exact Or.inr h
  have hS : va_S A s.heap s.heap [] := va_S.rf
  refine lv_iload_n hx hb dJx4a65c_add_72be8_0 rfl (lv_at hl 3 rfl) ?_
  refine lv_aload_n hx hb dJx4a65c_add_72be8_1 rfl (lv_at hl 2 rfl) ?_
  refine va_tlen (v := 0) hx hb hJS.2.1 hS rfl dJx4a65c_add_72be8_2 ?_
  refine lv_icmp_ne (tgt := 11) hx hb dJx4a65c_add_72be8_3 (by decide) (fun c => absurd (by decide) c) (fun _ => ?_)
  refine lv_aload_n hx hb dJx4a65c_add_72be8_6 rfl (lv_at hl 0 rfl) ?_
  have hP := hP.sub (ws' := [(v, .inl (cy 0, 2, .inl (fa))), (a1, .inr (4, [.int mc, .ref eda, .int 0]))]) [1, 0] rfl
  have hD := hD.sub (ws' := [(v, .inl (cy 0, 2, .inl (fa))), (a1, .inr (4, [.int mc, .ref eda, .int 0]))]) [1, 0] (by decide) rfl
  refine mr_callV (wr := [(v, .inl (cy 0, 2, .inl (fa)))]) (wc := [(a1, .inr (4, [.int mc, .ref eda, .int 0]))]) (As := []) (rest := []) ⟨hx, hb, hml, hown, hts⟩ (m_grow0 l D cy a1 _ mc ) (cwV 0 hts gJx4a65c_add_72be8_Jx4a65c_grow_d5877 rfl rfl rfl (by decide +kernel) ⟨by decide, by decide⟩) hK hN hP hD hS hA hJS (ci := 4) (q0 := 0) rfl rfl rfl rfl hl.1 rfl (Nat.le_of_ble_eq_true rfl) dJx4a65c_add_72be8_7 ⟨Nat.le_of_ble_eq_true rfl, Nat.le_of_ble_eq_true rfl⟩ (fun q1 H locs hB hJ hS => ?_)
  obtain ⟨hP1, hD1⟩ := hB
  obtain ⟨hP, hD⟩ := hJ _ hP1 hD1
  have hP : va_P D vwCl ([(v, .inl (cy 0, 2, .inl (fa))), (a1, .inr (4, [.int mc, .ref q1, .int 0])), (q1, .inl (cy 10, 10, .inr (.inr (.inr (.inr (fun _ => none))))))]) H := hP
  have hD : va_D A ([(v, .inl (cy 0, 2, .inl (fa))), (a1, .inr (4, [.int mc, .ref q1, .int 0])), (q1, .inl (cy 10, 10, .inr (.inr (.inr (.inr (fun _ => none))))))]) := hD
  refine lv_astore_n (lv' := [(2, .ref q1), (0, .ref a1), (1, .ref v), (3, .int 0)]) hx hb dJx4a65c_add_72be8_10 rfl hl (by decide) rfl (fun ls hl => ?_)
  refine lv_aload_n hx hb dJx4a65c_add_72be8_11 rfl (lv_at hl 0 rfl) ?_
  refine lv_iload_n hx hb dJx4a65c_add_72be8_12 rfl (lv_at hl 3 rfl) ?_
  refine lv_aload_n hx hb dJx4a65c_add_72be8_13 rfl (lv_at hl 2 rfl) ?_
  refine vb_astq hx hb hK hP hD hS 2 10 rfl rfl (my_recvI (q0 := 0) hK hP rfl) (vb_asgC (hN.2.2 ("[I", "java/lang/Object") (by decide +kernel))) (by unfold vp_in; decide) dJx4a65c_add_72be8_14 (fun H locs hP hD hS => ?_)
  have hP : va_P D vwCl ([(v, .inl (cy 0, 2, .inl (fa))), (a1, .inr (4, [.int mc, .ref q1, .int 0])), (q1, .inl (cy 10, 10, .inr (.inr (.inr (.inr (va_up (fun _ => none) 0 (some v)))))))]) H := hP
  have hD : va_D A ([(v, .inl (cy 0, 2, .inl (fa))), (a1, .inr (4, [.int mc, .ref q1, .int 0])), (q1, .inl (cy 10, 10, .inr (.inr (.inr (.inr (va_up (fun _ => none) 0 (some v)))))))]) := hD
  refine lv_aload_n hx hb dJx4a65c_add_72be8_15 rfl (lv_at hl 1 rfl) ?_
  refine lv_iload_n hx hb dJx4a65c_add_72be8_16 rfl (lv_at hl 3 rfl) ?_
  refine lv_iconst (v := 1) hx hb dJx4a65c_add_72be8_17 (by decide) ?_
  refine lv_iadd hx hb dJx4a65c_add_72be8_18 ?_
  refine lv_topi (fun y ey => ?_)
  obtain rfl : y = 1 := ey.trans (by decide)
  refine va_put (D := D) (ci := 4) (v := .int 1) (ty := .int) (C := RJx4a65c) (T := TJx4a65c) (N := 3) hx hb hts iw_Jx4a65c_add_72be8_RJx4a65c tyJx4a65c tyJx4a65c_ok nmJx4a65c hown hK hP hD hS 1 rfl rfl 2 (by decide) (hts (.fieldLink RJx4a65c 48 "java/util/ArrayList" "size" "I") (by decide +kernel)) (fun _ h9 => h9) rfl (by decide +kernel) rfl rfl (Nat.le_of_ble_eq_true rfl) dJx4a65c_add_72be8_19 (fun H locs hP hD hS => ?_)
  have hP : va_P D vwCl ([(v, .inl (cy 0, 2, .inl (fa))), (a1, .inr (4, [.int mc, .ref q1, .int 1])), (q1, .inl (cy 10, 10, .inr (.inr (.inr (.inr (va_up (fun _ => none) 0 (some v)))))))]) H := hP
  have hD : va_D A ([(v, .inl (cy 0, 2, .inl (fa))), (a1, .inr (4, [.int mc, .ref q1, .int 1])), (q1, .inl (cy 10, 10, .inr (.inr (.inr (.inr (va_up (fun _ => none) 0 (some v)))))))]) := hD
  refine W.widen (k := 1) (n := 10) (Nat.le_of_ble_eq_true rfl) (Nat.le_of_ble_eq_true rfl) ?_
  have hP9 := hP.sub (ws' := [(v, .inl (cy 0, 2, .inl (fa))), (a1, .inr (4, [.int mc, .ref q1, .int 1])), (q1, .inl (cy 10, 10, .inr (.inr (.inr (.inr (va_up (fun _ => none) 0 (some v)))))))]) [0, 1, 2] rfl
  have hD9 := hD.sub (ws' := [(v, .inl (cy 0, 2, .inl (fa))), (a1, .inr (4, [.int mc, .ref q1, .int 1])), (q1, .inl (cy 10, 10, .inr (.inr (.inr (.inr (va_up (fun _ => none) 0 (some v)))))))]) [0, 1, 2] (by decide) rfl
  exact W.vret hx hb hr (fun t ht hW => ⟨rfl, ⟨q1, by rw [ht]; exact hP9, hD9⟩, hS.F ht⟩) hS.2.2 dJx4a65c_add_72be8_22

set_option maxRecDepth 100000 in
set_option maxHeartbeats 4000000 in
theorem m_addI (l : Launch) (D : va_G) (cy : Nat → ClassId) {ca : Nat} {ia : Nat → Nat} {eda : Nat} (a1 v : Nat) (sz : Nat) (mc : Int32) (fa : Nat → Int32) : MJ l D cy eda ca ia ([(a1, .inr (4, [.int mc, .ref eda, .int 0])), (v, .inl (cy 0, 2, .inl (fa)))]) sz yJx4a65c_add_9ea2d wsJx4a65c_add_9ea2d 4 1 10 80 [.ref a1, .ref v] (some (.int 1)) (fun H => ∃ (q1 : Nat) , va_P D vwCl ([(v, .inl (cy 0, 2, .inl (fa))), (a1, .inr (4, [.int (mc + 1), .ref q1, .int 1])), (q1, .inl (cy 10, 10, .inr (.inr (.inr (.inr (va_up (fun _ => none) 0 (some v)))))))]) H ∧ va_D (va_A ([(a1, .inr (4, [.int mc, .ref eda, .int 0])), (v, .inl (cy 0, 2, .inl (fa)))]) sz) ([(v, .inl (cy 0, 2, .inl (fa))), (a1, .inr (4, [.int (mc + 1), .ref q1, .int 1])), (q1, .inl (cy 10, 10, .inr (.inr (.inr (.inr (va_up (fun _ => none) 0 (some v)))))))])) := by
  refine ro_ofW (cc := cJx4a65c_add_9ea2d) (maxL := 2) (ret := (some .boolean)) (lv := [(0, .ref a1), (1, .ref v)]) (by decide) rfl (Nat.le_of_ble_eq_true rfl) rfl ?_
  intro p e s m below meth c ls hx hb hr hml hown hlocks hname hts hv hl
  have hown : s.vm.findClass RJx4a65c = some m.cls := hown
  obtain ⟨⟨⟨hsz, hP, hD0⟩, hK, hN⟩, hJS⟩ := hv
  subst hsz
  have hD := hD0.self (sz := s.heap.size)
  generalize hAe : va_A ([(a1, .inr (4, [.int mc, .ref eda, .int 0])), (v, .inl (cy 0, 2, .inl (fa)))]) s.heap.size = A at hD hJS ⊢
  have hA : ∀ q : Nat, s.heap.size ≤ q → A q := fun q h => by rw [← hAe]; exact Or.inr h
  have hS : va_S A s.heap s.heap [] := va_S.rf
  refine lv_aload_n hx hb dJx4a65c_add_9ea2d_0 rfl (lv_at hl 0 rfl) ?_
  refine lv_dup hx hb dJx4a65c_add_9ea2d_1 rfl ?_
  refine va_get (D := D) (ci := 4) (v := .int mc) (C := RJx4a65c) (T := TJx4a65c) (N := 3) hx hb hts iw_Jx4a65c_add_9ea2d_RJx4a65c hown hK hP 0 rfl rfl 0 (by decide) (hts (.fieldLink RJx4a65c 63 "java/util/ArrayList" "modCount" "I") (by decide +kernel)) (fun x9 h9 => u_same (hts (.sameField "java/util/ArrayList" "java/util/AbstractList" "modCount" "I") (by decide +kernel)) x9 h9) rfl dJx4a65c_add_9ea2d_2 ?_
  refine lv_iconst (v := 1) hx hb dJx4a65c_add_9ea2d_5 (by decide) ?_
  refine lv_iadd hx hb dJx4a65c_add_9ea2d_6 ?_
  refine lv_topi (fun y ey => ?_)
  obtain rfl : y = mc + 1 := ey.trans rfl
  refine va_put (D := D) (ci := 4) (v := .int (mc + 1)) (ty := .int) (C := RJx4a65c) (T := TJx4a65c) (N := 3) hx hb hts iw_Jx4a65c_add_9ea2d_RJx4a65c tyJx4a65c tyJx4a65c_ok nmJx4a65c hown hK hP hD hS 0 rfl rfl 0 (by decide) (hts (.fieldLink RJx4a65c 63 "java/util/ArrayList" "modCount" "I") (by decide +kernel)) (fun x9 h9 => u_same (hts (.sameField "java/util/ArrayList" "java/util/AbstractList" "modCount" "I") (by decide +kernel)) x9 h9) rfl (by decide +kernel) rfl rfl (Nat.le_of_ble_eq_true rfl) dJx4a65c_add_9ea2d_7 (fun H locs hP hD hS => ?_)
  have hP : va_P D vwCl ([(a1, .inr (4, [.int (mc + 1), .ref eda, .int 0])), (v, .inl (cy 0, 2, .inl (fa)))]) H := hP
  have hD : va_D A ([(a1, .inr (4, [.int (mc + 1), .ref eda, .int 0])), (v, .inl (cy 0, 2, .inl (fa)))]) := hD
  refine lv_aload_n hx hb dJx4a65c_add_9ea2d_10 rfl (lv_at hl 0 rfl) ?_
  refine lv_aload_n hx hb dJx4a65c_add_9ea2d_11 rfl (lv_at hl 1 rfl) ?_
  refine lv_aload_n hx hb dJx4a65c_add_9ea2d_12 rfl (lv_at hl 0 rfl) ?_
  refine va_get (D := D) (ci := 4) (v := .ref eda) (C := RJx4a65c) (T := TJx4a65c) (N := 3) hx hb hts iw_Jx4a65c_add_9ea2d_RJx4a65c hown hK hP 0 rfl rfl 1 (by decide) (hts (.fieldLink RJx4a65c 9 "java/util/ArrayList" "elementData" "[Ljava/lang/Object;") (by decide +kernel)) (fun _ h9 => h9) rfl dJx4a65c_add_9ea2d_13 ?_
  refine lv_aload_n hx hb dJx4a65c_add_9ea2d_16 rfl (lv_at hl 0 rfl) ?_
  refine va_get (D := D) (ci := 4) (v := .int 0) (C := RJx4a65c) (T := TJx4a65c) (N := 3) hx hb hts iw_Jx4a65c_add_9ea2d_RJx4a65c hown hK hP 0 rfl rfl 2 (by decide) (hts (.fieldLink RJx4a65c 48 "java/util/ArrayList" "size" "I") (by decide +kernel)) (fun _ h9 => h9) rfl dJx4a65c_add_9ea2d_17 ?_
  refine mj_callV (wr := []) (wc := [(a1, .inr (4, [.int (mc + 1), .ref eda, .int 0])), (v, .inl (cy 0, 2, .inl (fa)))]) (As := [.ref v, .ref eda, .int 0]) (rest := []) ⟨hx, hb, hml, hown, hts⟩ (m_addaI l D cy a1 v _ (mc + 1) fa ) (cwV 3 hts gJx4a65c_add_9ea2d_Jx4a65c_add_72be8 rfl rfl rfl (by decide +kernel) ⟨by decide, by decide⟩) hK hN hP hD hS hA hJS (ci := 4) (q0 := 0) rfl rfl rfl rfl hl.1 rfl (Nat.le_of_ble_eq_true rfl) dJx4a65c_add_9ea2d_20 ⟨Nat.le_of_ble_eq_true rfl, Nat.le_of_ble_eq_true rfl⟩ (fun H locs hB hJ hS => ?_)
  obtain ⟨q1, hP1, hD1⟩ := hB
  obtain ⟨hP, hD⟩ := hJ _ hP1 hD1
  have hP : va_P D vwCl ([(v, .inl (cy 0, 2, .inl (fa))), (a1, .inr (4, [.int (mc + 1), .ref q1, .int 1])), (q1, .inl (cy 10, 10, .inr (.inr (.inr (.inr (va_up (fun _ => none) 0 (some v)))))))]) H := hP
  have hD : va_D A ([(v, .inl (cy 0, 2, .inl (fa))), (a1, .inr (4, [.int (mc + 1), .ref q1, .int 1])), (q1, .inl (cy 10, 10, .inr (.inr (.inr (.inr (va_up (fun _ => none) 0 (some v)))))))]) := hD
  refine lv_iconst (v := 1) hx hb dJx4a65c_add_9ea2d_23 (by decide) ?_
  refine W.widen (k := 1) (n := 10) (Nat.le_of_ble_eq_true rfl) (Nat.le_of_ble_eq_true rfl) ?_
  have hP9 := hP.sub (ws' := [(v, .inl (cy 0, 2, .inl (fa))), (a1, .inr (4, [.int (mc + 1), .ref q1, .int 1])), (q1, .inl (cy 10, 10, .inr (.inr (.inr (.inr (va_up (fun _ => none) 0 (some v)))))))]) [0, 1, 2] rfl
  have hD9 := hD.sub (ws' := [(v, .inl (cy 0, 2, .inl (fa))), (a1, .inr (4, [.int (mc + 1), .ref q1, .int 1])), (q1, .inl (cy 10, 10, .inr (.inr (.inr (.inr (va_up (fun _ => none) 0 (some v)))))))]) [0, 1, 2] (by decide) rfl
  exact W.zret hx hb hr (by decide) (fun t ht hW => ⟨rfl, ⟨q1, by rw [ht]; exact hP9, hD9⟩, hS.F ht⟩) hS.2.2 dJx4a65c_add_9ea2d_24

set_option maxRecDepth 100000 in
set_option maxHeartbeats 4000000 in
theorem m_addaC (l : Launch) (D : va_G) (cy : Nat → ClassId) {ca : Nat} {ia : Nat → Nat} {eda : Nat} (a1 : Nat) (sz : Nat) (mc : Int32) (kc : Nat) (hk : kc < 256) : MJ l D cy eda ca ia ([(a1, .inr (4, [.int mc, .ref eda, .int 0]))]) sz yJx4a65c_add_72be8 wsJx4a65c_add_72be8 3 1 10 57 [.ref a1, .ref (ia kc), .ref eda, .int 0] none (fun H => ∃ (q1 : Nat) , va_P D vwCl ([(a1, .inr (4, [.int mc, .ref q1, .int 1])), (q1, .inl (cy 10, 10, .inr (.inr (.inr (.inr (va_up (fun _ => none) 0 (some (ia kc))))))))]) H ∧ va_D (va_A ([(a1, .inr (4, [.int mc, .ref eda, .int 0]))]) sz) ([(a1, .inr (4, [.int mc, .ref q1, .int 1])), (q1, .inl (cy 10, 10, .inr (.inr (.inr (.inr (va_up (fun _ => none) 0 (some (ia kc))))))))])) := by
  refine ro_ofW (cc := cJx4a65c_add_72be8) (maxL := 4) (ret := none) (lv := [(0, .ref a1), (1, .ref (ia kc)), (2, .ref eda), (3, .int 0)]) (by decide) rfl (Nat.le_of_ble_eq_true rfl) rfl ?_
  intro p e s m below meth c ls hx hb hr hml hown hlocks hname hts hv hl
  have hown : s.vm.findClass RJx4a65c = some m.cls := hown
  obtain ⟨⟨⟨hsz, hP, hD0⟩, hK, hN⟩, hJS⟩ := hv
  subst hsz
  have hD := hD0.self (sz := s.heap.size)
  generalize hAe : va_A ([(a1, .inr (4, [.int mc, .ref eda, .int 0]))]) s.heap.size = A at hD hJS ⊢
  have hA : ∀ q : Nat, s.heap.size ≤ q → A q := fun q h => by rw [← hAe]; exact Or.inr h
  have hS : va_S A s.heap s.heap [] := va_S.rf
  refine lv_iload_n hx hb dJx4a65c_add_72be8_0 rfl (lv_at hl 3 rfl) ?_
  refine lv_aload_n hx hb dJx4a65c_add_72be8_1 rfl (lv_at hl 2 rfl) ?_
  refine va_tlen (v := 0) hx hb hJS.2.1 hS rfl dJx4a65c_add_72be8_2 ?_
  refine lv_icmp_ne (tgt := 11) hx hb dJx4a65c_add_72be8_3 (by decide) (fun c => absurd (by decide) c) (fun _ => ?_)
  refine lv_aload_n hx hb dJx4a65c_add_72be8_6 rfl (lv_at hl 0 rfl) ?_
  refine mr_callV (wr := []) (wc := [(a1, .inr (4, [.int mc, .ref eda, .int 0]))]) (As := []) (rest := []) ⟨hx, hb, hml, hown, hts⟩ (m_grow0 l D cy a1 _ mc ) (cwV 0 hts gJx4a65c_add_72be8_Jx4a65c_grow_d5877 rfl rfl rfl (by decide +kernel) ⟨by decide, by decide⟩) hK hN hP hD hS hA hJS (ci := 4) (q0 := 0) rfl rfl rfl rfl hl.1 rfl (Nat.le_of_ble_eq_true rfl) dJx4a65c_add_72be8_7 ⟨Nat.le_of_ble_eq_true rfl, Nat.le_of_ble_eq_true rfl⟩ (fun q1 H locs hB hJ hS => ?_)
  obtain ⟨hP1, hD1⟩ := hB
  obtain ⟨hP, hD⟩ := hJ _ hP1 hD1
  have hP : va_P D vwCl ([(a1, .inr (4, [.int mc, .ref q1, .int 0])), (q1, .inl (cy 10, 10, .inr (.inr (.inr (.inr (fun _ => none))))))]) H := hP
  have hD : va_D A ([(a1, .inr (4, [.int mc, .ref q1, .int 0])), (q1, .inl (cy 10, 10, .inr (.inr (.inr (.inr (fun _ => none))))))]) := hD
  refine lv_astore_n (lv' := [(2, .ref q1), (0, .ref a1), (1, .ref (ia kc)), (3, .int 0)]) hx hb dJx4a65c_add_72be8_10 rfl hl (by decide) rfl (fun ls hl => ?_)
  refine lv_aload_n hx hb dJx4a65c_add_72be8_11 rfl (lv_at hl 0 rfl) ?_
  refine lv_iload_n hx hb dJx4a65c_add_72be8_12 rfl (lv_at hl 3 rfl) ?_
  refine lv_aload_n hx hb dJx4a65c_add_72be8_13 rfl (lv_at hl 2 rfl) ?_
  refine vb_astq hx hb hK hP hD hS 1 10 rfl rfl (va_Orecv (hJS.2.2.2.2.2.1 kc hk) hS) (vb_asgC (hN.2.2 ("java/lang/Integer", "java/lang/Object") (by decide +kernel))) (by unfold vp_in; decide) dJx4a65c_add_72be8_14 (fun H locs hP hD hS => ?_)
  have hP : va_P D vwCl ([(a1, .inr (4, [.int mc, .ref q1, .int 0])), (q1, .inl (cy 10, 10, .inr (.inr (.inr (.inr (va_up (fun _ => none) 0 (some (ia kc))))))))]) H := hP
  have hD : va_D A ([(a1, .inr (4, [.int mc, .ref q1, .int 0])), (q1, .inl (cy 10, 10, .inr (.inr (.inr (.inr (va_up (fun _ => none) 0 (some (ia kc))))))))]) := hD
  refine lv_aload_n hx hb dJx4a65c_add_72be8_15 rfl (lv_at hl 1 rfl) ?_
  refine lv_iload_n hx hb dJx4a65c_add_72be8_16 rfl (lv_at hl 3 rfl) ?_
  refine lv_iconst (v := 1) hx hb dJx4a65c_add_72be8_17 (by decide) ?_
  refine lv_iadd hx hb dJx4a65c_add_72be8_18 ?_
  refine lv_topi (fun y ey => ?_)
  obtain rfl : y = 1 := ey.trans (by decide)
  refine va_put (D := D) (ci := 4) (v := .int 1) (ty := .int) (C := RJx4a65c) (T := TJx4a65c) (N := 3) hx hb hts iw_Jx4a65c_add_72be8_RJx4a65c tyJx4a65c tyJx4a65c_ok nmJx4a65c hown hK hP hD hS 0 rfl rfl 2 (by decide) (hts (.fieldLink RJx4a65c 48 "java/util/ArrayList" "size" "I") (by decide +kernel)) (fun _ h9 => h9) rfl (by decide +kernel) rfl rfl (Nat.le_of_ble_eq_true rfl) dJx4a65c_add_72be8_19 (fun H locs hP hD hS => ?_)
  have hP : va_P D vwCl ([(a1, .inr (4, [.int mc, .ref q1, .int 1])), (q1, .inl (cy 10, 10, .inr (.inr (.inr (.inr (va_up (fun _ => none) 0 (some (ia kc))))))))]) H := hP
  have hD : va_D A ([(a1, .inr (4, [.int mc, .ref q1, .int 1])), (q1, .inl (cy 10, 10, .inr (.inr (.inr (.inr (va_up (fun _ => none) 0 (some (ia kc))))))))]) := hD
  refine W.widen (k := 1) (n := 10) (Nat.le_of_ble_eq_true rfl) (Nat.le_of_ble_eq_true rfl) ?_
  have hP9 := hP.sub (ws' := [(a1, .inr (4, [.int mc, .ref q1, .int 1])), (q1, .inl (cy 10, 10, .inr (.inr (.inr (.inr (va_up (fun _ => none) 0 (some (ia kc))))))))]) [0, 1] rfl
  have hD9 := hD.sub (ws' := [(a1, .inr (4, [.int mc, .ref q1, .int 1])), (q1, .inl (cy 10, 10, .inr (.inr (.inr (.inr (va_up (fun _ => none) 0 (some (ia kc))))))))]) [0, 1] (by decide) rfl
  exact W.vret hx hb hr (fun t ht hW => ⟨rfl, ⟨q1, by rw [ht]; exact hP9, hD9⟩, hS.F ht⟩) hS.2.2 dJx4a65c_add_72be8_22

set_option maxRecDepth 100000 in
set_option maxHeartbeats 4000000 in
theorem m_addC (l : Launch) (D : va_G) (cy : Nat → ClassId) {ca : Nat} {ia : Nat → Nat} {eda : Nat} (a1 : Nat) (sz : Nat) (mc : Int32) (kc : Nat) (hk : kc < 256) : MJ l D cy eda ca ia ([(a1, .inr (4, [.int mc, .ref eda, .int 0]))]) sz yJx4a65c_add_9ea2d wsJx4a65c_add_9ea2d 4 1 10 80 [.ref a1, .ref (ia kc)] (some (.int 1)) (fun H => ∃ (q1 : Nat) , va_P D vwCl ([(a1, .inr (4, [.int (mc + 1), .ref q1, .int 1])), (q1, .inl (cy 10, 10, .inr (.inr (.inr (.inr (va_up (fun _ => none) 0 (some (ia kc))))))))]) H ∧ va_D (va_A ([(a1, .inr (4, [.int mc, .ref eda, .int 0]))]) sz) ([(a1, .inr (4, [.int (mc + 1), .ref q1, .int 1])), (q1, .inl (cy 10, 10, .inr (.inr (.inr (.inr (va_up (fun _ => none) 0 (some (ia kc))))))))])) := by
  refine ro_ofW (cc := cJx4a65c_add_9ea2d) (maxL := 2) (ret := (some .boolean)) (lv := [(0, .ref a1), (1, .ref (ia kc))]) (by decide) rfl (Nat.le_of_ble_eq_true rfl) rfl ?_
  intro p e s m below meth c ls hx hb hr hml hown hlocks hname hts hv hl
  have hown : s.vm.findClass RJx4a65c = some m.cls := hown
  obtain ⟨⟨⟨hsz, hP, hD0⟩, hK, hN⟩, hJS⟩ := hv
  subst hsz
  have hD := hD0.self (sz := s.heap.size)
  generalize hAe : va_A ([(a1, .inr (4, [.int mc, .ref eda, .int 0]))]) s.heap.size = A at hD hJS ⊢
  have hA : ∀ q : Nat, s.heap.size ≤ q → A q := fun q h => by rw [← hAe]; exact Or.inr h
  have hS : va_S A s.heap s.heap [] := va_S.rf
  refine lv_aload_n hx hb dJx4a65c_add_9ea2d_0 rfl (lv_at hl 0 rfl) ?_
  refine lv_dup hx hb dJx4a65c_add_9ea2d_1 rfl ?_
  refine va_get (D := D) (ci := 4) (v := .int mc) (C := RJx4a65c) (T := TJx4a65c) (N := 3) hx hb hts iw_Jx4a65c_add_9ea2d_RJx4a65c hown hK hP 0 rfl rfl 0 (by decide) (hts (.fieldLink RJx4a65c 63 "java/util/ArrayList" "modCount" "I") (by decide +kernel)) (fun x9 h9 => u_same (hts (.sameField "java/util/ArrayList" "java/util/AbstractList" "modCount" "I") (by decide +kernel)) x9 h9) rfl dJx4a65c_add_9ea2d_2 ?_
  refine lv_iconst (v := 1) hx hb dJx4a65c_add_9ea2d_5 (by decide) ?_
  refine lv_iadd hx hb dJx4a65c_add_9ea2d_6 ?_
  refine lv_topi (fun y ey => ?_)
  obtain rfl : y = mc + 1 := ey.trans rfl
  refine va_put (D := D) (ci := 4) (v := .int (mc + 1)) (ty := .int) (C := RJx4a65c) (T := TJx4a65c) (N := 3) hx hb hts iw_Jx4a65c_add_9ea2d_RJx4a65c tyJx4a65c tyJx4a65c_ok nmJx4a65c hown hK hP hD hS 0 rfl rfl 0 (by decide) (hts (.fieldLink RJx4a65c 63 "java/util/ArrayList" "modCount" "I") (by decide +kernel)) (fun x9 h9 => u_same (hts (.sameField "java/util/ArrayList" "java/util/AbstractList" "modCount" "I") (by decide +kernel)) x9 h9) rfl (by decide +kernel) rfl rfl (Nat.le_of_ble_eq_true rfl) dJx4a65c_add_9ea2d_7 (fun H locs hP hD hS => ?_)
  have hP : va_P D vwCl ([(a1, .inr (4, [.int (mc + 1), .ref eda, .int 0]))]) H := hP
  have hD : va_D A ([(a1, .inr (4, [.int (mc + 1), .ref eda, .int 0]))]) := hD
  refine lv_aload_n hx hb dJx4a65c_add_9ea2d_10 rfl (lv_at hl 0 rfl) ?_
  refine lv_aload_n hx hb dJx4a65c_add_9ea2d_11 rfl (lv_at hl 1 rfl) ?_
  refine lv_aload_n hx hb dJx4a65c_add_9ea2d_12 rfl (lv_at hl 0 rfl) ?_
  refine va_get (D := D) (ci := 4) (v := .ref eda) (C := RJx4a65c) (T := TJx4a65c) (N := 3) hx hb hts iw_Jx4a65c_add_9ea2d_RJx4a65c hown hK hP 0 rfl rfl 1 (by decide) (hts (.fieldLink RJx4a65c 9 "java/util/ArrayList" "elementData" "[Ljava/lang/Object;") (by decide +kernel)) (fun _ h9 => h9) rfl dJx4a65c_add_9ea2d_13 ?_
  refine lv_aload_n hx hb dJx4a65c_add_9ea2d_16 rfl (lv_at hl 0 rfl) ?_
  refine va_get (D := D) (ci := 4) (v := .int 0) (C := RJx4a65c) (T := TJx4a65c) (N := 3) hx hb hts iw_Jx4a65c_add_9ea2d_RJx4a65c hown hK hP 0 rfl rfl 2 (by decide) (hts (.fieldLink RJx4a65c 48 "java/util/ArrayList" "size" "I") (by decide +kernel)) (fun _ h9 => h9) rfl dJx4a65c_add_9ea2d_17 ?_
  refine mj_callV (wr := []) (wc := [(a1, .inr (4, [.int (mc + 1), .ref eda, .int 0]))]) (As := [.ref (ia kc), .ref eda, .int 0]) (rest := []) ⟨hx, hb, hml, hown, hts⟩ (m_addaC l D cy a1 _ (mc + 1) kc hk) (cwV 3 hts gJx4a65c_add_9ea2d_Jx4a65c_add_72be8 rfl rfl rfl (by decide +kernel) ⟨by decide, by decide⟩) hK hN hP hD hS hA hJS (ci := 4) (q0 := 0) rfl rfl rfl rfl hl.1 rfl (Nat.le_of_ble_eq_true rfl) dJx4a65c_add_9ea2d_20 ⟨Nat.le_of_ble_eq_true rfl, Nat.le_of_ble_eq_true rfl⟩ (fun H locs hB hJ hS => ?_)
  obtain ⟨q1, hP1, hD1⟩ := hB
  obtain ⟨hP, hD⟩ := hJ _ hP1 hD1
  have hP : va_P D vwCl ([(a1, .inr (4, [.int (mc + 1), .ref q1, .int 1])), (q1, .inl (cy 10, 10, .inr (.inr (.inr (.inr (va_up (fun _ => none) 0 (some (ia kc))))))))]) H := hP
  have hD : va_D A ([(a1, .inr (4, [.int (mc + 1), .ref q1, .int 1])), (q1, .inl (cy 10, 10, .inr (.inr (.inr (.inr (va_up (fun _ => none) 0 (some (ia kc))))))))]) := hD
  refine lv_iconst (v := 1) hx hb dJx4a65c_add_9ea2d_23 (by decide) ?_
  refine W.widen (k := 1) (n := 10) (Nat.le_of_ble_eq_true rfl) (Nat.le_of_ble_eq_true rfl) ?_
  have hP9 := hP.sub (ws' := [(a1, .inr (4, [.int (mc + 1), .ref q1, .int 1])), (q1, .inl (cy 10, 10, .inr (.inr (.inr (.inr (va_up (fun _ => none) 0 (some (ia kc))))))))]) [0, 1] rfl
  have hD9 := hD.sub (ws' := [(a1, .inr (4, [.int (mc + 1), .ref q1, .int 1])), (q1, .inl (cy 10, 10, .inr (.inr (.inr (.inr (va_up (fun _ => none) 0 (some (ia kc))))))))]) [0, 1] (by decide) rfl
  exact W.zret hx hb hr (by decide) (fun t ht hW => ⟨rfl, ⟨q1, by rw [ht]; exact hP9, hD9⟩, hS.F ht⟩) hS.2.2 dJx4a65c_add_9ea2d_24

set_option maxRecDepth 100000 in
set_option maxHeartbeats 4000000 in
theorem m_num_init (l : Launch) (D : va_G) (cy : Nat → ClassId) (a1 : Nat) (sz : Nat) : ME l D cy ([(a1, .inr (1, [.int 0]))]) sz yJxd2413_init_da8c8 wsJxd2413_init_da8c8 1 0 0 12 [.ref a1] none (fun H => va_P D vwCl ([(a1, .inr (1, [.int 0]))]) H ∧ va_D (va_A ([(a1, .inr (1, [.int 0]))]) sz) ([(a1, .inr (1, [.int 0]))])) := by
  refine ro_ofW (cc := cJxd2413_init_da8c8) (maxL := 1) (ret := none) (lv := [(0, .ref a1)]) (by decide) rfl (Nat.le_of_ble_eq_true rfl) rfl ?_
  intro p e s m below meth c ls hx hb hr hml hown hlocks hname hts hv hl
  have hown : s.vm.findClass RJxd2413 = some m.cls := hown
  obtain ⟨⟨hsz, hP, hD0⟩, hK, hN⟩ := hv
  subst hsz
  have hD := hD0.self (sz := s.heap.size)
  generalize hAe : va_A ([(a1, .inr (1, [.int 0]))]) s.heap.size = A at hD ⊢
  have hA : ∀ q : Nat, s.heap.size ≤ q → A q := fun q h => by rw [← hAe]; exact Or.inr h
  have hS : va_S A s.heap s.heap [] := va_S.rf
  refine lv_aload_n hx hb dJxd2413_init_da8c8_0 rfl (lv_at hl 0 rfl) ?_
  refine W.objInit hx hb hown (hts (.methodLink RJxd2413 1 objectInit) (by decide +kernel)) (hts (.instanceMethod objectInit) (by decide +kernel)) (hts (.code objectInit ⟨#[0xb1]⟩ 1 none) (by decide +kernel)) rfl (by rw [hml]; exact hl.1) rfl dJxd2413_init_da8c8_1 (Nat.le_of_ble_eq_true rfl) (Nat.le_of_ble_eq_true rfl) ?_
  refine W.eq (g2 := F0 m 4 ls []) rfl ?_
  refine W.widen (k := 0) (n := 0) (Nat.le_of_ble_eq_true rfl) (Nat.le_of_ble_eq_true rfl) ?_
  have hP9 := hP.sub (ws' := [(a1, .inr (1, [.int 0]))]) [0] rfl
  have hD9 := hD.sub (ws' := [(a1, .inr (1, [.int 0]))]) [0] (by decide) rfl
  exact W.vret hx hb hr (fun t ht hW => ⟨rfl, ⟨by rw [ht]; exact hP9, hD9⟩, hS.F ht⟩) hS.2.2 dJxd2413_init_da8c8_4

theorem iw_J6_init_d00df_RJ6 : ∀ w ∈ u_ws RJ6 TJ6 1, w ∈ wsJ6_init_d00df := by decide +kernel
set_option maxRecDepth 100000 in
set_option maxHeartbeats 4000000 in
theorem m_int_init (l : Launch) (D : va_G) (cy : Nat → ClassId) (a1 : Nat) (sz : Nat) (v : Int32) : ME l D cy ([(a1, .inr (1, [.int 0]))]) sz yJ6_init_d00df wsJ6_init_d00df 2 0 0 32 [.ref a1, .int v] none (fun H => va_P D vwCl ([(a1, .inr (1, [.int v]))]) H ∧ va_D (va_A ([(a1, .inr (1, [.int 0]))]) sz) ([(a1, .inr (1, [.int v]))])) := by
  refine ro_ofW (cc := cJ6_init_d00df) (maxL := 2) (ret := none) (lv := [(0, .ref a1), (1, .int v)]) (by decide) rfl (Nat.le_of_ble_eq_true rfl) rfl ?_
  intro p e s m below meth c ls hx hb hr hml hown hlocks hname hts hv hl
  have hown : s.vm.findClass RJ6 = some m.cls := hown
  obtain ⟨⟨hsz, hP, hD0⟩, hK, hN⟩ := hv
  subst hsz
  have hD := hD0.self (sz := s.heap.size)
  generalize hAe : va_A ([(a1, .inr (1, [.int 0]))]) s.heap.size = A at hD ⊢
  have hA : ∀ q : Nat, s.heap.size ≤ q → A q := fun q h => by rw [← hAe]; exact Or.inr h
  have hS : va_S A s.heap s.heap [] := va_S.rf
  refine lv_aload_n hx hb dJ6_init_d00df_0 rfl (lv_at hl 0 rfl) ?_
  refine me_callI (wr := []) (wc := [(a1, .inr (1, [.int 0]))]) (As := []) (rest := []) ⟨hx, hb, hml, hown, hts⟩ (m_num_init l D cy a1 _  ) (cwI 0 hts gJ6_init_d00df_Jxd2413_init_da8c8 rfl rfl rfl (hts (.initialized RJxd2413) (by decide +kernel)) (hts (.methodLink RJ6 202 yJxd2413_init_da8c8) (by decide +kernel)) (hts (.instanceMethod yJxd2413_init_da8c8) (by decide +kernel)) rfl (by decide +kernel) ⟨by decide, by decide⟩) hK hN hP hD hS hA rfl hl.1 rfl (Nat.le_of_ble_eq_true rfl) dJ6_init_d00df_1 ⟨Nat.le_of_ble_eq_true rfl, Nat.le_of_ble_eq_true rfl⟩ (fun H locs hB hJ hS => ?_)
  obtain ⟨hP1, hD1⟩ := hB
  obtain ⟨hP, hD⟩ := hJ _ hP1 hD1
  have hP : va_P D vwCl ([(a1, .inr (1, [.int 0]))]) H := hP
  have hD : va_D A ([(a1, .inr (1, [.int 0]))]) := hD
  refine lv_aload_n hx hb dJ6_init_d00df_4 rfl (lv_at hl 0 rfl) ?_
  refine lv_iload_n hx hb dJ6_init_d00df_5 rfl (lv_at hl 1 rfl) ?_
  refine va_putF (D := D) (ci := 1) (v := .int v) (ty := .int) (C := RJ6) (T := TJ6) (N := 1) hx hb hts iw_J6_init_d00df_RJ6 tyJ6 tyJ6_ok nmJ6 hown hK hP hD hS 0 rfl rfl 0 (by decide) (hts (.fieldLink RJ6 205 "java/lang/Integer" "value" "I") (by decide +kernel)) (fun _ h9 => h9) rfl hname rfl (by decide +kernel) rfl rfl (Nat.le_of_ble_eq_true rfl) dJ6_init_d00df_6 (fun H locs hP hD hS => ?_)
  have hP : va_P D vwCl ([(a1, .inr (1, [.int v]))]) H := hP
  have hD : va_D A ([(a1, .inr (1, [.int v]))]) := hD
  refine W.widen (k := 0) (n := 0) (Nat.le_of_ble_eq_true rfl) (Nat.le_of_ble_eq_true rfl) ?_
  have hP9 := hP.sub (ws' := [(a1, .inr (1, [.int v]))]) [0] rfl
  have hD9 := hD.sub (ws' := [(a1, .inr (1, [.int v]))]) [0] (by decide) rfl
  exact W.vret hx hb hr (fun t ht hW => ⟨rfl, ⟨by rw [ht]; exact hP9, hD9⟩, hS.F ht⟩) hS.2.2 dJ6_init_d00df_9

set_option maxRecDepth 100000 in
set_option maxHeartbeats 4000000 in
theorem m_vlo (l : Launch) (D : va_G) (cy : Nat → ClassId) {ca : Nat} {ia : Nat → Nat} {eda : Nat} (sz : Nat) (k : Nat) (hk : k ≤ 127) : MJ l D cy eda ca ia ([]) sz yJ6_valueOf_2dffe wsJ6_valueOf_2dffe 0 0 0 0 [.int (nI k)] (some (.ref (ia (k + 128)))) (fun H => va_P D vwCl ([]) H ∧ va_D (va_A ([]) sz) ([])) := by
  refine ro_ofW (cc := cJ6_valueOf_2dffe) (maxL := 1) (ret := (some (.object "java/lang/Integer"))) (lv := [(0, .int (nI k))]) (by decide) rfl (Nat.le_of_ble_eq_true rfl) rfl ?_
  intro p e s m below meth c ls hx hb hr hml hown hlocks hname hts hv hl
  have hown : s.vm.findClass RJ6 = some m.cls := hown
  obtain ⟨⟨⟨hsz, hP, hD0⟩, hK, hN⟩, hJS⟩ := hv
  subst hsz
  have hD := hD0.self (sz := s.heap.size)
  generalize hAe : va_A ([]) s.heap.size = A at hD hJS ⊢
  have hA : ∀ q : Nat, s.heap.size ≤ q → A q := fun q h => by rw [← hAe]; exact Or.inr h
  have hS : va_S A s.heap s.heap [] := va_S.rf
  refine lv_iload_n hx hb dJ6_valueOf_2dffe_0 rfl (lv_at hl 0 rfl) ?_
  refine lv_bipush (v := (-128)) hx hb dJ6_valueOf_2dffe_1 (by decide) ?_
  refine lv_icmp_lt (tgt := 23) hx hb dJ6_valueOf_2dffe_3 (by decide) (fun c => absurd c (my_lo128 (by omega))) (fun _ => ?_)
  refine lv_iload_n hx hb dJ6_valueOf_2dffe_6 rfl (lv_at hl 0 rfl) ?_
  refine va_gets hx hb hJS.2.2.1 hS hown (hts (.fieldLink RJ6 191 "java/lang/Integer$IntegerCache" "high" "I") (by decide +kernel)) (fun _ h9 => h9) dJ6_valueOf_2dffe_7 ?_
  refine lv_icmp_gt (tgt := 23) hx hb dJ6_valueOf_2dffe_10 (by decide) (fun c => absurd c (nI_nlt hk (by decide))) (fun _ => ?_)
  refine va_gets hx hb hJS.2.2.2.1 hS hown (hts (.fieldLink RJ6 195 "java/lang/Integer$IntegerCache" "cache" "[Ljava/lang/Integer;") (by decide +kernel)) (fun _ h9 => h9) dJ6_valueOf_2dffe_13 ?_
  refine lv_iload_n hx hb dJ6_valueOf_2dffe_16 rfl (lv_at hl 0 rfl) ?_
  refine lv_sipush (v := 128) hx hb dJ6_valueOf_2dffe_17 (by decide) ?_
  refine lv_iadd hx hb dJ6_valueOf_2dffe_20 ?_
  refine lv_topi (fun y ey => ?_)
  obtain rfl : y = nI (k + 128) := ey.trans (nI_add k 128)
  refine vb_tq (v := .ref (ia (k + 128))) hx hb hJS.2.2.2.2.1 hS (vp_in_nI (by omega) (by decide)) (by rw [nI_clamp (by omega)]) dJ6_valueOf_2dffe_21 ?_
  refine W.widen (k := 0) (n := 0) (Nat.le_of_ble_eq_true rfl) (Nat.le_of_ble_eq_true rfl) ?_
  have hP9 := hP.sub (ws' := []) [] rfl
  have hD9 := hD.sub (ws' := []) [] (by decide) rfl
  exact W.aret hx hb hr (Or.inl ⟨_, rfl⟩) (Or.inr ⟨_, rfl⟩) (fun t ht hW => ⟨rfl, ⟨by rw [ht]; exact hP9, hD9⟩, hS.F ht⟩) hS.2.2 dJ6_valueOf_2dffe_22

theorem iw_J6_valueOf_2dffe_RJ6 : ∀ w ∈ u_ws RJ6 TJ6 1, w ∈ wsJ6_valueOf_2dffe := by decide +kernel
theorem df_RJ6 : ∀ j, j < 1 → defaultValue (tyJ6 j) = vp_V [.int 0] j := by decide +kernel
set_option maxRecDepth 100000 in
set_option maxHeartbeats 4000000 in
theorem m_vhi (l : Launch) (D : va_G) (cy : Nat → ClassId) {ca : Nat} {ia : Nat → Nat} {eda : Nat} (sz : Nat) (k : Nat) (hk : 127 < k) (hk2 : k < 256) : MJR l D cy eda ca ia ([]) sz yJ6_valueOf_2dffe wsJ6_valueOf_2dffe 3 1 1 53 [.int (nI k)] (fun q1 H => va_P D vwCl ([(q1, .inr (1, [.int (nI k)]))]) H ∧ va_D (va_A ([]) sz) ([(q1, .inr (1, [.int (nI k)]))])) := by
  refine ro_ofW (cc := cJ6_valueOf_2dffe) (maxL := 1) (ret := (some (.object "java/lang/Integer"))) (lv := [(0, .int (nI k))]) (by decide) rfl (Nat.le_of_ble_eq_true rfl) rfl ?_
  intro p e s m below meth c ls hx hb hr hml hown hlocks hname hts hv hl
  have hown : s.vm.findClass RJ6 = some m.cls := hown
  obtain ⟨⟨⟨hsz, hP, hD0⟩, hK, hN⟩, hJS⟩ := hv
  subst hsz
  have hD := hD0.self (sz := s.heap.size)
  generalize hAe : va_A ([]) s.heap.size = A at hD hJS ⊢
  have hA : ∀ q : Nat, s.heap.size ≤ q → A q := fun q h => by rw [← hAe]; exact Or.inr h
  have hS : va_S A s.heap s.heap [] := va_S.rf
  refine lv_iload_n hx hb dJ6_valueOf_2dffe_0 rfl (lv_at hl 0 rfl) ?_
  refine lv_bipush (v := (-128)) hx hb dJ6_valueOf_2dffe_1 (by decide) ?_
  refine lv_icmp_lt (tgt := 23) hx hb dJ6_valueOf_2dffe_3 (by decide) (fun c => absurd c (my_lo128 (by omega))) (fun _ => ?_)
  refine lv_iload_n hx hb dJ6_valueOf_2dffe_6 rfl (lv_at hl 0 rfl) ?_
  refine va_gets hx hb hJS.2.2.1 hS hown (hts (.fieldLink RJ6 191 "java/lang/Integer$IntegerCache" "high" "I") (by decide +kernel)) (fun _ h9 => h9) dJ6_valueOf_2dffe_7 ?_
  refine lv_icmp_gt (tgt := 23) hx hb dJ6_valueOf_2dffe_10 (by decide) (fun _ => ?_) (fun c => absurd (nI_lt hk (by omega)) c)
  refine va_new (ci := 1) (fs := [.int 0]) (C := RJ6) (T := TJ6) (N := 1) hx hb hts iw_J6_valueOf_2dffe_RJ6 tyJ6 tyJ6_ok hown (hts (.classLink RJ6 1 RJ6) (by decide +kernel)) (hts (.instantiable RJ6 1) (by decide +kernel)) (hts (.initialized RJ6) (by decide +kernel)) hK hP hD hS hA rfl df_RJ6 (Nat.le_of_ble_eq_true rfl) (Nat.le_of_ble_eq_true rfl) dJ6_valueOf_2dffe_23 (fun q1 H hP hD hS => ?_)
  have hP : va_P D vwCl ([(q1, .inr (1, [.int 0]))]) H := hP
  have hD : va_D A ([(q1, .inr (1, [.int 0]))]) := hD
  refine lv_dup hx hb dJ6_valueOf_2dffe_26 rfl ?_
  refine lv_iload_n hx hb dJ6_valueOf_2dffe_27 rfl (lv_at hl 0 rfl) ?_
  refine me_callI (wr := []) (wc := [(q1, .inr (1, [.int 0]))]) (As := [.int (nI k)]) (rest := [.ref q1]) ⟨hx, hb, hml, hown, hts⟩ (m_int_init l D cy q1 _ (nI k) ) (cwI 1 hts gJ6_valueOf_2dffe_J6_init_d00df rfl rfl rfl (hts (.initialized RJ6) (by decide +kernel)) (hts (.methodLink RJ6 199 yJ6_init_d00df) (by decide +kernel)) (hts (.instanceMethod yJ6_init_d00df) (by decide +kernel)) rfl (by decide +kernel) ⟨by decide, by decide⟩) hK hN hP hD hS hA rfl hl.1 rfl (Nat.le_of_ble_eq_true rfl) dJ6_valueOf_2dffe_28 ⟨Nat.le_of_ble_eq_true rfl, Nat.le_of_ble_eq_true rfl⟩ (fun H locs hB hJ hS => ?_)
  obtain ⟨hP1, hD1⟩ := hB
  obtain ⟨hP, hD⟩ := hJ _ hP1 hD1
  have hP : va_P D vwCl ([(q1, .inr (1, [.int (nI k)]))]) H := hP
  have hD : va_D A ([(q1, .inr (1, [.int (nI k)]))]) := hD
  refine W.widen (k := 1) (n := 1) (Nat.le_of_ble_eq_true rfl) (Nat.le_of_ble_eq_true rfl) ?_
  have hP9 := hP.sub (ws' := [(q1, .inr (1, [.int (nI k)]))]) [0] rfl
  have hD9 := hD.sub (ws' := [(q1, .inr (1, [.int (nI k)]))]) [0] (by decide) rfl
  exact W.aret hx hb hr (Or.inl ⟨_, rfl⟩) (Or.inr ⟨_, rfl⟩) (fun t ht hW => ⟨q1, rfl, ⟨by rw [ht]; exact hP9, hD9⟩, hS.F ht⟩) hS.2.2 dJ6_valueOf_2dffe_31

theorem iw_X10_init_RX10 : ∀ w ∈ u_ws RX10 TX10 16, w ∈ wsX10_init := by decide +kernel
set_option maxRecDepth 100000 in
set_option maxHeartbeats 4000000 in
theorem m_dev_init (l : Launch) (D : va_G) (cy : Nat → ClassId) (a1 : Nat) (sz : Nat) (q po pw ho ki : Int32) (hnq : narrow .char (.int q) = .int q) (hfq : fits .char (.int q) = true) (hno : narrow .boolean (.int ho) = .int ho) (hfo : fits .boolean (.int ho) = true) : ME l D cy ([(a1, .inr (15, [.int 0, .int 0, .int 0, .int 0, .int 0, .int 0, .int 0, .int 0, .int 0, .int 0, .int 0, .int 0, .int 0, .null, .null, .null]))]) sz yX10_init wsX10_init 1 3 12 12 [.ref a1, .int q, .int po, .int pw, .int ho, .int ki] none (fun H => ∃ (q1 q2 q3 : Nat) , va_P D vwCl ([(a1, .inr (15, [.int q, .int po, .int pw, .int ho, .int ki, .int pw, .int 117, .int (-1), .int 0, .int 0, .int (-1), .int 0, .int 0, .ref q1, .ref q2, .ref q3])), (q1, .inl (cy 8, 4, .inr (.inr (.inr (.inr (fun _ => none)))))), (q2, .inl (cy 1, 4, .inl (fun _ => 0))), (q3, .inl (cy 0, 4, .inl (fun _ => 0)))]) H ∧ va_D (va_A ([(a1, .inr (15, [.int 0, .int 0, .int 0, .int 0, .int 0, .int 0, .int 0, .int 0, .int 0, .int 0, .int 0, .int 0, .int 0, .null, .null, .null]))]) sz) ([(a1, .inr (15, [.int q, .int po, .int pw, .int ho, .int ki, .int pw, .int 117, .int (-1), .int 0, .int 0, .int (-1), .int 0, .int 0, .ref q1, .ref q2, .ref q3])), (q1, .inl (cy 8, 4, .inr (.inr (.inr (.inr (fun _ => none)))))), (q2, .inl (cy 1, 4, .inl (fun _ => 0))), (q3, .inl (cy 0, 4, .inl (fun _ => 0)))])) := by
  refine ro_ofW (cc := cX10_init) (maxL := 6) (ret := none) (lv := [(0, .ref a1), (1, .int q), (2, .int po), (3, .int pw), (4, .int ho), (5, .int ki)]) (by decide) rfl (Nat.le_of_ble_eq_true rfl) rfl ?_
  intro p e s m below meth c ls hx hb hr hml hown hlocks hname hts hv hl
  have hown : s.vm.findClass RX10 = some m.cls := hown
  obtain ⟨⟨hsz, hP, hD0⟩, hK, hN⟩ := hv
  subst hsz
  have hD := hD0.self (sz := s.heap.size)
  generalize hAe : va_A ([(a1, .inr (15, [.int 0, .int 0, .int 0, .int 0, .int 0, .int 0, .int 0, .int 0, .int 0, .int 0, .int 0, .int 0, .int 0, .null, .null, .null]))]) s.heap.size = A at hD ⊢
  have hA : ∀ q : Nat, s.heap.size ≤ q → A q := fun q h => by rw [← hAe]; exact Or.inr h
  have hS : va_S A s.heap s.heap [] := va_S.rf
  refine lv_aload_n hx hb dX10_init_0 rfl (lv_at hl 0 rfl) ?_
  refine W.objInit hx hb hown (hts (.methodLink RX10 3 objectInit) (by decide +kernel)) (hts (.instanceMethod objectInit) (by decide +kernel)) (hts (.code objectInit ⟨#[0xb1]⟩ 1 none) (by decide +kernel)) rfl (by rw [hml]; exact hl.1) rfl dX10_init_1 (Nat.le_of_ble_eq_true rfl) (Nat.le_of_ble_eq_true rfl) ?_
  refine W.eq (g2 := F0 m 4 ls []) rfl ?_
  refine lv_aload_n hx hb dX10_init_4 rfl (lv_at hl 0 rfl) ?_
  refine lv_bipush (v := 117) hx hb dX10_init_5 (by decide) ?_
  refine va_put (D := D) (ci := 15) (v := .int 117) (ty := .char) (C := RX10) (T := TX10) (N := 16) hx hb hts iw_X10_init_RX10 tyX10 tyX10_ok nmX10 hown hK hP hD hS 0 rfl rfl 6 (by decide) (hts (.fieldLink RX10 9 "HubcascadeModel$Device" "state" "C") (by decide +kernel)) (fun _ h9 => h9) rfl (by decide +kernel) (by decide) (by decide) (Nat.le_of_ble_eq_true rfl) dX10_init_7 (fun H locs hP hD hS => ?_)
  have hP : va_P D vwCl ([(a1, .inr (15, [.int 0, .int 0, .int 0, .int 0, .int 0, .int 0, .int 117, .int 0, .int 0, .int 0, .int 0, .int 0, .int 0, .null, .null, .null]))]) H := hP
  have hD : va_D A ([(a1, .inr (15, [.int 0, .int 0, .int 0, .int 0, .int 0, .int 0, .int 117, .int 0, .int 0, .int 0, .int 0, .int 0, .int 0, .null, .null, .null]))]) := hD
  refine lv_aload_n hx hb dX10_init_10 rfl (lv_at hl 0 rfl) ?_
  refine lv_iconst (v := (-1)) hx hb dX10_init_11 (by decide) ?_
  refine va_put (D := D) (ci := 15) (v := .int (-1)) (ty := .int) (C := RX10) (T := TX10) (N := 16) hx hb hts iw_X10_init_RX10 tyX10 tyX10_ok nmX10 hown hK hP hD hS 0 rfl rfl 7 (by decide) (hts (.fieldLink RX10 15 "HubcascadeModel$Device" "hub" "I") (by decide +kernel)) (fun _ h9 => h9) rfl (by decide +kernel) rfl rfl (Nat.le_of_ble_eq_true rfl) dX10_init_12 (fun H locs hP hD hS => ?_)
  have hP : va_P D vwCl ([(a1, .inr (15, [.int 0, .int 0, .int 0, .int 0, .int 0, .int 0, .int 117, .int (-1), .int 0, .int 0, .int 0, .int 0, .int 0, .null, .null, .null]))]) H := hP
  have hD : va_D A ([(a1, .inr (15, [.int 0, .int 0, .int 0, .int 0, .int 0, .int 0, .int 117, .int (-1), .int 0, .int 0, .int 0, .int 0, .int 0, .null, .null, .null]))]) := hD
  refine lv_aload_n hx hb dX10_init_15 rfl (lv_at hl 0 rfl) ?_
  refine lv_iconst (v := (-1)) hx hb dX10_init_16 (by decide) ?_
  refine va_put (D := D) (ci := 15) (v := .int (-1)) (ty := .int) (C := RX10) (T := TX10) (N := 16) hx hb hts iw_X10_init_RX10 tyX10 tyX10_ok nmX10 hown hK hP hD hS 0 rfl rfl 10 (by decide) (hts (.fieldLink RX10 19 "HubcascadeModel$Device" "driver" "I") (by decide +kernel)) (fun _ h9 => h9) rfl (by decide +kernel) rfl rfl (Nat.le_of_ble_eq_true rfl) dX10_init_17 (fun H locs hP hD hS => ?_)
  have hP : va_P D vwCl ([(a1, .inr (15, [.int 0, .int 0, .int 0, .int 0, .int 0, .int 0, .int 117, .int (-1), .int 0, .int 0, .int (-1), .int 0, .int 0, .null, .null, .null]))]) H := hP
  have hD : va_D A ([(a1, .inr (15, [.int 0, .int 0, .int 0, .int 0, .int 0, .int 0, .int 117, .int (-1), .int 0, .int 0, .int (-1), .int 0, .int 0, .null, .null, .null]))]) := hD
  refine lv_aload_n hx hb dX10_init_20 rfl (lv_at hl 0 rfl) ?_
  refine lv_iconst (v := 4) hx hb dX10_init_21 (by decide) ?_
  refine my_newq 8 (C := "HubcascadeModel$End") (k := 8) (N' := 4) hx hb hown (hts (.classLink RX10 22 RX11) (by decide +kernel)) hN (by decide +kernel) rfl hK hP hD hS hA (by decide) (by decide) (Nat.le_of_ble_eq_true rfl) (Nat.le_of_ble_eq_true rfl) (Nat.le_of_ble_eq_true rfl) dX10_init_22 (fun q1 H hP hD hS => ?_)
  have hP : va_P D vwCl ([(a1, .inr (15, [.int 0, .int 0, .int 0, .int 0, .int 0, .int 0, .int 117, .int (-1), .int 0, .int 0, .int (-1), .int 0, .int 0, .null, .null, .null])), (q1, .inl (cy 8, 4, .inr (.inr (.inr (.inr (fun _ => none))))))]) H := hP
  have hD : va_D A ([(a1, .inr (15, [.int 0, .int 0, .int 0, .int 0, .int 0, .int 0, .int 117, .int (-1), .int 0, .int 0, .int (-1), .int 0, .int 0, .null, .null, .null])), (q1, .inl (cy 8, 4, .inr (.inr (.inr (.inr (fun _ => none))))))]) := hD
  refine va_putF (D := D) (ci := 15) (v := .ref q1) (ty := .array (.object "HubcascadeModel$End")) (C := RX10) (T := TX10) (N := 16) hx hb hts iw_X10_init_RX10 tyX10 tyX10_ok nmX10 hown hK hP hD hS 0 rfl rfl 13 (by decide) (hts (.fieldLink RX10 24 "HubcascadeModel$Device" "ends" "[LHubcascadeModel$End;") (by decide +kernel)) (fun _ h9 => h9) rfl hname rfl (by decide +kernel) rfl rfl (Nat.le_of_ble_eq_true rfl) dX10_init_25 (fun H locs hP hD hS => ?_)
  have hP : va_P D vwCl ([(a1, .inr (15, [.int 0, .int 0, .int 0, .int 0, .int 0, .int 0, .int 117, .int (-1), .int 0, .int 0, .int (-1), .int 0, .int 0, .ref q1, .null, .null])), (q1, .inl (cy 8, 4, .inr (.inr (.inr (.inr (fun _ => none))))))]) H := hP
  have hD : va_D A ([(a1, .inr (15, [.int 0, .int 0, .int 0, .int 0, .int 0, .int 0, .int 117, .int (-1), .int 0, .int 0, .int (-1), .int 0, .int 0, .ref q1, .null, .null])), (q1, .inl (cy 8, 4, .inr (.inr (.inr (.inr (fun _ => none))))))]) := hD
  refine lv_aload_n hx hb dX10_init_28 rfl (lv_at hl 0 rfl) ?_
  refine lv_iconst (v := 4) hx hb dX10_init_29 (by decide) ?_
  refine my_newa 1 (atype := .char) (ty := .char) (k := 1) (a0 := (4, .inl (fun _ => 0))) (N' := 4) hx hb (hts (.arrayClass .char) (by decide +kernel)) rfl rfl (fun C z => by cases z) hK hP hD hS hA (fun _ => rfl) (by decide) (by decide) (Nat.le_of_ble_eq_true rfl) (Nat.le_of_ble_eq_true rfl) (Nat.le_of_ble_eq_true rfl) dX10_init_30 (fun q2 H hP hD hS => ?_)
  have hP : va_P D vwCl ([(a1, .inr (15, [.int 0, .int 0, .int 0, .int 0, .int 0, .int 0, .int 117, .int (-1), .int 0, .int 0, .int (-1), .int 0, .int 0, .ref q1, .null, .null])), (q1, .inl (cy 8, 4, .inr (.inr (.inr (.inr (fun _ => none)))))), (q2, .inl (cy 1, 4, .inl (fun _ => 0)))]) H := hP
  have hD : va_D A ([(a1, .inr (15, [.int 0, .int 0, .int 0, .int 0, .int 0, .int 0, .int 117, .int (-1), .int 0, .int 0, .int (-1), .int 0, .int 0, .ref q1, .null, .null])), (q1, .inl (cy 8, 4, .inr (.inr (.inr (.inr (fun _ => none)))))), (q2, .inl (cy 1, 4, .inl (fun _ => 0)))]) := hD
  refine va_putF (D := D) (ci := 15) (v := .ref q2) (ty := .array .char) (C := RX10) (T := TX10) (N := 16) hx hb hts iw_X10_init_RX10 tyX10 tyX10_ok nmX10 hown hK hP hD hS 0 rfl rfl 14 (by decide) (hts (.fieldLink RX10 28 "HubcascadeModel$Device" "faults" "[C") (by decide +kernel)) (fun _ h9 => h9) rfl hname rfl (by decide +kernel) rfl rfl (Nat.le_of_ble_eq_true rfl) dX10_init_32 (fun H locs hP hD hS => ?_)
  have hP : va_P D vwCl ([(a1, .inr (15, [.int 0, .int 0, .int 0, .int 0, .int 0, .int 0, .int 117, .int (-1), .int 0, .int 0, .int (-1), .int 0, .int 0, .ref q1, .ref q2, .null])), (q1, .inl (cy 8, 4, .inr (.inr (.inr (.inr (fun _ => none)))))), (q2, .inl (cy 1, 4, .inl (fun _ => 0)))]) H := hP
  have hD : va_D A ([(a1, .inr (15, [.int 0, .int 0, .int 0, .int 0, .int 0, .int 0, .int 117, .int (-1), .int 0, .int 0, .int (-1), .int 0, .int 0, .ref q1, .ref q2, .null])), (q1, .inl (cy 8, 4, .inr (.inr (.inr (.inr (fun _ => none)))))), (q2, .inl (cy 1, 4, .inl (fun _ => 0)))]) := hD
  refine lv_aload_n hx hb dX10_init_35 rfl (lv_at hl 0 rfl) ?_
  refine lv_iconst (v := 4) hx hb dX10_init_36 (by decide) ?_
  refine my_newa 0 (atype := .int) (ty := .int) (k := 0) (a0 := (4, .inl (fun _ => 0))) (N' := 4) hx hb (hts (.arrayClass .int) (by decide +kernel)) rfl rfl (fun C z => by cases z) hK hP hD hS hA (fun _ => rfl) (by decide) (by decide) (Nat.le_of_ble_eq_true rfl) (Nat.le_of_ble_eq_true rfl) (Nat.le_of_ble_eq_true rfl) dX10_init_37 (fun q3 H hP hD hS => ?_)
  have hP : va_P D vwCl ([(a1, .inr (15, [.int 0, .int 0, .int 0, .int 0, .int 0, .int 0, .int 117, .int (-1), .int 0, .int 0, .int (-1), .int 0, .int 0, .ref q1, .ref q2, .null])), (q1, .inl (cy 8, 4, .inr (.inr (.inr (.inr (fun _ => none)))))), (q2, .inl (cy 1, 4, .inl (fun _ => 0))), (q3, .inl (cy 0, 4, .inl (fun _ => 0)))]) H := hP
  have hD : va_D A ([(a1, .inr (15, [.int 0, .int 0, .int 0, .int 0, .int 0, .int 0, .int 117, .int (-1), .int 0, .int 0, .int (-1), .int 0, .int 0, .ref q1, .ref q2, .null])), (q1, .inl (cy 8, 4, .inr (.inr (.inr (.inr (fun _ => none)))))), (q2, .inl (cy 1, 4, .inl (fun _ => 0))), (q3, .inl (cy 0, 4, .inl (fun _ => 0)))]) := hD
  refine va_putF (D := D) (ci := 15) (v := .ref q3) (ty := .array .int) (C := RX10) (T := TX10) (N := 16) hx hb hts iw_X10_init_RX10 tyX10 tyX10_ok nmX10 hown hK hP hD hS 0 rfl rfl 15 (by decide) (hts (.fieldLink RX10 32 "HubcascadeModel$Device" "left" "[I") (by decide +kernel)) (fun _ h9 => h9) rfl hname rfl (by decide +kernel) rfl rfl (Nat.le_of_ble_eq_true rfl) dX10_init_39 (fun H locs hP hD hS => ?_)
  have hP : va_P D vwCl ([(a1, .inr (15, [.int 0, .int 0, .int 0, .int 0, .int 0, .int 0, .int 117, .int (-1), .int 0, .int 0, .int (-1), .int 0, .int 0, .ref q1, .ref q2, .ref q3])), (q1, .inl (cy 8, 4, .inr (.inr (.inr (.inr (fun _ => none)))))), (q2, .inl (cy 1, 4, .inl (fun _ => 0))), (q3, .inl (cy 0, 4, .inl (fun _ => 0)))]) H := hP
  have hD : va_D A ([(a1, .inr (15, [.int 0, .int 0, .int 0, .int 0, .int 0, .int 0, .int 117, .int (-1), .int 0, .int 0, .int (-1), .int 0, .int 0, .ref q1, .ref q2, .ref q3])), (q1, .inl (cy 8, 4, .inr (.inr (.inr (.inr (fun _ => none)))))), (q2, .inl (cy 1, 4, .inl (fun _ => 0))), (q3, .inl (cy 0, 4, .inl (fun _ => 0)))]) := hD
  refine lv_aload_n hx hb dX10_init_42 rfl (lv_at hl 0 rfl) ?_
  refine lv_iload_n hx hb dX10_init_43 rfl (lv_at hl 1 rfl) ?_
  refine va_putF (D := D) (ci := 15) (v := .int q) (ty := .char) (C := RX10) (T := TX10) (N := 16) hx hb hts iw_X10_init_RX10 tyX10 tyX10_ok nmX10 hown hK hP hD hS 0 rfl rfl 0 (by decide) (hts (.fieldLink RX10 36 "HubcascadeModel$Device" "speed" "C") (by decide +kernel)) (fun _ h9 => h9) rfl hname rfl (by decide +kernel) hnq hfq (Nat.le_of_ble_eq_true rfl) dX10_init_44 (fun H locs hP hD hS => ?_)
  have hP : va_P D vwCl ([(a1, .inr (15, [.int q, .int 0, .int 0, .int 0, .int 0, .int 0, .int 117, .int (-1), .int 0, .int 0, .int (-1), .int 0, .int 0, .ref q1, .ref q2, .ref q3])), (q1, .inl (cy 8, 4, .inr (.inr (.inr (.inr (fun _ => none)))))), (q2, .inl (cy 1, 4, .inl (fun _ => 0))), (q3, .inl (cy 0, 4, .inl (fun _ => 0)))]) H := hP
  have hD : va_D A ([(a1, .inr (15, [.int q, .int 0, .int 0, .int 0, .int 0, .int 0, .int 117, .int (-1), .int 0, .int 0, .int (-1), .int 0, .int 0, .ref q1, .ref q2, .ref q3])), (q1, .inl (cy 8, 4, .inr (.inr (.inr (.inr (fun _ => none)))))), (q2, .inl (cy 1, 4, .inl (fun _ => 0))), (q3, .inl (cy 0, 4, .inl (fun _ => 0)))]) := hD
  refine lv_aload_n hx hb dX10_init_47 rfl (lv_at hl 0 rfl) ?_
  refine lv_iload_n hx hb dX10_init_48 rfl (lv_at hl 2 rfl) ?_
  refine va_putF (D := D) (ci := 15) (v := .int po) (ty := .int) (C := RX10) (T := TX10) (N := 16) hx hb hts iw_X10_init_RX10 tyX10 tyX10_ok nmX10 hown hK hP hD hS 0 rfl rfl 1 (by decide) (hts (.fieldLink RX10 39 "HubcascadeModel$Device" "ports" "I") (by decide +kernel)) (fun _ h9 => h9) rfl hname rfl (by decide +kernel) rfl rfl (Nat.le_of_ble_eq_true rfl) dX10_init_49 (fun H locs hP hD hS => ?_)
  have hP : va_P D vwCl ([(a1, .inr (15, [.int q, .int po, .int 0, .int 0, .int 0, .int 0, .int 117, .int (-1), .int 0, .int 0, .int (-1), .int 0, .int 0, .ref q1, .ref q2, .ref q3])), (q1, .inl (cy 8, 4, .inr (.inr (.inr (.inr (fun _ => none)))))), (q2, .inl (cy 1, 4, .inl (fun _ => 0))), (q3, .inl (cy 0, 4, .inl (fun _ => 0)))]) H := hP
  have hD : va_D A ([(a1, .inr (15, [.int q, .int po, .int 0, .int 0, .int 0, .int 0, .int 117, .int (-1), .int 0, .int 0, .int (-1), .int 0, .int 0, .ref q1, .ref q2, .ref q3])), (q1, .inl (cy 8, 4, .inr (.inr (.inr (.inr (fun _ => none)))))), (q2, .inl (cy 1, 4, .inl (fun _ => 0))), (q3, .inl (cy 0, 4, .inl (fun _ => 0)))]) := hD
  refine lv_aload_n hx hb dX10_init_52 rfl (lv_at hl 0 rfl) ?_
  refine lv_iload_n hx hb dX10_init_53 rfl (lv_at hl 3 rfl) ?_
  refine va_putF (D := D) (ci := 15) (v := .int pw) (ty := .int) (C := RX10) (T := TX10) (N := 16) hx hb hts iw_X10_init_RX10 tyX10 tyX10_ok nmX10 hown hK hP hD hS 0 rfl rfl 2 (by decide) (hts (.fieldLink RX10 42 "HubcascadeModel$Device" "power" "I") (by decide +kernel)) (fun _ h9 => h9) rfl hname rfl (by decide +kernel) rfl rfl (Nat.le_of_ble_eq_true rfl) dX10_init_54 (fun H locs hP hD hS => ?_)
  have hP : va_P D vwCl ([(a1, .inr (15, [.int q, .int po, .int pw, .int 0, .int 0, .int 0, .int 117, .int (-1), .int 0, .int 0, .int (-1), .int 0, .int 0, .ref q1, .ref q2, .ref q3])), (q1, .inl (cy 8, 4, .inr (.inr (.inr (.inr (fun _ => none)))))), (q2, .inl (cy 1, 4, .inl (fun _ => 0))), (q3, .inl (cy 0, 4, .inl (fun _ => 0)))]) H := hP
  have hD : va_D A ([(a1, .inr (15, [.int q, .int po, .int pw, .int 0, .int 0, .int 0, .int 117, .int (-1), .int 0, .int 0, .int (-1), .int 0, .int 0, .ref q1, .ref q2, .ref q3])), (q1, .inl (cy 8, 4, .inr (.inr (.inr (.inr (fun _ => none)))))), (q2, .inl (cy 1, 4, .inl (fun _ => 0))), (q3, .inl (cy 0, 4, .inl (fun _ => 0)))]) := hD
  refine lv_aload_n hx hb dX10_init_57 rfl (lv_at hl 0 rfl) ?_
  refine lv_iload hx hb dX10_init_58 (lv_at hl 4 rfl) ?_
  refine va_putF (D := D) (ci := 15) (v := .int ho) (ty := .boolean) (C := RX10) (T := TX10) (N := 16) hx hb hts iw_X10_init_RX10 tyX10 tyX10_ok nmX10 hown hK hP hD hS 0 rfl rfl 3 (by decide) (hts (.fieldLink RX10 45 "HubcascadeModel$Device" "hasOwn" "Z") (by decide +kernel)) (fun _ h9 => h9) rfl hname rfl (by decide +kernel) hno hfo (Nat.le_of_ble_eq_true rfl) dX10_init_60 (fun H locs hP hD hS => ?_)
  have hP : va_P D vwCl ([(a1, .inr (15, [.int q, .int po, .int pw, .int ho, .int 0, .int 0, .int 117, .int (-1), .int 0, .int 0, .int (-1), .int 0, .int 0, .ref q1, .ref q2, .ref q3])), (q1, .inl (cy 8, 4, .inr (.inr (.inr (.inr (fun _ => none)))))), (q2, .inl (cy 1, 4, .inl (fun _ => 0))), (q3, .inl (cy 0, 4, .inl (fun _ => 0)))]) H := hP
  have hD : va_D A ([(a1, .inr (15, [.int q, .int po, .int pw, .int ho, .int 0, .int 0, .int 117, .int (-1), .int 0, .int 0, .int (-1), .int 0, .int 0, .ref q1, .ref q2, .ref q3])), (q1, .inl (cy 8, 4, .inr (.inr (.inr (.inr (fun _ => none)))))), (q2, .inl (cy 1, 4, .inl (fun _ => 0))), (q3, .inl (cy 0, 4, .inl (fun _ => 0)))]) := hD
  refine lv_aload_n hx hb dX10_init_63 rfl (lv_at hl 0 rfl) ?_
  refine lv_iload hx hb dX10_init_64 (lv_at hl 5 rfl) ?_
  refine va_putF (D := D) (ci := 15) (v := .int ki) (ty := .int) (C := RX10) (T := TX10) (N := 16) hx hb hts iw_X10_init_RX10 tyX10 tyX10_ok nmX10 hown hK hP hD hS 0 rfl rfl 4 (by decide) (hts (.fieldLink RX10 49 "HubcascadeModel$Device" "kind" "I") (by decide +kernel)) (fun _ h9 => h9) rfl hname rfl (by decide +kernel) rfl rfl (Nat.le_of_ble_eq_true rfl) dX10_init_66 (fun H locs hP hD hS => ?_)
  have hP : va_P D vwCl ([(a1, .inr (15, [.int q, .int po, .int pw, .int ho, .int ki, .int 0, .int 117, .int (-1), .int 0, .int 0, .int (-1), .int 0, .int 0, .ref q1, .ref q2, .ref q3])), (q1, .inl (cy 8, 4, .inr (.inr (.inr (.inr (fun _ => none)))))), (q2, .inl (cy 1, 4, .inl (fun _ => 0))), (q3, .inl (cy 0, 4, .inl (fun _ => 0)))]) H := hP
  have hD : va_D A ([(a1, .inr (15, [.int q, .int po, .int pw, .int ho, .int ki, .int 0, .int 117, .int (-1), .int 0, .int 0, .int (-1), .int 0, .int 0, .ref q1, .ref q2, .ref q3])), (q1, .inl (cy 8, 4, .inr (.inr (.inr (.inr (fun _ => none)))))), (q2, .inl (cy 1, 4, .inl (fun _ => 0))), (q3, .inl (cy 0, 4, .inl (fun _ => 0)))]) := hD
  refine lv_aload_n hx hb dX10_init_69 rfl (lv_at hl 0 rfl) ?_
  refine lv_iload_n hx hb dX10_init_70 rfl (lv_at hl 3 rfl) ?_
  refine va_put (D := D) (ci := 15) (v := .int pw) (ty := .int) (C := RX10) (T := TX10) (N := 16) hx hb hts iw_X10_init_RX10 tyX10 tyX10_ok nmX10 hown hK hP hD hS 0 rfl rfl 5 (by decide) (hts (.fieldLink RX10 52 "HubcascadeModel$Device" "draw" "I") (by decide +kernel)) (fun _ h9 => h9) rfl (by decide +kernel) rfl rfl (Nat.le_of_ble_eq_true rfl) dX10_init_71 (fun H locs hP hD hS => ?_)
  have hP : va_P D vwCl ([(a1, .inr (15, [.int q, .int po, .int pw, .int ho, .int ki, .int pw, .int 117, .int (-1), .int 0, .int 0, .int (-1), .int 0, .int 0, .ref q1, .ref q2, .ref q3])), (q1, .inl (cy 8, 4, .inr (.inr (.inr (.inr (fun _ => none)))))), (q2, .inl (cy 1, 4, .inl (fun _ => 0))), (q3, .inl (cy 0, 4, .inl (fun _ => 0)))]) H := hP
  have hD : va_D A ([(a1, .inr (15, [.int q, .int po, .int pw, .int ho, .int ki, .int pw, .int 117, .int (-1), .int 0, .int 0, .int (-1), .int 0, .int 0, .ref q1, .ref q2, .ref q3])), (q1, .inl (cy 8, 4, .inr (.inr (.inr (.inr (fun _ => none)))))), (q2, .inl (cy 1, 4, .inl (fun _ => 0))), (q3, .inl (cy 0, 4, .inl (fun _ => 0)))]) := hD
  refine W.widen (k := 3) (n := 12) (Nat.le_of_ble_eq_true rfl) (Nat.le_of_ble_eq_true rfl) ?_
  have hP9 := hP.sub (ws' := [(a1, .inr (15, [.int q, .int po, .int pw, .int ho, .int ki, .int pw, .int 117, .int (-1), .int 0, .int 0, .int (-1), .int 0, .int 0, .ref q1, .ref q2, .ref q3])), (q1, .inl (cy 8, 4, .inr (.inr (.inr (.inr (fun _ => none)))))), (q2, .inl (cy 1, 4, .inl (fun _ => 0))), (q3, .inl (cy 0, 4, .inl (fun _ => 0)))]) [0, 1, 2, 3] rfl
  have hD9 := hD.sub (ws' := [(a1, .inr (15, [.int q, .int po, .int pw, .int ho, .int ki, .int pw, .int 117, .int (-1), .int 0, .int 0, .int (-1), .int 0, .int 0, .ref q1, .ref q2, .ref q3])), (q1, .inl (cy 8, 4, .inr (.inr (.inr (.inr (fun _ => none)))))), (q2, .inl (cy 1, 4, .inl (fun _ => 0))), (q3, .inl (cy 0, 4, .inl (fun _ => 0)))]) [0, 1, 2, 3] (by decide) rfl
  exact W.vret hx hb hr (fun t ht hW => ⟨rfl, ⟨q1, q2, q3, by rw [ht]; exact hP9, hD9⟩, hS.F ht⟩) hS.2.2 dX10_init_74

set_option maxRecDepth 100000 in
set_option maxHeartbeats 4000000 in
theorem m_addb (l : Launch) (D : va_G) (cy : Nat → ClassId) {ca : Nat} {ia : Nat → Nat} {eda : Nat} (a1 e2 r0 v : Nat) (sz : Nat) (mc : Int32) (fs : List Value) : MJ l D cy eda ca ia ([(a1, .inr (4, [.int mc, .ref e2, .int 1])), (e2, .inl (cy 10, 10, .inr (.inr (.inr (.inr (va_up (fun _ => none) 0 (some r0))))))), (v, .inr (15, fs))]) sz yJx4a65c_add_72be8 wsJx4a65c_add_72be8 0 0 0 0 [.ref a1, .ref v, .ref e2, .int 1] none (fun H => va_P D vwCl ([(a1, .inr (4, [.int mc, .ref e2, .int 2])), (e2, .inl (cy 10, 10, .inr (.inr (.inr (.inr (va_up (va_up (fun _ => none) 0 (some r0)) 1 (some v))))))), (v, .inr (15, fs))]) H ∧ va_D (va_A ([(a1, .inr (4, [.int mc, .ref e2, .int 1])), (e2, .inl (cy 10, 10, .inr (.inr (.inr (.inr (va_up (fun _ => none) 0 (some r0))))))), (v, .inr (15, fs))]) sz) ([(a1, .inr (4, [.int mc, .ref e2, .int 2])), (e2, .inl (cy 10, 10, .inr (.inr (.inr (.inr (va_up (va_up (fun _ => none) 0 (some r0)) 1 (some v))))))), (v, .inr (15, fs))])) := by
  refine ro_ofW (cc := cJx4a65c_add_72be8) (maxL := 4) (ret := none) (lv := [(0, .ref a1), (1, .ref v), (2, .ref e2), (3, .int 1)]) (by decide) rfl (Nat.le_of_ble_eq_true rfl) rfl ?_
  intro p e s m below meth c ls hx hb hr hml hown hlocks hname hts hv hl
  have hown : s.vm.findClass RJx4a65c = some m.cls := hown
  obtain ⟨⟨⟨hsz, hP, hD0⟩, hK, hN⟩, hJS⟩ := hv
  subst hsz
  have hD := hD0.self (sz := s.heap.size)
  generalize hAe : va_A ([(a1, .inr (4, [.int mc, .ref e2, .int 1])), (e2, .inl (cy 10, 10, .inr (.inr (.inr (.inr (va_up (fun _ => none) 0 (some r0))))))), (v, .inr (15, fs))]) s.heap.size = A at hD hJS ⊢
  have hA : ∀ q : Nat, s.heap.size ≤ q → A q := fun q h => by rw [← hAe]; exact Or.inr h
  have hS : va_S A s.heap s.heap [] := va_S.rf
  refine lv_iload_n hx hb dJx4a65c_add_72be8_0 rfl (lv_at hl 3 rfl) ?_
  refine lv_aload_n hx hb dJx4a65c_add_72be8_1 rfl (lv_at hl 2 rfl) ?_
  refine va_alen (v := 10) hx hb hK hP 1 10 rfl rfl rfl dJx4a65c_add_72be8_2 ?_
  refine lv_icmp_ne (tgt := 11) hx hb dJx4a65c_add_72be8_3 (by decide) (fun _ => ?_) (fun c => absurd c (by decide))
  refine lv_aload_n hx hb dJx4a65c_add_72be8_11 rfl (lv_at hl 2 rfl) ?_
  refine lv_iload_n hx hb dJx4a65c_add_72be8_12 rfl (lv_at hl 3 rfl) ?_
  refine lv_aload_n hx hb dJx4a65c_add_72be8_13 rfl (lv_at hl 1 rfl) ?_
  refine vb_astq hx hb hK hP hD hS 1 10 rfl rfl (va_recv hK hP (ci := 15) (q0 := 2) rfl rfl) (vb_asgC (hN.2.2 ("HubcascadeModel$Device", "java/lang/Object") (by decide +kernel))) (by unfold vp_in; decide) dJx4a65c_add_72be8_14 (fun H locs hP hD hS => ?_)
  have hP : va_P D vwCl ([(a1, .inr (4, [.int mc, .ref e2, .int 1])), (e2, .inl (cy 10, 10, .inr (.inr (.inr (.inr (va_up (va_up (fun _ => none) 0 (some r0)) 1 (some v))))))), (v, .inr (15, fs))]) H := hP
  have hD : va_D A ([(a1, .inr (4, [.int mc, .ref e2, .int 1])), (e2, .inl (cy 10, 10, .inr (.inr (.inr (.inr (va_up (va_up (fun _ => none) 0 (some r0)) 1 (some v))))))), (v, .inr (15, fs))]) := hD
  refine lv_aload_n hx hb dJx4a65c_add_72be8_15 rfl (lv_at hl 0 rfl) ?_
  refine lv_iload_n hx hb dJx4a65c_add_72be8_16 rfl (lv_at hl 3 rfl) ?_
  refine lv_iconst (v := 1) hx hb dJx4a65c_add_72be8_17 (by decide) ?_
  refine lv_iadd hx hb dJx4a65c_add_72be8_18 ?_
  refine lv_topi (fun y ey => ?_)
  obtain rfl : y = 2 := ey.trans (by decide)
  refine va_put (D := D) (ci := 4) (v := .int 2) (ty := .int) (C := RJx4a65c) (T := TJx4a65c) (N := 3) hx hb hts iw_Jx4a65c_add_72be8_RJx4a65c tyJx4a65c tyJx4a65c_ok nmJx4a65c hown hK hP hD hS 0 rfl rfl 2 (by decide) (hts (.fieldLink RJx4a65c 48 "java/util/ArrayList" "size" "I") (by decide +kernel)) (fun _ h9 => h9) rfl (by decide +kernel) rfl rfl (Nat.le_of_ble_eq_true rfl) dJx4a65c_add_72be8_19 (fun H locs hP hD hS => ?_)
  have hP : va_P D vwCl ([(a1, .inr (4, [.int mc, .ref e2, .int 2])), (e2, .inl (cy 10, 10, .inr (.inr (.inr (.inr (va_up (va_up (fun _ => none) 0 (some r0)) 1 (some v))))))), (v, .inr (15, fs))]) H := hP
  have hD : va_D A ([(a1, .inr (4, [.int mc, .ref e2, .int 2])), (e2, .inl (cy 10, 10, .inr (.inr (.inr (.inr (va_up (va_up (fun _ => none) 0 (some r0)) 1 (some v))))))), (v, .inr (15, fs))]) := hD
  refine W.widen (k := 0) (n := 0) (Nat.le_of_ble_eq_true rfl) (Nat.le_of_ble_eq_true rfl) ?_
  have hP9 := hP.sub (ws' := [(a1, .inr (4, [.int mc, .ref e2, .int 2])), (e2, .inl (cy 10, 10, .inr (.inr (.inr (.inr (va_up (va_up (fun _ => none) 0 (some r0)) 1 (some v))))))), (v, .inr (15, fs))]) [0, 1, 2] rfl
  have hD9 := hD.sub (ws' := [(a1, .inr (4, [.int mc, .ref e2, .int 2])), (e2, .inl (cy 10, 10, .inr (.inr (.inr (.inr (va_up (va_up (fun _ => none) 0 (some r0)) 1 (some v))))))), (v, .inr (15, fs))]) [0, 1, 2] (by decide) rfl
  exact W.vret hx hb hr (fun t ht hW => ⟨rfl, ⟨by rw [ht]; exact hP9, hD9⟩, hS.F ht⟩) hS.2.2 dJx4a65c_add_72be8_22

set_option maxRecDepth 100000 in
set_option maxHeartbeats 4000000 in
theorem m_addm (l : Launch) (D : va_G) (cy : Nat → ClassId) {ca : Nat} {ia : Nat → Nat} {eda : Nat} (a1 e2 r0 v : Nat) (sz : Nat) (mc : Int32) (fs : List Value) : MJ l D cy eda ca ia ([(a1, .inr (4, [.int mc, .ref e2, .int 1])), (e2, .inl (cy 10, 10, .inr (.inr (.inr (.inr (va_up (fun _ => none) 0 (some r0))))))), (v, .inr (15, fs))]) sz yJx4a65c_add_9ea2d wsJx4a65c_add_9ea2d 1 0 0 23 [.ref a1, .ref v] (some (.int 1)) (fun H => va_P D vwCl ([(a1, .inr (4, [.int (mc + 1), .ref e2, .int 2])), (e2, .inl (cy 10, 10, .inr (.inr (.inr (.inr (va_up (va_up (fun _ => none) 0 (some r0)) 1 (some v))))))), (v, .inr (15, fs))]) H ∧ va_D (va_A ([(a1, .inr (4, [.int mc, .ref e2, .int 1])), (e2, .inl (cy 10, 10, .inr (.inr (.inr (.inr (va_up (fun _ => none) 0 (some r0))))))), (v, .inr (15, fs))]) sz) ([(a1, .inr (4, [.int (mc + 1), .ref e2, .int 2])), (e2, .inl (cy 10, 10, .inr (.inr (.inr (.inr (va_up (va_up (fun _ => none) 0 (some r0)) 1 (some v))))))), (v, .inr (15, fs))])) := by
  refine ro_ofW (cc := cJx4a65c_add_9ea2d) (maxL := 2) (ret := (some .boolean)) (lv := [(0, .ref a1), (1, .ref v)]) (by decide) rfl (Nat.le_of_ble_eq_true rfl) rfl ?_
  intro p e s m below meth c ls hx hb hr hml hown hlocks hname hts hv hl
  have hown : s.vm.findClass RJx4a65c = some m.cls := hown
  obtain ⟨⟨⟨hsz, hP, hD0⟩, hK, hN⟩, hJS⟩ := hv
  subst hsz
  have hD := hD0.self (sz := s.heap.size)
  generalize hAe : va_A ([(a1, .inr (4, [.int mc, .ref e2, .int 1])), (e2, .inl (cy 10, 10, .inr (.inr (.inr (.inr (va_up (fun _ => none) 0 (some r0))))))), (v, .inr (15, fs))]) s.heap.size = A at hD hJS ⊢
  have hA : ∀ q : Nat, s.heap.size ≤ q → A q := fun q h => by rw [← hAe]; exact Or.inr h
  have hS : va_S A s.heap s.heap [] := va_S.rf
  refine lv_aload_n hx hb dJx4a65c_add_9ea2d_0 rfl (lv_at hl 0 rfl) ?_
  refine lv_dup hx hb dJx4a65c_add_9ea2d_1 rfl ?_
  refine va_get (D := D) (ci := 4) (v := .int mc) (C := RJx4a65c) (T := TJx4a65c) (N := 3) hx hb hts iw_Jx4a65c_add_9ea2d_RJx4a65c hown hK hP 0 rfl rfl 0 (by decide) (hts (.fieldLink RJx4a65c 63 "java/util/ArrayList" "modCount" "I") (by decide +kernel)) (fun x9 h9 => u_same (hts (.sameField "java/util/ArrayList" "java/util/AbstractList" "modCount" "I") (by decide +kernel)) x9 h9) rfl dJx4a65c_add_9ea2d_2 ?_
  refine lv_iconst (v := 1) hx hb dJx4a65c_add_9ea2d_5 (by decide) ?_
  refine lv_iadd hx hb dJx4a65c_add_9ea2d_6 ?_
  refine lv_topi (fun y ey => ?_)
  obtain rfl : y = mc + 1 := ey.trans rfl
  refine va_put (D := D) (ci := 4) (v := .int (mc + 1)) (ty := .int) (C := RJx4a65c) (T := TJx4a65c) (N := 3) hx hb hts iw_Jx4a65c_add_9ea2d_RJx4a65c tyJx4a65c tyJx4a65c_ok nmJx4a65c hown hK hP hD hS 0 rfl rfl 0 (by decide) (hts (.fieldLink RJx4a65c 63 "java/util/ArrayList" "modCount" "I") (by decide +kernel)) (fun x9 h9 => u_same (hts (.sameField "java/util/ArrayList" "java/util/AbstractList" "modCount" "I") (by decide +kernel)) x9 h9) rfl (by decide +kernel) rfl rfl (Nat.le_of_ble_eq_true rfl) dJx4a65c_add_9ea2d_7 (fun H locs hP hD hS => ?_)
  have hP : va_P D vwCl ([(a1, .inr (4, [.int (mc + 1), .ref e2, .int 1])), (e2, .inl (cy 10, 10, .inr (.inr (.inr (.inr (va_up (fun _ => none) 0 (some r0))))))), (v, .inr (15, fs))]) H := hP
  have hD : va_D A ([(a1, .inr (4, [.int (mc + 1), .ref e2, .int 1])), (e2, .inl (cy 10, 10, .inr (.inr (.inr (.inr (va_up (fun _ => none) 0 (some r0))))))), (v, .inr (15, fs))]) := hD
  refine lv_aload_n hx hb dJx4a65c_add_9ea2d_10 rfl (lv_at hl 0 rfl) ?_
  refine lv_aload_n hx hb dJx4a65c_add_9ea2d_11 rfl (lv_at hl 1 rfl) ?_
  refine lv_aload_n hx hb dJx4a65c_add_9ea2d_12 rfl (lv_at hl 0 rfl) ?_
  refine va_get (D := D) (ci := 4) (v := .ref e2) (C := RJx4a65c) (T := TJx4a65c) (N := 3) hx hb hts iw_Jx4a65c_add_9ea2d_RJx4a65c hown hK hP 0 rfl rfl 1 (by decide) (hts (.fieldLink RJx4a65c 9 "java/util/ArrayList" "elementData" "[Ljava/lang/Object;") (by decide +kernel)) (fun _ h9 => h9) rfl dJx4a65c_add_9ea2d_13 ?_
  refine lv_aload_n hx hb dJx4a65c_add_9ea2d_16 rfl (lv_at hl 0 rfl) ?_
  refine va_get (D := D) (ci := 4) (v := .int 1) (C := RJx4a65c) (T := TJx4a65c) (N := 3) hx hb hts iw_Jx4a65c_add_9ea2d_RJx4a65c hown hK hP 0 rfl rfl 2 (by decide) (hts (.fieldLink RJx4a65c 48 "java/util/ArrayList" "size" "I") (by decide +kernel)) (fun _ h9 => h9) rfl dJx4a65c_add_9ea2d_17 ?_
  refine mj_callV (wr := []) (wc := [(a1, .inr (4, [.int (mc + 1), .ref e2, .int 1])), (e2, .inl (cy 10, 10, .inr (.inr (.inr (.inr (va_up (fun _ => none) 0 (some r0))))))), (v, .inr (15, fs))]) (As := [.ref v, .ref e2, .int 1]) (rest := []) ⟨hx, hb, hml, hown, hts⟩ (m_addb l D cy a1 e2 r0 v _ (mc + 1) fs ) (cwV 3 hts gJx4a65c_add_9ea2d_Jx4a65c_add_72be8 rfl rfl rfl (by decide +kernel) ⟨by decide, by decide⟩) hK hN hP hD hS hA hJS (ci := 4) (q0 := 0) rfl rfl rfl rfl hl.1 rfl (Nat.le_of_ble_eq_true rfl) dJx4a65c_add_9ea2d_20 ⟨Nat.le_of_ble_eq_true rfl, Nat.le_of_ble_eq_true rfl⟩ (fun H locs hB hJ hS => ?_)
  obtain ⟨hP1, hD1⟩ := hB
  obtain ⟨hP, hD⟩ := hJ _ hP1 hD1
  have hP : va_P D vwCl ([(a1, .inr (4, [.int (mc + 1), .ref e2, .int 2])), (e2, .inl (cy 10, 10, .inr (.inr (.inr (.inr (va_up (va_up (fun _ => none) 0 (some r0)) 1 (some v))))))), (v, .inr (15, fs))]) H := hP
  have hD : va_D A ([(a1, .inr (4, [.int (mc + 1), .ref e2, .int 2])), (e2, .inl (cy 10, 10, .inr (.inr (.inr (.inr (va_up (va_up (fun _ => none) 0 (some r0)) 1 (some v))))))), (v, .inr (15, fs))]) := hD
  refine lv_iconst (v := 1) hx hb dJx4a65c_add_9ea2d_23 (by decide) ?_
  refine W.widen (k := 0) (n := 0) (Nat.le_of_ble_eq_true rfl) (Nat.le_of_ble_eq_true rfl) ?_
  have hP9 := hP.sub (ws' := [(a1, .inr (4, [.int (mc + 1), .ref e2, .int 2])), (e2, .inl (cy 10, 10, .inr (.inr (.inr (.inr (va_up (va_up (fun _ => none) 0 (some r0)) 1 (some v))))))), (v, .inr (15, fs))]) [0, 1, 2] rfl
  have hD9 := hD.sub (ws' := [(a1, .inr (4, [.int (mc + 1), .ref e2, .int 2])), (e2, .inl (cy 10, 10, .inr (.inr (.inr (.inr (va_up (va_up (fun _ => none) 0 (some r0)) 1 (some v))))))), (v, .inr (15, fs))]) [0, 1, 2] (by decide) rfl
  exact W.zret hx hb hr (by decide) (fun t ht hW => ⟨rfl, ⟨by rw [ht]; exact hP9, hD9⟩, hS.F ht⟩) hS.2.2 dJx4a65c_add_9ea2d_24
