section MYA
abbrev tyL (cy : Nat → ClassId) : List (ClassId × FieldType) := [(cy 0, .int), (cy 1, .char), (cy 2, .long), (cy 3, .double), (cy 4, .object "Hubcascade$Device"), (cy 5, .object "Hubcascade$Endpoint"), (cy 6, .object "Hubcascade$Pipe"), (cy 7, .object "Hubcascade$Transfer"), (cy 8, .object "HubcascadeModel$End"), (cy 9, .object "HubcascadeModel$Pipe"), (cy 10, .object "java/lang/Object"), (cy 11, .boolean)]
def isNest : Cond → Bool
  | .fieldLinkNest .. => true
  | .methodLinkNest .. => true
  | _ => false
theorem nest_warm {s U : State} {w : Cond} (hW : s.WarmedH U.vm) (hn : isNest w = true) (h : va_Nw w s) : va_Nw w U := by
  cases w <;> first | exact va_Nw.warmF hW h | exact va_Nw.warmM hW h | (simp [isNest] at hn)
theorem nest_tabs {w : Cond} (hn : isNest w = true) : w.onTables = true := by
  cases w <;> first | rfl | (simp [isNest] at hn)
theorem nestL_ok : ∀ w ∈ nestL, isNest w = true := by decide +kernel
/-- the links between nest mates -/
def aoL : List String := ["Hubcascade$Device", "Hubcascade$Endpoint", "Hubcascade$Pipe", "Hubcascade$Transfer", "HubcascadeModel$End", "HubcascadeModel$Pipe", "java/lang/Object"]
def castL : List (String × String) := [("HubcascadeModel$Device", "HubcascadeModel$Device"), ("HubcascadeModel$Device", "java/lang/Object"), ("java/lang/Integer", "java/lang/Object"), ("[I", "java/lang/Object"), ("HubcascadeModel$Transfer", "HubcascadeModel$Transfer"), ("HubcascadeModel$Transfer", "java/lang/Object"), ("java/lang/Integer", "java/lang/Integer")]
def NL (U : State) : Prop := (∀ w ∈ nestL, va_Nw w U) ∧ (∀ C ∈ aoL, va_AO C U) ∧ ∀ q ∈ castL, va_Nw (.castable q.1 q.2) U
theorem nl_warm {s U : State} (hW : s.WarmedH U.vm) (h : NL s) : NL U := ⟨fun w hw => nest_warm hW (nestL_ok w hw) (h.1 w hw), fun C hC => va_AO.moved hW.alike (h.2.1 C hC), fun q hq => va_Nw.warmC hW (h.2.2 q hq)⟩
theorem nl_same {u U : State} (hv : u.vm = U.vm) (h : NL u) : NL U := ⟨fun w hw => va_Nw.same (nest_tabs (nestL_ok w hw)) hv (h.1 w hw), fun C hC => va_AO.moved (hv ▸ Vm.Alike.refl u.vm) (h.2.1 C hC), fun q hq => va_Nw.same rfl hv (h.2.2 q hq)⟩
/-- a world that a reading method finds, and leaves -/
def PRO (D : va_G) (cy : Nat → ClassId) (w : va_W) : State → Prop := fun U => va_P D vwCl w U.heap ∧ va_K D vwCl (tyL cy) U ∧ NL U
def QO (v : Option Value) : Array Value → State → Outcome → State → Prop := fun _ st oc t => oc = .returned v ∧ va_F (fun _ => False) st t
/-- y reads the world w and answers v; nothing old is changed, nothing made -/
abbrev RO (l : Launch) (D : va_G) (cy : Nat → ClassId) (w : va_W) (y : MethodName) (WS : List Cond) (fr lo : Nat) (av : List Value) (v : Option Value) : Prop := Met l y WS { frames := fr, cells := 0, slots := 0, locals := lo } (va_Pc av (PRO D cy w)) (QO v) 0 0 (fun _ => False)
def excL : List String := ["java/lang/IndexOutOfBoundsException", "java/lang/IllegalArgumentException", "java/lang/IllegalStateException", "java/lang/UnsupportedOperationException", "java/util/NoSuchElementException", "java/lang/ArithmeticException"]
def supL : List String := ["java/lang/RuntimeException", "java/lang/Exception", "java/lang/Throwable"]
def strL : List (Nat × String) := [(94, "no such device can be made"), (99, "a hub is not low"), (103, "there are 16 devices"), (128, "no such endpoint can be made"), (141, "the device has it, or is plugged"), (156, "no such port"), (167, "it can't be plugged there"), (169, "it would be too deep"), (188, "it is not plugged"), (194, "it is in no hub"), (205, "no new device can be reached"), (229, "no such class or subclass"), (234, "there are 8 drivers"), (236, "no such draw"), (244, "it can't be put asleep"), (250, "it is not asleep"), (258, "not eleven bits"), (264, "not a byte"), (269, "16 bytes are typed"), (342, "no such frame"), (444, "there was no frame"), (453, "there is no event"), (462, "no event was taken"), (487, "no such thing is counted"), (506, "no transfer is over"), (528, "no such device"), (530, "not for the host's hub"), (532, "no such endpoint"), (539, "no such pipe is open"), (541, "no such byte is kept")]
/-- what a throw needs of the machine's own statics, texts and tables -/
def ST (U : State) : Prop := (vx_Zq Bundle.tN "UNASSIGNED_STACK" Bundle.steD (fun _ => False) U U.heap ∧ vx_Zq Bundle.tN "SUPPRESSED_SENTINEL" Bundle.listD (fun _ => False) U U.heap) ∧ (∀ q ∈ strL, ∃ sa : Nat, vk_R "Hubcascade" q.1 q.2 sa U) ∧ (∀ E ∈ excL, va_Nw (.castable E E) U) ∧ (∀ E ∈ supL, va_Nw (.declares (Bundle.initS E)) U) ∧ (∀ E ∈ excL, ∀ F ∈ excL, E ≠ F → va_Nc E F U)
def PTH (D : va_G) (cy : Nat → ClassId) (w : va_W) : State → Prop := fun U => PRO D cy w U ∧ ST U
def XE (E : String) : String → State → State → Prop := fun E' st t => E' = E ∧ va_F (fun _ => False) st t
/-- y reads the world w and throws an E -/
abbrev TH (l : Launch) (D : va_G) (cy : Nat → ClassId) (w : va_W) (y : MethodName) (WS : List Cond) (fr lo : Nat) (av : List Value) (E : String) : Prop := vx_Met l y WS { frames := fr, cells := 1, slots := 6, locals := lo } (va_Pc av (PTH D cy w)) (fun _ _ _ _ => False) (XE E) 1 6 (fun _ => False)
theorem st_at {s : State} {H : Heap} {locs : List Loc} (h : ST s) (hS : va_S (fun _ => False) s.heap H locs) : ∀ U : State, U.heap = H → s.WarmedH U.vm → ST U := by
  intro U hU hW
  obtain ⟨⟨h1, h2⟩, h3, h4, h5, h6⟩ := h
  refine ⟨⟨?_, ?_⟩, fun q hq => ?_, fun E hE => va_Nw.warmC hW (h4 E hE), fun E hE => va_Nw.warmD hW (h5 E hE), fun E hE F hF n => (h6 E hE F hF n).moved hW.alike⟩
  · rw [hU]; exact vx_Zq.moved hW.alike (h1.kept hS.2.1)
  · rw [hU]; exact vx_Zq.moved hW.alike (h2.kept hS.2.1)
  · obtain ⟨sa, hk⟩ := h3 q hq
    exact ⟨sa, vk_R.warm hW hk⟩
theorem st_blind {U : State} (g : JFrame) (mk : MethodId) (a : Array Value) (h : ST U) : ST (U.calling g mk a) := by
  obtain ⟨⟨h1, h2⟩, h3, h4, h5, h6⟩ := h
  refine ⟨⟨?_, ?_⟩, fun q hq => ?_, fun E hE => ?_, fun E hE => ?_, fun E hE F hF n => ?_⟩
  · exact vx_Zq.moved (u := U) (U := U.calling g mk a) (Vm.Alike.refl U.vm) h1
  · exact vx_Zq.moved (u := U) (U := U.calling g mk a) (Vm.Alike.refl U.vm) h2
  · obtain ⟨sa, hk⟩ := h3 q hq
    exact ⟨sa, vk_R.same (u := U) (U := U.calling g mk a) rfl hk⟩
  · exact va_Nw.same (u := U) (U := U.calling g mk a) rfl rfl (h4 E hE)
  · exact va_Nw.same (u := U) (U := U.calling g mk a) rfl rfl (h5 E hE)
  · exact (h6 E hE F hF n).moved (u := U) (U := U.calling g mk a) (Vm.Alike.refl U.vm)
theorem pro_blind {D : va_G} {cy : Nat → ClassId} {w : va_W} {av : List Value} : FrameBlind (va_Pc av (PRO D cy w)) := fun a U g mk q => ⟨q.1, q.2.1, va_K.moved (u := U) (U := U.calling g mk a) (Vm.Alike.refl U.vm) q.2.2.1, nl_same (u := U) (U := U.calling g mk a) rfl q.2.2.2⟩
theorem pth_blind {D : va_G} {cy : Nat → ClassId} {w : va_W} {av : List Value} : FrameBlind (va_Pc av (PTH D cy w)) := fun a U g mk q => ⟨q.1, ⟨q.2.1.1, va_K.moved (u := U) (U := U.calling g mk a) (Vm.Alike.refl U.vm) q.2.1.2.1, nl_same (u := U) (U := U.calling g mk a) rfl q.2.1.2.2⟩, st_blind g mk a q.2.2⟩
section MYB
variable {p : Program} {l : Launch} {e : Env} {R : Room} {s : State} {m : MethodId} {args : Array Value} {below : List Frame} {meth : Method} {c : Code} {H : Heap} {locs : List Loc} {cells slots : Nat} {Q : State → Prop}
variable {D : va_G} {cy : Nat → ClassId} {w : va_W}
theorem ro_ofW {y : MethodName} {WS WS' : List Cond} {rm : Room} {av : List Value} {Pre : State → Prop} {Qc : Array Value → State → Outcome → State → Prop} {mc ms : Nat} {free : Addr → Prop} {cc : ByteArray} {maxL : Nat} {ret : Option FieldType} {lv : List (Nat × Value)} (hy : plainName y.cls = true) (hw : WS = Cond.code y cc maxL ret :: WS') (hn : (lg_sl av).length ≤ maxL) (hlv : lv_args 0 av = lv)
    (body : ∀ (p : Program) (e : Env) (s : State) (m : MethodId) (below : List Frame) (meth : Method) (c : Code) (ls : Array Slot), p.tables.exec = Jvm.exec → c.code = cc → meth.sig.returnType = ret → c.maxLocals = maxL → s.vm.findClass y.cls = some m.cls → meth.locks = false → meth.name = y.name → (∀ w ∈ WS, w.before av.toArray s = true) → Pre s → lv_has ls maxL lv → W p l e rm s m av.toArray below meth c s.heap [] 0 0 (MQ below Qc av.toArray s mc ms free) (F0 m 0 ls [])) : Met l y WS rm (va_Pc av Pre) Qc mc ms free := by
  refine Met.ofW (cc := cc) (maxL := maxL) (ret := ret) hy hw ?_
  intro p e s m args below meth c s₁ B hml hv
  obtain ⟨rfl, hpre⟩ := hv
  have hl := lv_entry av (n := maxL) hn
  rw [lg_entry_eq]
  rw [hlv] at hl
  generalize (lg_sl av ++ List.replicate (maxL - (lg_sl av).length) Slot.unset).toArray = ls at hl ⊢
  exact body p e s m below meth c ls B.exec B.bytes B.returns hml (findClass_of_methodNamed B.named) B.notSynchronized ((name_of_methodNamed B.named B.method).1) (atoms_spec (ws := WS) B.pre) hpre hl
theorem th_ofW {y : MethodName} {WS WS' : List Cond} {rm : Room} {av : List Value} {Pre : State → Prop} {Qc : Array Value → State → Outcome → State → Prop} {XC : String → State → State → Prop} {mc ms : Nat} {free : Addr → Prop} {cc : ByteArray} {maxL : Nat} {ret : Option FieldType} {lv : List (Nat × Value)} (hy : plainName y.cls = true) (hw : WS = Cond.code y cc maxL ret :: WS') (hn : (lg_sl av).length ≤ maxL) (hlv : lv_args 0 av = lv)
    (body : ∀ (p : Program) (e : Env) (s : State) (m : MethodId) (below : List Frame) (meth : Method) (c : Code) (ls : Array Slot), p.tables.exec = Jvm.exec → c.code = cc → meth.sig.returnType = ret → c.maxLocals = maxL → s.vm.findClass y.cls = some m.cls → meth.locks = false → (∀ x ∈ c.exceptionTable.toList, False) → (∀ w ∈ WS, w.before av.toArray s = true) → Pre s → lv_has ls maxL lv → W p l e rm s m av.toArray below meth c s.heap [] 0 0 (vx_MQ below Qc XC av.toArray s mc ms free) (F0 m 0 ls [])) : vx_Met l y WS rm (va_Pc av Pre) Qc XC mc ms free := by
  refine vx_ofW (cc := cc) (maxL := maxL) (ret := ret) hy hw ?_
  intro p e s m args below meth c s₁ B hml ht hv
  obtain ⟨rfl, hpre⟩ := hv
  have hl := lv_entry av (n := maxL) hn
  rw [lg_entry_eq]
  rw [hlv] at hl
  generalize (lg_sl av ++ List.replicate (maxL - (lg_sl av).length) Slot.unset).toArray = ls at hl ⊢
  exact body p e s m below meth c ls B.exec B.bytes B.returns hml (findClass_of_methodNamed B.named) B.notSynchronized ht (atoms_spec (ws := WS) B.pre) hpre hl
theorem ro_pvV {C : String} {b ci q0 : Nat} {q9 : vw_C} {fs As : List Value} (hP : va_P D vwCl w H) (hK : va_K D vwCl (tyL cy) s) (hN : NL s) (hc : vwCl[ci]? = some q9) (he : w[q0]? = some (b, .inr (ci, fs))) (hC : q9.1 = C) : PreV s H C b (va_Pc (.ref b :: As) (PRO D cy w)) As :=
  ⟨pro_blind, hC ▸ va_recv hK hP hc he, fun U hU hW => ⟨rfl, by rw [hU]; exact hP, va_K.moved hW.alike hK, nl_warm hW hN⟩⟩
theorem ro_pvS {As : List Value} (hP : va_P D vwCl w H) (hK : va_K D vwCl (tyL cy) s) (hN : NL s) : PreS s H (va_Pc As (PRO D cy w)) As :=
  ⟨pro_blind, fun U hU hW => ⟨rfl, by rw [hU]; exact hP, va_K.moved hW.alike hK, nl_warm hW hN⟩⟩
theorem th_pvV {C : String} {b ci q0 : Nat} {q9 : vw_C} {fs As : List Value} (hP : va_P D vwCl w H) (hK : va_K D vwCl (tyL cy) s) (hN : NL s) (hT : ST s) (hS : va_S (fun _ => False) s.heap H locs) (hc : vwCl[ci]? = some q9) (he : w[q0]? = some (b, .inr (ci, fs))) (hC : q9.1 = C) : PreV s H C b (va_Pc (.ref b :: As) (PTH D cy w)) As :=
  ⟨pth_blind, hC ▸ va_recv hK hP hc he, fun U hU hW => ⟨rfl, ⟨by rw [hU]; exact hP, va_K.moved hW.alike hK, nl_warm hW hN⟩, st_at hT hS U hU hW⟩⟩
theorem th_pvS {As : List Value} (hP : va_P D vwCl w H) (hK : va_K D vwCl (tyL cy) s) (hN : NL s) (hT : ST s) (hS : va_S (fun _ => False) s.heap H locs) : PreS s H (va_Pc As (PTH D cy w)) As :=
  ⟨pth_blind, fun U hU hW => ⟨rfl, ⟨by rw [hU]; exact hP, va_K.moved hW.alike hK, nl_warm hW hN⟩, st_at hT hS U hU hW⟩⟩
variable {A0 : Nat → Prop} {H0 : Heap} {a : Array Value} {pc : Nat} {ls : Array Slot} {st0 rest As : List Value} {v : Option Value}
theorem ro_kk (hr : va_Run p l e R s m args below meth c H locs cells slots 0 0 (F0 m pc ls st0) rest (QO v a) (fun _ => False)) (hP : va_P D vwCl w H) (hS : va_S A0 H0 H locs)
    (kk : ∀ (H1 : Heap) (locs1 : List Loc), va_P D vwCl w H1 → va_S A0 H0 H1 locs1 → W p l e R s m args below meth c H1 locs1 cells slots Q (F0 m (pc + 3) ls (v.toList ++ rest))) : W p l e R s m args below meth c H locs cells slots Q (F0 m pc ls st0) := by
  intro T hT X
  obtain ⟨v', st₀, t, T', L, h0, X', hL, e1, e2, ⟨hv, hz, hk⟩, st⟩ := hr T hT X
  cases hv
  rw [h0] at hz hk
  have hk1 : ∀ q : Nat, q < H.size → T'.heap[q]? = H[q]? := fun q h1 => by rw [e1]; exact hk q h1 id
  obtain ⟨t2, a1, b1⟩ := kk T'.heap (locs ++ L) (hP.kept fun k q hq => hk1 q.1 (vx_lt hP hq))
    ⟨Nat.le_trans hS.1 (by rw [e1]; exact hz), fun q h1 h2 => by rw [hk1 q (Nat.lt_of_lt_of_le h1 hS.1)]; exact hS.2.1 q h1 h2, fun q hq => by
      rcases List.mem_append.mp hq with h | h
      · exact hS.2.2 q h
      · exact (hL q h).elim⟩ T' rfl X'
  exact ⟨t2, st t2 a1, b1⟩
variable {y : MethodName} {WS Ts : List Cond} {fr lo n index maxL nL : Nat} {own C E : String} {cc bytes : ByteArray} {ret : Option FieldType} {b ci q0 : Nat} {q9 : vw_C} {fs : List Value} {mc ms : Nat} {Qc : Array Value → State → Outcome → State → Prop}
theorem ro_callV (S : CallFix p m c cc nL s args Ts own) (hM : RO l D cy w y WS fr lo (.ref b :: As) v) (cw : CallW R s args own C index y bytes maxL ret WS { frames := fr, cells := 0, slots := 0, locals := lo } 0 0 n) (hK : va_K D vwCl (tyL cy) s) (hN : NL s) (hP : va_P D vwCl w H) (hS : va_S A0 H0 H locs) (hc : vwCl[ci]? = some q9) (he : w[q0]? = some (b, .inr (ci, fs))) (hC : q9.1 = C)
    (hn : As.length = n) (hsize : ls.size = nL) (hst : st0 = As.reverse ++ .ref b :: rest) (hW : (rest.map fun v => v.category).sum ≤ 8) (hdg : decode cc pc = .ok (.invokevirtual index, 3)) (hf : cells + 0 ≤ R.cells ∧ slots + 0 ≤ R.slots)
    (kk : ∀ (H1 : Heap) (locs1 : List Loc), va_P D vwCl w H1 → va_S A0 H0 H1 locs1 → W p l e R s m args below meth c H1 locs1 cells slots Q (F0 m (pc + 3) ls (v.toList ++ rest))) : W p l e R s m args below meth c H locs cells slots Q (F0 m pc ls st0) :=
  ro_kk (va_runV (g := F0 m pc ls st0) S hM cw (ro_pvV hP hK hN hc he hC) rfl hn hsize hst (lv_room hW) hdg hf) hP hS kk
theorem ro_callS (S : CallFix p m c cc nL s args Ts own) (hM : RO l D cy w y WS fr lo As v) (cw : CallB R s args own index y bytes maxL ret WS { frames := fr, cells := 0, slots := 0, locals := lo } 0 0 n ∧ (Cond.static y).before args s = true) (hK : va_K D vwCl (tyL cy) s) (hN : NL s) (hP : va_P D vwCl w H) (hS : va_S A0 H0 H locs)
    (hn : As.length = n) (hsize : ls.size = nL) (hst : st0 = As.reverse ++ rest) (hW : (rest.map fun v => v.category).sum ≤ 8) (hdg : decode cc pc = .ok (.invokestatic index, 3)) (hf : cells + 0 ≤ R.cells ∧ slots + 0 ≤ R.slots)
    (kk : ∀ (H1 : Heap) (locs1 : List Loc), va_P D vwCl w H1 → va_S A0 H0 H1 locs1 → W p l e R s m args below meth c H1 locs1 cells slots Q (F0 m (pc + 3) ls (v.toList ++ rest))) : W p l e R s m args below meth c H locs cells slots Q (F0 m pc ls st0) :=
  ro_kk (va_runS (g := F0 m pc ls st0) S hM cw (ro_pvS hP hK hN) rfl hn hsize hst (lv_room hW) hdg hf) hP hS kk
theorem ro_callVN {host : String} (S : CallFix p m c cc nL s args Ts own) (hM : RO l D cy w y WS fr lo (.ref b :: As) v) (cw : va_CN R s args own index y host bytes maxL ret WS { frames := fr, cells := 0, slots := 0, locals := lo } 0 0 n ∧ (Cond.instanceMethod y).before args s = true ∧ (Cond.selects C y y).before args s = true) (hK : va_K D vwCl (tyL cy) s) (hN : NL s) (hP : va_P D vwCl w H) (hS : va_S A0 H0 H locs) (hc : vwCl[ci]? = some q9) (he : w[q0]? = some (b, .inr (ci, fs))) (hC : q9.1 = C)
    (hn : As.length = n) (hsize : ls.size = nL) (hst : st0 = As.reverse ++ .ref b :: rest) (hW : (rest.map fun v => v.category).sum ≤ 8) (hdg : decode cc pc = .ok (.invokevirtual index, 3)) (hf : cells + 0 ≤ R.cells ∧ slots + 0 ≤ R.slots)
    (kk : ∀ (H1 : Heap) (locs1 : List Loc), va_P D vwCl w H1 → va_S A0 H0 H1 locs1 → W p l e R s m args below meth c H1 locs1 cells slots Q (F0 m (pc + 3) ls (v.toList ++ rest))) : W p l e R s m args below meth c H locs cells slots Q (F0 m pc ls st0) :=
  ro_kk (va_runVN (g := F0 m pc ls st0) S hM cw (ro_pvV hP hK hN hc he hC) rfl hn hsize hst (lv_room hW) hdg hf) hP hS kk
theorem th_kk (hr : vx_Run p l e R s m args below meth c H locs cells slots 1 6 (F0 m pc ls st0) rest (fun _ _ _ => False) (XE E) (fun _ => False)) (hS : va_S (fun _ => False) s.heap H locs) (hout : ∀ x ∈ c.exceptionTable.toList, False) (hlocks : meth.locks = false) (hcc : cells + 1 ≤ mc) (hss : slots + 6 ≤ ms) :
    W p l e R s m args below meth c H locs cells slots (vx_MQ below Qc (XE E) args s mc ms (fun _ => False)) (F0 m pc ls st0) := by
  intro T hT X
  rcases hr T hT X with ⟨v, st₀, t, T', L, h0, X', hL, e1, e2, hq, st⟩ | ⟨q, st₀, t, T', L, E', ce, h0, X', hL, e1, e2, ⟨rfl, hz, hk⟩, hce, hcv, hcl, st⟩
  · exact hq.elim
  · rw [h0] at hz hk
    have hk1 : ∀ q : Nat, q < H.size → T'.heap[q]? = H[q]? := fun q h1 => by rw [e1]; exact hk q h1 id
    have hz1 : H.size ≤ T'.heap.size := by rw [e1]; exact hz
    obtain ⟨t2, a1, b1⟩ := vx_out (Qc := Qc) (XC := XE E') (rest := rest) (ls := ls) (pc := pc) (free := fun _ => False) (mc := mc) (ms := ms) (H := T'.heap) (locs := locs ++ L) (cells := cells + 1) (slots := slots + 6) (fun x hx => (hout x hx).elim) hlocks (by rw [e1]; exact hce) hcv hcl
      (fun t9 ht9 hv9 => ⟨rfl, by rw [ht9]; exact Nat.le_trans hS.1 hz1, fun q h1 h2 => by rw [ht9, hk1 q (Nat.lt_of_lt_of_le h1 hS.1)]; exact hS.2.1 q h1 h2⟩)
      (fun z hz9 => by
        rcases List.mem_append.mp hz9 with h | h
        · exact hS.2.2 z h
        · exact hL z h) hcc hss T' rfl X'
    exact ⟨t2, st.trans a1, b1⟩
theorem th_callV (S : CallFix p m c cc nL s args Ts own) (hM : TH l D cy w y WS fr lo (.ref b :: As) E) (cw : CallW R s args own C index y bytes maxL ret WS { frames := fr, cells := 1, slots := 6, locals := lo } 1 6 n) (hK : va_K D vwCl (tyL cy) s) (hN : NL s) (hP : va_P D vwCl w H) (hT : ST s) (hS : va_S (fun _ => False) s.heap H locs) (hc : vwCl[ci]? = some q9) (he : w[q0]? = some (b, .inr (ci, fs))) (hC : q9.1 = C)
    (hn : As.length = n) (hsize : ls.size = nL) (hst : st0 = As.reverse ++ .ref b :: rest) (hW : (rest.map fun v => v.category).sum ≤ 8) (hdg : decode cc pc = .ok (.invokevirtual index, 3)) (hf : cells + 1 ≤ R.cells ∧ slots + 6 ≤ R.slots) (hout : ∀ x ∈ c.exceptionTable.toList, False) (hlocks : meth.locks = false) (hcc : cells + 1 ≤ mc) (hss : slots + 6 ≤ ms) :
    W p l e R s m args below meth c H locs cells slots (vx_MQ below Qc (XE E) args s mc ms (fun _ => False)) (F0 m pc ls st0) :=
  th_kk (vx_runV (g := F0 m pc ls st0) S hM cw (th_pvV hP hK hN hT hS hc he hC) rfl hn hsize hst (lv_room hW) hdg hf) hS hout hlocks hcc hss
theorem th_callS (S : CallFix p m c cc nL s args Ts own) (hM : TH l D cy w y WS fr lo As E) (cw : CallB R s args own index y bytes maxL ret WS { frames := fr, cells := 1, slots := 6, locals := lo } 1 6 n ∧ (Cond.static y).before args s = true) (hK : va_K D vwCl (tyL cy) s) (hN : NL s) (hP : va_P D vwCl w H) (hT : ST s) (hS : va_S (fun _ => False) s.heap H locs)
    (hn : As.length = n) (hsize : ls.size = nL) (hst : st0 = As.reverse ++ rest) (hW : (rest.map fun v => v.category).sum ≤ 8) (hdg : decode cc pc = .ok (.invokestatic index, 3)) (hf : cells + 1 ≤ R.cells ∧ slots + 6 ≤ R.slots) (hout : ∀ x ∈ c.exceptionTable.toList, False) (hlocks : meth.locks = false) (hcc : cells + 1 ≤ mc) (hss : slots + 6 ≤ ms) :
    W p l e R s m args below meth c H locs cells slots (vx_MQ below Qc (XE E) args s mc ms (fun _ => False)) (F0 m pc ls st0) :=
  th_kk (vx_runS (g := F0 m pc ls st0) S hM cw (th_pvS hP hK hN hT hS) rfl hn hsize hst (lv_room hW) hdg hf) hS hout hlocks hcc hss
/-- the words of a throw of E out of the class, from the method's own and from ST -/
theorem th_words {ic : Nat} (hE : E ∈ excL) (hT : ST s) (hg : ∀ w ∈ (vx_atS "Hubcascade" ic E ["java/lang/RuntimeException", "java/lang/Exception"]).filter goodWord, w.before args s = true)
    (hb : ∀ w ∈ (vx_atS "Hubcascade" ic E ["java/lang/RuntimeException", "java/lang/Exception"]).filter (fun w => !goodWord w), w ∈ ([.castable E E, .declares (Bundle.initS "java/lang/RuntimeException"), .declares (Bundle.initS "java/lang/Exception"), .declares (Bundle.initS "java/lang/Throwable")] : List Cond)) : ∀ w ∈ vx_atS "Hubcascade" ic E ["java/lang/RuntimeException", "java/lang/Exception"], w.before args s = true :=
  vx_hat hg hb (vx_c (va_Nw.use rfl (hT.2.2.1 E hE)) (vx_c (va_Nw.use rfl (hT.2.2.2.1 _ (by simp [supL]))) (vx_c (va_Nw.use rfl (hT.2.2.2.1 _ (by simp [supL]))) (vx_c (va_Nw.use rfl (hT.2.2.2.1 _ (by simp [supL]))) vx_n))))
theorem th_throwS {ik is ic : Nat} {text : String} {WS : List Cond} (hexec : p.tables.exec = Jvm.exec) (hb : c.code = cc) (hl : l.stackTraces = false) (hts : ∀ w ∈ WS, w.before args s = true) (hown : s.vm.findClass "Hubcascade" = some m.cls) (hE : E ∈ excL) (hT : ST s) (htx : (is, text) ∈ strL)
    (hk : Cond.classLink "Hubcascade" ik E ∈ WS) (hini : Cond.initialized E ∈ WS) (hat : ∀ w ∈ (vx_atS "Hubcascade" ic E ["java/lang/RuntimeException", "java/lang/Exception"]).filter goodWord, w ∈ WS)
    (hbb : ∀ w ∈ (vx_atS "Hubcascade" ic E ["java/lang/RuntimeException", "java/lang/Exception"]).filter (fun w => !goodWord w), w ∈ ([.castable E E, .declares (Bundle.initS "java/lang/RuntimeException"), .declares (Bundle.initS "java/lang/Exception"), .declares (Bundle.initS "java/lang/Throwable")] : List Cond))
    (hgood : ∀ w ∈ Cond.classLink "Hubcascade" ik E :: Cond.initialized E :: vx_atS "Hubcascade" ic E ["java/lang/RuntimeException", "java/lang/Exception"], vx_ot w = true) (hcls : Bundle.fit E = true)
    (hS : va_S (fun _ => False) s.heap H locs) (hsize : ls.size = c.maxLocals)
    (d0 : decode cc pc = .ok (.new ik, 3)) (d3 : decode cc (pc + 3) = .ok (.dup, 1)) (d4 : decode cc (pc + 4) = .ok (.ldc is, 2)) (d6 : decode cc (pc + 6) = .ok (.invokespecial ic, 3)) (d9 : decode cc (pc + 9) = .ok (.athrow, 1))
    (hout : ∀ x ∈ c.exceptionTable.toList, False) (hlocks : meth.locks = false) (hRf : 5 < R.frames) (hRl : (rest.map fun v => v.category).sum + 82 ≤ R.locals) (hRc : cells + 1 ≤ R.cells) (hRs : slots + 6 ≤ R.slots) (hcc : cells + 1 ≤ mc) (hss : slots + 6 ≤ ms) :
    W p l e R s m args below meth c H locs cells slots (vx_MQ below Qc (XE E) args s mc ms (fun _ => False)) (F0 m pc ls rest) := by
  obtain ⟨sa, hstr⟩ := hT.2.1 _ htx
  exact vx_throwS (sa := sa) (A := fun _ => False) hexec hb hl hown hcls (by decide) (hts _ hk) (hts _ hini) hstr (th_words hE hT (fun w h => hts w (hat w h)) hbb) hgood hT.1.1 hT.1.2 hS hsize d0 d3 d4 d6 d9 (fun x hx => (hout x hx).elim) hRf (by exact hRl) hRc hRs hlocks
    (fun t hv hz hk => ⟨rfl, Nat.le_trans hS.1 hz, fun q h1 h2 => by rw [hk q (Nat.lt_of_lt_of_le h1 hS.1)]; exact hS.2.1 q h1 h2⟩) (fun z hz => hS.2.2 z hz) hcc hss
theorem th_throwSW {ik is ic : Nat} {text : String} {WS : List Cond} (hexec : p.tables.exec = Jvm.exec) (hb : c.code = cc) (hl : l.stackTraces = false) (hts : ∀ w ∈ WS, w.before args s = true) (hown : s.vm.findClass "Hubcascade" = some m.cls) (hE : E ∈ excL) (hT : ST s) (htx : (is, text) ∈ strL)
    (hk : Cond.classLink "Hubcascade" ik E ∈ WS) (hini : Cond.initialized E ∈ WS) (hat : ∀ w ∈ (vx_atS "Hubcascade" ic E ["java/lang/RuntimeException", "java/lang/Exception"]).filter goodWord, w ∈ WS)
    (hbb : ∀ w ∈ (vx_atS "Hubcascade" ic E ["java/lang/RuntimeException", "java/lang/Exception"]).filter (fun w => !goodWord w), w ∈ ([.castable E E, .declares (Bundle.initS "java/lang/RuntimeException"), .declares (Bundle.initS "java/lang/Exception"), .declares (Bundle.initS "java/lang/Throwable")] : List Cond))
    (hgood : ∀ w ∈ Cond.classLink "Hubcascade" ik E :: Cond.initialized E :: vx_atS "Hubcascade" ic E ["java/lang/RuntimeException", "java/lang/Exception"], vx_ot w = true) (hcls : Bundle.fit E = true)
    (hS : va_S (fun _ => False) s.heap H locs) (hsize : ls.size = c.maxLocals)
    (d0 : decode cc pc = .ok (.new ik, 3)) (d3 : decode cc (pc + 3) = .ok (.dup, 1)) (d4 : decode cc (pc + 4) = .ok (.ldc_w is, 3)) (d7 : decode cc (pc + 7) = .ok (.invokespecial ic, 3)) (d10 : decode cc (pc + 10) = .ok (.athrow, 1))
    (hout : ∀ x ∈ c.exceptionTable.toList, False) (hlocks : meth.locks = false) (hRf : 5 < R.frames) (hRl : (rest.map fun v => v.category).sum + 82 ≤ R.locals) (hRc : cells + 1 ≤ R.cells) (hRs : slots + 6 ≤ R.slots) (hcc : cells + 1 ≤ mc) (hss : slots + 6 ≤ ms) :
    W p l e R s m args below meth c H locs cells slots (vx_MQ below Qc (XE E) args s mc ms (fun _ => False)) (F0 m pc ls rest) := by
  obtain ⟨sa, hstr⟩ := hT.2.1 _ htx
  exact vx_throwSW (sa := sa) (A := fun _ => False) hexec hb hl hown hcls (by decide) (hts _ hk) (hts _ hini) hstr (th_words hE hT (fun w h => hts w (hat w h)) hbb) hgood hT.1.1 hT.1.2 hS hsize d0 d3 d4 d7 d10 (fun x hx => (hout x hx).elim) hRf (by exact hRl) hRc hRs hlocks
    (fun t hv hz hk => ⟨rfl, Nat.le_trans hS.1 hz, fun q h1 h2 => by rw [hk q (Nat.lt_of_lt_of_le h1 hS.1)]; exact hS.2.1 q h1 h2⟩) (fun z hz => hS.2.2 z hz) hcc hss
theorem th_wordsN (hE : nseN ∈ excL) (hT : ST s) (hg : ∀ w ∈ (nseV "Hubcascade" 207).filter goodWord, w.before args s = true)
    (hb : ∀ w ∈ (nseV "Hubcascade" 207).filter (fun w => !goodWord w), w ∈ ([.castable nseN nseN, .declares (Bundle.initS "java/lang/RuntimeException"), .declares (Bundle.initS "java/lang/Exception"), .declares (Bundle.initS "java/lang/Throwable")] : List Cond)) : ∀ w ∈ nseV "Hubcascade" 207, w.before args s = true :=
  vx_hat hg hb (vx_c (va_Nw.use rfl (hT.2.2.1 nseN hE)) (vx_c (va_Nw.use rfl (hT.2.2.2.1 _ (by simp [supL]))) (vx_c (va_Nw.use rfl (hT.2.2.2.1 _ (by simp [supL]))) (vx_c (va_Nw.use rfl (hT.2.2.2.1 _ (by simp [supL]))) vx_n))))
theorem th_throwN {ik is : Nat} {text : String} {WS : List Cond} (hexec : p.tables.exec = Jvm.exec) (hb : c.code = cc) (hl : l.stackTraces = false) (hts : ∀ w ∈ WS, w.before args s = true) (hown : s.vm.findClass "Hubcascade" = some m.cls) (hE : nseN ∈ excL) (hT : ST s) (htx : (is, text) ∈ strL)
    (hk : Cond.classLink "Hubcascade" ik nseN ∈ WS) (hini : Cond.initialized nseN ∈ WS) (hat : ∀ w ∈ (nseV "Hubcascade" 207).filter goodWord, w ∈ WS)
    (hbb : ∀ w ∈ (nseV "Hubcascade" 207).filter (fun w => !goodWord w), w ∈ ([.castable nseN nseN, .declares (Bundle.initS "java/lang/RuntimeException"), .declares (Bundle.initS "java/lang/Exception"), .declares (Bundle.initS "java/lang/Throwable")] : List Cond))
    (hgood : ∀ w ∈ Cond.classLink "Hubcascade" ik nseN :: Cond.initialized nseN :: nseV "Hubcascade" 207, vx_ot w = true) (hcls : Bundle.fit nseN = true)
    (hS : va_S (fun _ => False) s.heap H locs) (hsize : ls.size = c.maxLocals)
    (d0 : decode cc pc = .ok (.new ik, 3)) (d3 : decode cc (pc + 3) = .ok (.dup, 1)) (d4 : decode cc (pc + 4) = .ok (.ldc is, 2)) (d6 : decode cc (pc + 6) = .ok (.invokespecial 207, 3)) (d9 : decode cc (pc + 9) = .ok (.athrow, 1))
    (hout : ∀ x ∈ c.exceptionTable.toList, False) (hlocks : meth.locks = false) (hRf : 5 < R.frames) (hRl : (rest.map fun v => v.category).sum + 82 ≤ R.locals) (hRc : cells + 1 ≤ R.cells) (hRs : slots + 6 ≤ R.slots) (hcc : cells + 1 ≤ mc) (hss : slots + 6 ≤ ms) :
    W p l e R s m args below meth c H locs cells slots (vx_MQ below Qc (XE nseN) args s mc ms (fun _ => False)) (F0 m pc ls rest) := by
  obtain ⟨sa, hstr⟩ := hT.2.1 _ htx
  exact nse_throwS (sa := sa) (A := fun _ => False) hexec hb hl hown (hts _ hk) (hts _ hini) hstr (th_wordsN hE hT (fun w h => hts w (hat w h)) hbb) hgood hT.1.1 hT.1.2 hS hsize d0 d3 d4 d6 d9 (fun x hx => (hout x hx).elim) hRf (by exact hRl) hRc hRs hlocks
    (fun t hv hz hk => ⟨rfl, Nat.le_trans hS.1 hz, fun q h1 h2 => by rw [hk q (Nat.lt_of_lt_of_le h1 hS.1)]; exact hS.2.1 q h1 h2⟩) (fun z hz => hS.2.2 z hz) hcc hss
theorem th_throwNW {ik is : Nat} {text : String} {WS : List Cond} (hexec : p.tables.exec = Jvm.exec) (hb : c.code = cc) (hl : l.stackTraces = false) (hts : ∀ w ∈ WS, w.before args s = true) (hown : s.vm.findClass "Hubcascade" = some m.cls) (hE : nseN ∈ excL) (hT : ST s) (htx : (is, text) ∈ strL)
    (hk : Cond.classLink "Hubcascade" ik nseN ∈ WS) (hini : Cond.initialized nseN ∈ WS) (hat : ∀ w ∈ (nseV "Hubcascade" 207).filter goodWord, w ∈ WS)
    (hbb : ∀ w ∈ (nseV "Hubcascade" 207).filter (fun w => !goodWord w), w ∈ ([.castable nseN nseN, .declares (Bundle.initS "java/lang/RuntimeException"), .declares (Bundle.initS "java/lang/Exception"), .declares (Bundle.initS "java/lang/Throwable")] : List Cond))
    (hgood : ∀ w ∈ Cond.classLink "Hubcascade" ik nseN :: Cond.initialized nseN :: nseV "Hubcascade" 207, vx_ot w = true) (hcls : Bundle.fit nseN = true)
    (hS : va_S (fun _ => False) s.heap H locs) (hsize : ls.size = c.maxLocals)
    (d0 : decode cc pc = .ok (.new ik, 3)) (d3 : decode cc (pc + 3) = .ok (.dup, 1)) (d4 : decode cc (pc + 4) = .ok (.ldc_w is, 3)) (d7 : decode cc (pc + 7) = .ok (.invokespecial 207, 3)) (d10 : decode cc (pc + 10) = .ok (.athrow, 1))
    (hout : ∀ x ∈ c.exceptionTable.toList, False) (hlocks : meth.locks = false) (hRf : 5 < R.frames) (hRl : (rest.map fun v => v.category).sum + 82 ≤ R.locals) (hRc : cells + 1 ≤ R.cells) (hRs : slots + 6 ≤ R.slots) (hcc : cells + 1 ≤ mc) (hss : slots + 6 ≤ ms) :
    W p l e R s m args below meth c H locs cells slots (vx_MQ below Qc (XE nseN) args s mc ms (fun _ => False)) (F0 m pc ls rest) := by
  obtain ⟨sa, hstr⟩ := hT.2.1 _ htx
  exact nse_throwSW (sa := sa) (A := fun _ => False) hexec hb hl hown (hts _ hk) (hts _ hini) hstr (th_wordsN hE hT (fun w h => hts w (hat w h)) hbb) hgood hT.1.1 hT.1.2 hS hsize d0 d3 d4 d7 d10 (fun x hx => (hout x hx).elim) hRf (by exact hRl) hRc hRs hlocks
    (fun t hv hz hk => ⟨rfl, Nat.le_trans hS.1 hz, fun q h1 h2 => by rw [hk q (Nat.lt_of_lt_of_le h1 hS.1)]; exact hS.2.1 q h1 h2⟩) (fun z hz => hS.2.2 z hz) hcc hss
end MYB
end MYA
section MYC
variable {p : Program} {l : Launch} {e : Env} {R : Room} {s : State} {m : MethodId} {args : Array Value} {below : List Frame} {meth : Method} {c : Code} {H : Heap} {locs : List Loc} {cells slots : Nat} {Q : State → Prop}
variable {D : va_G} {cl : List vw_C} {w : va_W} {tys : List (ClassId × FieldType)} {cc : ByteArray} {pc : Nat} {ls : Array Slot} {rest : List Value} {a : Nat}
theorem my_ald (hexec : p.tables.exec = Jvm.exec) (hb : c.code = cc) (hK : va_K D cl tys s) (hP : va_P D cl w H) (q0 t0 : Nat) {cA : ClassId} {C : String} {n : Nat} {f : Nat → Option Nat} (ha : w[q0]? = some (a, .inl (cA, n, .inr (.inr (.inr (.inr f)))))) (ht : tys[t0]? = some (cA, .object C)) {i : Int32} {j r : Nat} (hi : i = nI j) (hj : j < n) (hn : n < 2 ^ 31) (hr : f j = some r) (hdg : decode cc pc = .ok (.aaload, 1))
    (kk : W p l e R s m args below meth c H locs cells slots Q (F0 m (pc + 1) ls (.ref r :: rest))) : W p l e R s m args below meth c H locs cells slots Q (F0 m pc ls (.int i :: .ref a :: rest)) := by
  subst hi
  refine va_aldq hexec hb hK hP q0 t0 ha ht (vp_in_nI hj hn) hdg ?_
  rw [nI_clamp (by omega), hr]
  exact kk
theorem my_aldN (hexec : p.tables.exec = Jvm.exec) (hb : c.code = cc) (hK : va_K D cl tys s) (hP : va_P D cl w H) (q0 t0 : Nat) {cA : ClassId} {C : String} {n : Nat} {f : Nat → Option Nat} (ha : w[q0]? = some (a, .inl (cA, n, .inr (.inr (.inr (.inr f)))))) (ht : tys[t0]? = some (cA, .object C)) {i : Int32} {j : Nat} (hi : i = nI j) (hj : j < n) (hn : n < 2 ^ 31) (hr : f j = none) (hdg : decode cc pc = .ok (.aaload, 1))
    (kk : W p l e R s m args below meth c H locs cells slots Q (F0 m (pc + 1) ls (.null :: rest))) : W p l e R s m args below meth c H locs cells slots Q (F0 m pc ls (.int i :: .ref a :: rest)) := by
  subst hi
  refine va_aldq hexec hb hK hP q0 t0 ha ht (vp_in_nI hj hn) hdg ?_
  rw [nI_clamp (by omega), hr]
  exact kk
end MYC
theorem my_ge1 {d : Int32} (h : ¬ d < 0) (h0 : ¬ d = 0) : 1 ≤ d := by
  rcases pk_ix d (n := 1) (by decide) with q | q | ⟨j, hj, rfl⟩
  · exact absurd q h
  · exact q
  · have : j = 0 := by omega
    subst this
    exact absurd nI_0 h0
theorem my_out {A B : Prop} (h : ¬ (¬ A ∧ ¬ B)) : A ∨ B := by
  rcases Classical.em A with a | a
  · exact Or.inl a
  · rcases Classical.em B with b | b
    · exact Or.inr b
    · exact absurd ⟨a, b⟩ h
theorem my_ge0 {d : Int32} (h : ¬ d < 0) : 0 ≤ d := by
  rcases pk_ix d (n := 0) (by decide) with q | q | ⟨j, hj, rfl⟩
  · exact absurd q h
  · exact q
  · omega
theorem my_in {n : Int32} {A B : Int32} (h : ¬ n < A ∧ ¬ B < n) : A.toInt ≤ n.toInt ∧ n.toInt ≤ B.toInt := by
  obtain ⟨h1, h2⟩ := h
  rw [Int32.lt_iff_toInt_lt] at h1 h2
  omega
theorem my_rng {n : Int32} (lo k : Nat) (hk : lo + k < 2 ^ 31) (h1 : (lo : Int) ≤ n.toInt) (h2 : n.toInt < (lo + k : Nat)) : ∃ j, j < k ∧ n = nI (lo + j) := by
  refine ⟨n.toInt.toNat - lo, by omega, Int32.toInt_inj.mp ?_⟩
  rw [nI_toInt (by omega)]
  omega
theorem my_r13 {n : Int32} (h : ¬ n < 1 ∧ ¬ 3 < n) : ∃ j, j < 3 ∧ n = nI (j + 1) := by
  obtain ⟨h1, h2⟩ := my_in h
  have e1 : (1 : Int32).toInt = 1 := by decide
  have e3 : (3 : Int32).toInt = 3 := by decide
  obtain ⟨j, hj, e⟩ := my_rng (n := n) 1 3 (by decide) (by omega) (by omega)
  exact ⟨j, hj, by rw [e, Nat.add_comm]⟩
theorem my_r0 {n : Int32} {b : Int32} (k : Nat) (hb : b.toInt = (k : Int) - 1) (hk : k < 2 ^ 31) (h : ¬ n < 0 ∧ ¬ b < n) : ∃ j, j < k ∧ n = nI j := by
  obtain ⟨h1, h2⟩ := my_in h
  have e1 : (0 : Int32).toInt = 0 := by decide
  obtain ⟨j, hj, e⟩ := my_rng (n := n) 0 k (by omega) (by omega) (by omega)
  exact ⟨j, hj, by rw [e, Nat.zero_add]⟩
theorem my_r011 {n : Int32} (h : ¬ n < 0 ∧ ¬ 11 < n) : ∃ j, j < 12 ∧ n = nI j := my_r0 12 (by decide) (by decide) h
theorem my_r07 {n : Int32} (h : ¬ n < 0 ∧ ¬ 7 < n) : ∃ j, j < 8 ∧ n = nI j := my_r0 8 (by decide) (by decide) h
