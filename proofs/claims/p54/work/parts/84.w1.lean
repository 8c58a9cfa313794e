section VWRA
def lW : List Cond := [Cond.classLink RL 13 "java/lang/IllegalArgumentException", Cond.methodLink RL 7 yX9_make, Cond.instanceMethod yX9_make, Cond.selects RX9 yX9_make yX9_make, Cond.initialized RX9, Cond.classLink RL 21 "java/lang/IndexOutOfBoundsException", Cond.methodLink RL 17 yX9_endpoint, Cond.instanceMethod yX9_endpoint, Cond.selects RX9 yX9_endpoint yX9_endpoint, Cond.instanceMethod yX9_deviceAt, Cond.selects RX9 yX9_deviceAt yX9_deviceAt, Cond.methodLink RL 25 yX9_plug, Cond.instanceMethod yX9_plug, Cond.selects RX9 yX9_plug yX9_plug, Cond.instanceMethod yX9_isPortTaken, Cond.selects RX9 yX9_isPortTaken yX9_isPortTaken, Cond.methodLink RL 29 yX9_unplug, Cond.instanceMethod yX9_unplug, Cond.selects RX9 yX9_unplug yX9_unplug, Cond.instanceMethod yX9_deviceBelowHost, Cond.selects RX9 yX9_deviceBelowHost yX9_deviceBelowHost, Cond.instanceMethod yX9_detach, Cond.selects RX9 yX9_detach yX9_detach, Cond.instanceMethod yX9_closeBy, Cond.selects RX9 yX9_closeBy yX9_closeBy, Cond.instanceMethod yX9_reserveFor, Cond.selects RX9 yX9_reserveFor yX9_reserveFor, Cond.instanceMethod yX9_endFirst, Cond.selects RX9 yX9_endFirst yX9_endFirst, Cond.methodLink RL 33 yX9_stateOf, Cond.instanceMethod yX9_stateOf, Cond.selects RX9 yX9_stateOf yX9_stateOf, Cond.methodLink RL 37 yX9_hubOf, Cond.instanceMethod yX9_hubOf, Cond.selects RX9 yX9_hubOf yX9_hubOf, Cond.methodLink RL 40 yX9_depthOf, Cond.instanceMethod yX9_depthOf, Cond.selects RX9 yX9_depthOf yX9_depthOf, Cond.methodLink RL 43 yX9_speedOf, Cond.instanceMethod yX9_speedOf, Cond.selects RX9 yX9_speedOf yX9_speedOf, Cond.methodLink RL 46 yX9_translator, Cond.instanceMethod yX9_translator, Cond.selects RX9 yX9_translator yX9_translator, Cond.methodLink RL 49 yX9_addressOf, Cond.instanceMethod yX9_addressOf, Cond.selects RX9 yX9_addressOf yX9_addressOf, Cond.classLink RL 56 "java/util/NoSuchElementException", Cond.methodLink RL 52 yX9_look, Cond.instanceMethod yX9_look, Cond.selects RX9 yX9_look yX9_look, Cond.instanceMethod yX9_firstNewDevice, Cond.selects RX9 yX9_firstNewDevice yX9_firstNewDevice, Cond.instanceMethod yX9_answersControl, Cond.selects RX9 yX9_answersControl yX9_answersControl, Cond.instanceMethod yX9_disable, Cond.selects RX9 yX9_disable yX9_disable, Cond.instanceMethod yX9_lowestFreeAddress, Cond.selects RX9 yX9_lowestFreeAddress yX9_lowestFreeAddress, Cond.instanceMethod yX9_isAddressUsed, Cond.selects RX9 yX9_isAddressUsed yX9_isAddressUsed, Cond.instanceMethod yX9_fittingDriver, Cond.selects RX9 yX9_fittingDriver yX9_fittingDriver, Cond.instanceMethod yX9_firstDriver, Cond.selects RX9 yX9_firstDriver yX9_firstDriver, Cond.methodLink RL 58 yX9_driver, Cond.instanceMethod yX9_driver, Cond.selects RX9 yX9_driver yX9_driver, Cond.methodLink RL 62 yX9_driverOf, Cond.instanceMethod yX9_driverOf, Cond.selects RX9 yX9_driverOf yX9_driverOf, Cond.methodLink RL 65 yX9_draw, Cond.instanceMethod yX9_draw, Cond.selects RX9 yX9_draw yX9_draw, Cond.methodLink RL 68 yX9_sleep, Cond.instanceMethod yX9_sleep, Cond.selects RX9 yX9_sleep yX9_sleep, Cond.instanceMethod yX9_hasTransferWithin, Cond.selects RX9 yX9_hasTransferWithin yX9_hasTransferWithin, Cond.methodLink RL 71 yX9_wake, Cond.instanceMethod yX9_wake, Cond.selects RX9 yX9_wake yX9_wake, Cond.methodLink RL 74 yX9_five, Cond.instanceMethod yX9_five, Cond.selects RX9 yX9_five yX9_five, Cond.methodLink RL 77 yX9_type, Cond.instanceMethod yX9_type, Cond.selects RX9 yX9_type yX9_type, Cond.methodLink RL 80 yX9_open, Cond.instanceMethod yX9_open, Cond.selects RX9 yX9_open yX9_open, Cond.instanceMethod yX9_firstClosedPipe, Cond.selects RX9 yX9_firstClosedPipe yX9_firstClosedPipe, Cond.methodLink RL 84 yX9_close, Cond.instanceMethod yX9_close, Cond.selects RX9 yX9_close yX9_close, Cond.instanceMethod yX9_openPipe, Cond.selects RX9 yX9_openPipe yX9_openPipe, Cond.methodLink RL 87 yX9_phaseOf, Cond.instanceMethod yX9_phaseOf, Cond.selects RX9 yX9_phaseOf yX9_phaseOf, Cond.methodLink RL 90 yX9_reserved, Cond.instanceMethod yX9_reserved, Cond.selects RX9 yX9_reserved yX9_reserved, Cond.methodLink RL 93 yX9_send, Cond.instanceMethod yX9_send, Cond.selects RX9 yX9_send yX9_send, Cond.methodLink RL 96 yX9_ask, Cond.instanceMethod yX9_ask, Cond.selects RX9 yX9_ask yX9_ask, Cond.methodLink RL 99 yX9_ring, Cond.instanceMethod yX9_ring, Cond.selects RX9 yX9_ring yX9_ring, Cond.methodLink RL 102 yX9_isHalted, Cond.instanceMethod yX9_isHalted, Cond.selects RX9 yX9_isHalted yX9_isHalted, Cond.methodLink RL 106 yX9_clear, Cond.instanceMethod yX9_clear, Cond.selects RX9 yX9_clear yX9_clear, Cond.methodLink RL 109 yX9_cancel, Cond.instanceMethod yX9_cancel, Cond.selects RX9 yX9_cancel yX9_cancel, Cond.methodLink RL 112 yX9_load, Cond.instanceMethod yX9_load, Cond.selects RX9 yX9_load yX9_load, Cond.methodLink RL 115 yX9_fault, Cond.instanceMethod yX9_fault, Cond.selects RX9 yX9_fault yX9_fault, Cond.methodLink RL 118 yX9_left, Cond.instanceMethod yX9_left, Cond.selects RX9 yX9_left yX9_left, Cond.methodLink RL 121 yX9_event, Cond.instanceMethod yX9_event, Cond.selects RX9 yX9_event yX9_event, Cond.methodLink RL 125 yX9_eventPipe, Cond.instanceMethod yX9_eventPipe, Cond.selects RX9 yX9_eventPipe yX9_eventPipe, Cond.methodLink RL 128 yX9_eventBytes, Cond.instanceMethod yX9_eventBytes, Cond.selects RX9 yX9_eventBytes yX9_eventBytes, Cond.methodLink RL 131 yX9_taken, Cond.instanceMethod yX9_taken, Cond.selects RX9 yX9_taken yX9_taken, Cond.instanceMethod yX9_endpointOut, Cond.selects RX9 yX9_endpointOut yX9_endpointOut, Cond.methodLink RL 134 yX9_takenAt, Cond.instanceMethod yX9_takenAt, Cond.selects RX9 yX9_takenAt yX9_takenAt, Cond.methodLink RL 137 yX9_waiting, Cond.instanceMethod yX9_waiting, Cond.selects RX9 yX9_waiting yX9_waiting, Cond.methodLink RL 140 yX9_gotAt, Cond.instanceMethod yX9_gotAt, Cond.selects RX9 yX9_gotAt yX9_gotAt, Cond.methodLink RL 143 yX9_packets, Cond.instanceMethod yX9_packets, Cond.selects RX9 yX9_packets yX9_packets, Cond.methodLink RL 147 yX9_blame, Cond.instanceMethod yX9_blame, Cond.selects RX9 yX9_blame yX9_blame, Cond.methodLink RL 150 yX9_causeOf, Cond.instanceMethod yX9_causeOf, Cond.selects RX9 yX9_causeOf yX9_causeOf, Cond.classLink RL 157 "java/lang/ArithmeticException", Cond.methodLink RL 153 yX9_busyShare, Cond.instanceMethod yX9_busyShare, Cond.selects RX9 yX9_busyShare yX9_busyShare, Cond.methodLink RL 159 yX9_meanBytes, Cond.instanceMethod yX9_meanBytes, Cond.selects RX9 yX9_meanBytes yX9_meanBytes, Cond.classLink RL 15 "java/lang/IllegalStateException", Cond.classLink RL 23 "java/lang/UnsupportedOperationException"]
def lWall : List Cond := lW ++ vWall
theorem lm_ : ∀ w ∈ lW, w ∈ lWall := fun _ h => List.mem_append_left _ h
theorem lv_ : ∀ w ∈ vWall, w ∈ lWall := fun _ h => List.mem_append_right _ h
theorem lgood : lWall.all goodWord = true := goodA (by decide +kernel) vgood
theorem lgV {own : String} {idx : Nat} {C : String} {y : MethodName} {cc : ByteArray} {maxL : Nat} {ret : Option FieldType} {W0 : Cond} (h1 : Cond.methodLink own idx y ∈ lWall) (h2 : Cond.instanceMethod y ∈ lWall) (h3 : Cond.selects C y y ∈ lWall) (h4 : Cond.initialized C ∈ lWall) (hc : Cond.code y cc maxL ret ∈ lWall) : GoodIn (W0 :: lWall) (wsV own idx C y (Cond.code y cc maxL ret :: vWall)) := by
  have hg := List.all_eq_true.mp lgood
  intro w hw
  unfold wsV at hw
  have key : w ∈ lWall := by
    rcases List.mem_append.mp hw with h | h
    · simp only [List.mem_cons, List.not_mem_nil, or_false] at h
      rcases h with rfl | rfl | rfl | rfl <;> assumption
    · rcases List.mem_cons.mp h with rfl | h
      · assumption
      · exact lv_ _ h
  exact ⟨List.mem_cons_of_mem _ key, good_of_word (hg w key)⟩

section
variable {l : Launch} {D : va_G} {cy : Nat → ClassId} {y : MethodName} {WS : List Cond} {fr mc ms lo : Nat} {av : List Value} {v : Option Value}
theorem wr_ofW {WS' : List Cond} {rm : Room} {Pre : State → Prop} {Qc : Array Value → State → Outcome → State → Prop} {free : Addr → Prop} {cc : ByteArray} {maxL : Nat} {ret : Option FieldType} {hh : List (Nat × Nat × Nat × Nat)} {lv : List (Nat × Value)} (hy : plainName y.cls = true) (hw : WS = Cond.codeWith y cc maxL ret hh :: WS') (hn : (lg_sl av).length ≤ maxL) (hlv : lv_args 0 av = lv)
    (body : ∀ (p : Program) (e : Env) (s : State) (m : MethodId) (below : List Frame) (meth : Method) (c : Code) (ls : Array Slot), p.tables.exec = Jvm.exec → c.code = cc → meth.sig.returnType = ret → c.maxLocals = maxL → s.vm.findClass y.cls = some m.cls → meth.locks = false → c.exceptionTable.toList = tableOf hh → (∀ w ∈ WS, w.before av.toArray s = true) → Pre s → lv_has ls maxL lv → W p l e rm s m av.toArray below meth c s.heap [] 0 0 (MQ below Qc av.toArray s mc ms free) (F0 m 0 ls [])) : Met l y WS rm (va_Pc av Pre) Qc mc ms free := by
  refine MetFree.of_bodyS (code := cc) (maxLocals := maxL) (ret := ret) hy ?_ ?_
  · intro args s m h hn
    obtain ⟨m9, meth, c, hn9, h1, h2, h3, h4, -, h5, h6, -⟩ := Cond.codeWith_spec (atoms_spec (ws := WS) h _ (by rw [hw]; exact List.mem_cons_self))
    cases hn.symm.trans hn9
    exact ⟨meth, c, h1, h2, h3, h4, h5, h6⟩
  · intro p e s m args below meth c s₁ B hml hP _
    obtain ⟨rfl, hpre⟩ := hP
    have hh0 : s₁.heap = s.heap := by rw [B.state]; rfl
    have htab := vx_table (x := y) B (atoms_spec (ws := WS) B.pre _ (by rw [hw]; exact List.mem_cons_self))
    have hl := lv_entry av (n := maxL) hn
    have K : W p l e rm s m av.toArray below meth c s.heap [] 0 0 (MQ below Qc av.toArray s mc ms free) (entryFrame m av.toArray maxL) := by
      rw [lg_entry_eq]
      rw [hlv] at hl
      generalize (lg_sl av ++ List.replicate (maxL - (lg_sl av).length) Slot.unset).toArray = ls at hl ⊢
      exact body p e s m below meth c ls B.exec B.bytes B.returns hml (findClass_of_methodNamed B.named) B.notSynchronized htab (atoms_spec (ws := WS) B.pre) hpre hl
    obtain ⟨t, a1, o, b1, b2, b3⟩ := K s₁ hh0 (Stand.of_body B)
    exact ⟨t, o, a1, b1, b2, ⟨b3.1, b3.2⟩⟩
end

theorem my_one {D : va_G} {w : va_W} {H : Heap} {ko : Nat} {X Y : Nat × va_E} (hP : va_P D vwCl (w.set ko X) H) (h : w[ko]? = some Y) : va_P D vwCl [X] H := by
  intro k q hq
  match k, hq with
  | 0, hq =>
    cases hq
    exact hP ko _ (List.getElem?_set_self (List.getElem?_eq_some_iff.mp h).1)
  | k + 1, hq => simp at hq
theorem my_in1 {w : va_W} {sz : Nat} {ko oa : Nat} {e : va_E} (h : w[ko]? = some (oa, e)) : va_A w sz oa := Or.inl ⟨ko, e, h⟩
theorem my_upd0 (f : Nat → Int64) (x : Int64) : vp_updL f (Int32.toNatClampNeg 0) x = vp_updL f 0 x := by
  have e : Int32.toNatClampNeg 0 = 0 := by decide
  rw [e]
theorem my_rd0 (f : Nat → Int64) (x : Int64) : vp_updL f 0 x (Int32.toNatClampNeg 0) = x := by
  have e : Int32.toNatClampNeg 0 = 0 := by decide
  rw [e]
  simp [vp_updL]

def vi_tys (ad τ : List Nat) : List VA → List Value → Prop
  | [], [] => True
  | a :: as, v :: vs => vi_ok ad τ a v ∧ vi_tys ad τ as vs
  | _, _ => False
theorem vi_tys_ok {ad τ : List Nat} : ∀ {as : List VA} {vs : List Value}, vi_tys ad τ as vs → ∀ (j : Nat) (a : VA) (x : Value), as[j]? = some a → vs[j]? = some x → vi_ok ad τ a x
  | a0 :: as, v0 :: vs, h, 0, a, x, h1, h2 => by
    cases h1
    cases h2
    exact h.1
  | a0 :: as, v0 :: vs, h, j + 1, a, x, h1, h2 => vi_tys_ok h.2 j a x (by simpa using h1) (by simpa using h2)
  | [], _, _, j, a, x, h1, _ => by simp at h1
theorem vw_int {ad τ : List Nat} {av : List Value} {w1 : va_W} {alts : List VAlt} {alt : VAlt} {v : Option Value} (h : (alts.all fun a => match a.1 with | b :: _ => b.1 == 1 | [] => false) = true) (hm : alt ∈ alts) (ha : vi_alt ad τ av w1 alt v) : ∃ y : Int32, v = some (.int y) := by
  have h2 := List.all_eq_true.mp h alt hm
  obtain ⟨a1, -, -⟩ := ha
  cases e : alt.1 with
  | nil => rw [e] at h2; cases h2
  | cons b t =>
    rw [e] at h2 a1
    obtain ⟨x, hx, ho, -⟩ := a1
    have hb : b.1 = 1 := by simpa using h2
    unfold vi_ok at ho
    rw [hb] at ho
    obtain ⟨y, hy, -⟩ := ho
    exact ⟨y, by rw [hx, hy]⟩
end VWRA
