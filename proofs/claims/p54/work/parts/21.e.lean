section SGK
/-- where a walk stands: the heap, what came of the start, the slots that are paid -/
def sgB (D : va_G) (cy : Nat → ClassId) (s : State) (σ0 σ : SG) (H : Heap) (locs : List Loc) (N n : Nat) : Prop := sgG D cy (sgA σ0 s.heap.size) s.heap σ H locs ∧ sgX s.heap.size σ0 σ ∧ N + sgPot σ ≤ n + sgPot σ0
/-- what a walk rests on -/
def sgFx (p : Program) (s : State) (m : MethodId) (args : Array Value) (meth : Method) (c : Code) (cc : ByteArray) (nL : Nat) (own : String) (Ts : List Cond) (D : va_G) (cy : Nat → ClassId) (eda ca : Nat) (ia : Nat → Nat) (σ0 : SG) : Prop := CallFix p m c cc nL s args Ts own ∧ va_K D vwCl (tyL cy) s ∧ NL s ∧ JS eda ca ia (sgA σ0 s.heap.size) s s.heap ∧ meth.locks = false
variable {p : Program} {l : Launch} {e : Env} {R : Room} {s : State} {m : MethodId} {args : Array Value} {below : List Frame} {meth : Method} {c : Code} {H : Heap} {locs : List Loc} {Q : State → Prop} {cc bytes : ByteArray} {pc : Nat} {ls : Array Slot} {rest As st0 : List Value}
variable {D : va_G} {cy : Nat → ClassId} {σ0 σ σ2 : SG} {eda ca : Nat} {ia : Nat → Nat} {y x : MethodName} {WS Ts : List Cond} {fr lo mc n nL index maxL sc b k N n9 a ci t N9 : Nat} {av : List Value} {Post : Option Value → SG → Prop} {own C host ref : String} {ret : Option FieldType} {T : u_T}
theorem sgB_A : ∀ q, s.heap.size ≤ q → sgA σ0 s.heap.size q := fun _ h => Or.inr h
/-- the same heap but for its values -/
theorem sgB_w {H1 : Heap} {locs1 : List Loc} (hB : sgB D cy s σ0 σ H locs N n) (hG : sgG D cy (sgA σ0 s.heap.size) s.heap σ2 H1 locs1) (h1 : ∀ a, sgT σ2 a = sgT σ a) (h2 : ∀ a, sgN σ2 a = sgN σ a) (h3 : sgPot σ2 ≤ sgPot σ) : sgB D cy s σ0 σ2 H1 locs1 N n :=
  ⟨hG, ⟨fun a ha => by rw [h1, h2]; exact hB.2.1.1 a ha, fun a ha => hB.2.1.2 a (by rw [← h1]; exact ha)⟩, by have := hB.2.2; omega⟩
theorem sgB_T (hB : sgB D cy s σ0 σ H locs N n) {a t : Nat} (h : sgT σ0 a = t) (ht : t ≠ 0) : sgT σ a = t := by rw [(hB.2.1.1 a (by rw [h]; exact ht)).1]; exact h
/-- a call -/
theorem sgB_kk {a : Array Value} (hr : va_Run p l e R s m args below meth c H locs k N mc (sc + sgPot σ) (F0 m pc ls st0) rest (sgQ D cy σ H.size sc Post a) (sgA σ H.size)) (hB : sgB D cy s σ0 σ H locs N n)
    (kk : ∀ (H : Heap) (locs : List Loc) (v : Option Value) (σ2 : SG) (N : Nat), sgB D cy s σ0 σ2 H locs N (n + sc) → sgX s.heap.size σ σ2 → Post v σ2 → W p l e R s m args below meth c H locs (k + mc) N Q (F0 m (pc + 3) ls (v.toList ++ rest))) : W p l e R s m args below meth c H locs k N Q (F0 m pc ls st0) :=
  sg_kk hr hB.1 sgB_A (fun H1 locs1 v σ2 n2 g1 g2 g3 g4 => kk H1 locs1 v σ2 n2 ⟨g1, sgX_tr (Nat.le_refl _) hB.2.1 g2, by have := hB.2.2; omega⟩ g2 g3)
theorem sgB_pv (F : sgFx p s m args meth c cc nL own Ts D cy eda ca ia σ0) (hB : sgB D cy s σ0 σ H locs N n) : ∀ U : State, U.heap = H → s.WarmedH U.vm → va_Pc As (sgPc D cy eda ca ia σ H.size) As.toArray U := sg_pv hB.1 F.2.1 F.2.2.1 F.2.2.2.1 sgB_A
theorem sg_callS (F : sgFx p s m args meth c cc nL own Ts D cy eda ca ia σ0) (hB : sgB D cy s σ0 σ H locs N n) (hM : sgM l D cy eda ca ia σ H.size y WS fr lo mc sc As Post) (cw : CallB R s args own index y bytes maxL ret WS { frames := fr, cells := mc, slots := sc + sgPot σ, locals := lo } mc (sc + sgPot σ) n9 ∧ (Cond.static y).before args s = true) (hn : As.length = n9) (hsize : ls.size = nL) (hst : st0 = As.reverse ++ rest) (hW : (rest.map fun v => v.category).sum ≤ 8) (hdg : decode cc pc = .ok (.invokestatic index, 3)) (hk : k + mc ≤ R.cells) (hs : n + sc + sgPot σ0 ≤ R.slots)
    (kk : ∀ (H : Heap) (locs : List Loc) (v : Option Value) (σ2 : SG) (N : Nat), sgB D cy s σ0 σ2 H locs N (n + sc) → sgX s.heap.size σ σ2 → Post v σ2 → W p l e R s m args below meth c H locs (k + mc) N Q (F0 m (pc + 3) ls (v.toList ++ rest))) : W p l e R s m args below meth c H locs k N Q (F0 m pc ls st0) :=
  sgB_kk (va_runS (g := F0 m pc ls st0) F.1 hM cw ⟨sgPc_blind, sgB_pv F hB⟩ rfl hn hsize hst (lv_room hW) hdg ⟨hk, by have := hB.2.2; omega⟩) hB kk
theorem sg_recv (hK : va_K D vwCl (tyL cy) s) (hB : sgB D cy s σ0 σ H locs N n) {r : vw_C} (ha : sgT σ b = ci + 1) (h100 : ci + 1 < 100) (hc : vwCl[ci]? = some r) : ∃ cell : Cell, H[b]? = some cell ∧ cell.vm.isStatics = false ∧ s.vm.findClass r.1 = some cell.cls := by
  obtain ⟨q, hq⟩ := sgL_at (cy := cy) hB.1.1.2 (a := b) (by omega)
  rw [sgE_ob ha h100] at hq
  exact va_recv hK (sgL_P hB.1.1) hc hq
theorem sg_callV {r : vw_C} (F : sgFx p s m args meth c cc nL own Ts D cy eda ca ia σ0) (hB : sgB D cy s σ0 σ H locs N n) (hM : sgM l D cy eda ca ia σ H.size y WS fr lo mc sc (.ref b :: As) Post) (cw : CallW R s args own C index y bytes maxL ret WS { frames := fr, cells := mc, slots := sc + sgPot σ, locals := lo } mc (sc + sgPot σ) n9) (hc : vwCl[ci]? = some r) (hC : r.1 = C) (h100 : ci + 1 < 100) (hn : As.length = n9) (hsize : ls.size = nL) (hst : st0 = As.reverse ++ .ref b :: rest) (hW : (rest.map fun v => v.category).sum ≤ 8) (hdg : decode cc pc = .ok (.invokevirtual index, 3)) (hk : k + mc ≤ R.cells) (hs : n + sc + sgPot σ0 ≤ R.slots) (ha : sgT σ b = ci + 1)
    (kk : ∀ (H : Heap) (locs : List Loc) (v : Option Value) (σ2 : SG) (N : Nat), sgB D cy s σ0 σ2 H locs N (n + sc) → sgX s.heap.size σ σ2 → Post v σ2 → W p l e R s m args below meth c H locs (k + mc) N Q (F0 m (pc + 3) ls (v.toList ++ rest))) : W p l e R s m args below meth c H locs k N Q (F0 m pc ls st0) :=
  sgB_kk (va_runV (g := F0 m pc ls st0) F.1 hM cw ⟨sgPc_blind, hC ▸ sg_recv F.2.1 hB ha h100 hc, sgB_pv F hB⟩ rfl hn hsize hst (lv_room hW) hdg ⟨hk, by have := hB.2.2; omega⟩) hB kk
theorem sg_callI (F : sgFx p s m args meth c cc nL own Ts D cy eda ca ia σ0) (hB : sgB D cy s σ0 σ H locs N n) (hM : sgM l D cy eda ca ia σ H.size y WS fr lo mc sc (.ref b :: As) Post) (cw : CallB R s args own index y bytes maxL none WS { frames := fr, cells := mc, slots := sc + sgPot σ, locals := lo } mc (sc + sgPot σ) n9 ∧ y.name = "<init>" ∧ (Cond.instanceMethod y).before args s = true) (hn : As.length = n9) (hsize : ls.size = nL) (hst : st0 = As.reverse ++ .ref b :: rest) (hW : (rest.map fun v => v.category).sum ≤ 8) (hdg : decode cc pc = .ok (.invokespecial index, 3)) (hk : k + mc ≤ R.cells) (hs : n + sc + sgPot σ0 ≤ R.slots)
    (kk : ∀ (H : Heap) (locs : List Loc) (v : Option Value) (σ2 : SG) (N : Nat), sgB D cy s σ0 σ2 H locs N (n + sc) → sgX s.heap.size σ σ2 → Post v σ2 → W p l e R s m args below meth c H locs (k + mc) N Q (F0 m (pc + 3) ls (v.toList ++ rest))) : W p l e R s m args below meth c H locs k N Q (F0 m pc ls st0) :=
  sgB_kk (va_runI (g := F0 m pc ls st0) F.1 hM cw ⟨sgPc_blind, sgB_pv F hB⟩ rfl hn hsize hst (lv_room hW) hdg ⟨hk, by have := hB.2.2; omega⟩) hB kk
/-- the method's end -/
theorem sg_out {v : Option Value} {g : JFrame} (hB : sgB D cy s σ0 σ H locs N n) (hk : k ≤ mc) (hn : n ≤ sc) (hP : Post v σ) (kk : (∀ t : State, t.heap = H → s.WarmedH t.vm → sgQ D cy σ0 s.heap.size sc Post args s (.returned v) t) → (∀ q ∈ locs, sgA σ0 s.heap.size q.base) → W p l e R s m args below meth c H locs mc (sc + sgPot σ0) (MQ below (sgQ D cy σ0 s.heap.size sc Post) args s mc (sc + sgPot σ0) (sgA σ0 s.heap.size)) g) : W p l e R s m args below meth c H locs k N (MQ below (sgQ D cy σ0 s.heap.size sc Post) args s mc (sc + sgPot σ0) (sgA σ0 s.heap.size)) g := by
  refine sg_have (fun hh => ?_)
  have h2 := hB.2.2
  refine W.widen hk (show N ≤ sc + sgPot σ0 by omega) (kk (fun t ht _ => ⟨⟨v, σ, rfl, by rw [ht]; exact hB.1.1, hB.2.1, hP, by rw [ht]; omega⟩, hB.1.2.2.F ht⟩) hB.1.2.2.2.2)
theorem sg_iret {v : Int32} (F : sgFx p s m args meth c cc nL own Ts D cy eda ca ia σ0) (hB : sgB D cy s σ0 σ H locs N n) (hr : meth.sig.returnType = some .int) (hdg : decode cc pc = .ok (.ireturn, 1)) (hk : k ≤ mc) (hn : n ≤ sc) (hP : Post (some (.int v)) σ) : W p l e R s m args below meth c H locs k N (MQ below (sgQ D cy σ0 s.heap.size sc Post) args s mc (sc + sgPot σ0) (sgA σ0 s.heap.size)) (F0 m pc ls [.int v]) := by
  have hlocks := F.2.2.2.2
  exact sg_out hB hk hn hP (fun h1 h2 => W.iret F.1.1 F.1.2.1 hr h1 h2 hdg hlocks)
theorem sg_zret {v : Int32} {ty : FieldType} (F : sgFx p s m args meth c cc nL own Ts D cy eda ca ia σ0) (hB : sgB D cy s σ0 σ H locs N n) (hr : meth.sig.returnType = some ty) (hdg : decode cc pc = .ok (.ireturn, 1)) (hk : k ≤ mc) (hn : n ≤ sc) (hv : narrow ty (.int v) = .int v) (hP : Post (some (.int v)) σ) : W p l e R s m args below meth c H locs k N (MQ below (sgQ D cy σ0 s.heap.size sc Post) args s mc (sc + sgPot σ0) (sgA σ0 s.heap.size)) (F0 m pc ls [.int v]) := by
  have hlocks := F.2.2.2.2
  exact sg_out hB hk hn hP (fun h1 h2 => W.zret F.1.1 F.1.2.1 hr hv h1 h2 hdg hlocks)
theorem sg_vret (F : sgFx p s m args meth c cc nL own Ts D cy eda ca ia σ0) (hB : sgB D cy s σ0 σ H locs N n) (hr : meth.sig.returnType = none) (hdg : decode cc pc = .ok (.return_, 1)) (hk : k ≤ mc) (hn : n ≤ sc) (hP : Post none σ) : W p l e R s m args below meth c H locs k N (MQ below (sgQ D cy σ0 s.heap.size sc Post) args s mc (sc + sgPot σ0) (sgA σ0 s.heap.size)) (F0 m pc ls []) := by
  have hlocks := F.2.2.2.2
  exact sg_out hB hk hn hP (fun h1 h2 => W.vret F.1.1 F.1.2.1 hr h1 h2 hdg hlocks)
theorem sg_lret {v : Int64} (F : sgFx p s m args meth c cc nL own Ts D cy eda ca ia σ0) (hB : sgB D cy s σ0 σ H locs N n) (hr : meth.sig.returnType = some .long) (hdg : decode cc pc = .ok (.lreturn, 1)) (hk : k ≤ mc) (hn : n ≤ sc) (hP : Post (some (.long v)) σ) : W p l e R s m args below meth c H locs k N (MQ below (sgQ D cy σ0 s.heap.size sc Post) args s mc (sc + sgPot σ0) (sgA σ0 s.heap.size)) (F0 m pc ls [.long v]) := by
  have hlocks := F.2.2.2.2
  exact sg_out hB hk hn hP (fun h1 h2 => W.lret F.1.1 F.1.2.1 hr h1 h2 hdg hlocks)
theorem sg_aret {v : Value} {rt : FieldType} (F : sgFx p s m args meth c cc nL own Ts D cy eda ca ia σ0) (hB : sgB D cy s σ0 σ H locs N n) (hr : meth.sig.returnType = some rt) (hrt : (∃ n, rt = .object n) ∨ ∃ t, rt = .array t) (hv : v = .null ∨ ∃ a, v = .ref a) (hdg : decode cc pc = .ok (.areturn, 1)) (hk : k ≤ mc) (hn : n ≤ sc) (hP : Post (some v) σ) : W p l e R s m args below meth c H locs k N (MQ below (sgQ D cy σ0 s.heap.size sc Post) args s mc (sc + sgPot σ0) (sgA σ0 s.heap.size)) (F0 m pc ls [v]) := by
  have hlocks := F.2.2.2.2
  exact sg_out hB hk hn hP (fun h1 h2 => W.aret F.1.1 F.1.2.1 hr hrt hv h1 h2 hdg hlocks)
/-- from a body to its contract -/
theorem sg_ofW {WS' : List Cond} {lv : List (Nat × Value)} (hy : plainName y.cls = true) (hw : WS = Cond.code y cc maxL ret :: WS') (hn : (lg_sl av).length ≤ maxL) (hlv : lv_args 0 av = lv)
    (body : ∀ (p : Program) (e : Env) (s : State) (m : MethodId) (below : List Frame) (meth : Method) (c : Code) (ls : Array Slot) (H : Heap) (N : Nat), meth.sig.returnType = ret → meth.name = y.name → sgFx p s m av.toArray meth c cc maxL y.cls WS D cy eda ca ia σ → sgB D cy s σ σ H [] N 0 → lv_has ls maxL lv → W p l e { frames := fr, cells := mc, slots := sc + sgPot σ, locals := lo } s m av.toArray below meth c H [] 0 N (MQ below (sgQ D cy σ s.heap.size sc Post) av.toArray s mc (sc + sgPot σ) (sgA σ s.heap.size)) (F0 m 0 ls [])) (sz : Nat) : sgM l D cy eda ca ia σ sz y WS fr lo mc sc av Post := by
  refine ro_ofW hy hw hn hlv (fun p e s m below meth c ls hx hb hr hml hown hlocks hnm hts hpre hl => ?_)
  obtain ⟨⟨rfl, hP⟩, hK, hN, hJ⟩ := hpre
  exact body p e s m below meth c ls s.heap 0 hr hnm ⟨⟨hx, hb, hml, hown, hts⟩, hK, hN, hJ, hlocks⟩ ⟨⟨hP, fun a ha => Or.inl ha, va_S.rf⟩, sgX_rf, by omega⟩ hl
end SGK
