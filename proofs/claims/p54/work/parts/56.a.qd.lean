section QD
/-! a method that answers 0 has made nothing -/
def sgQd (D : va_G) (cy : Nat → ClassId) (σ : SG) (sz c : Nat) (Post : Option Value → SG → Prop) : Array Value → State → Outcome → State → Prop := fun a st oc t => sgQ D cy σ sz c Post a st oc t ∧ (oc = .returned (some (.int 0)) → t.heap.size ≤ st.heap.size ∧ hs t.heap ≤ hs st.heap)
abbrev sgMd (l : Launch) (D : va_G) (cy : Nat → ClassId) (eda ca : Nat) (ia : Nat → Nat) (σ : SG) (sz : Nat) (y : MethodName) (WS : List Cond) (fr lo mc c : Nat) (av : List Value) (Post : Option Value → SG → Prop) : Prop := Met l y WS { frames := fr, cells := mc, slots := c + sgPot σ, locals := lo } (va_Pc av (sgPc D cy eda ca ia σ sz)) (sgQd D cy σ sz c Post) mc (c + sgPot σ) (sgA σ sz)
variable {p : Program} {l : Launch} {e : Env} {R : Room} {s : State} {m : MethodId} {args : Array Value} {below : List Frame} {meth : Method} {c : Code} {H : Heap} {locs : List Loc} {Q : State → Prop} {cc bytes : ByteArray} {pc : Nat} {ls : Array Slot} {rest As st0 : List Value}
variable {D : va_G} {cy : Nat → ClassId} {σ0 σ σ2 : SG} {eda ca : Nat} {ia : Nat → Nat} {y : MethodName} {WS Ts : List Cond} {fr lo mc n nL index maxL sc b k N n9 ci : Nat} {av : List Value} {Post : Option Value → SG → Prop} {own C : String} {ret : Option FieldType}
theorem sg_haveC {g : JFrame} (h : H.size ≤ s.heap.size + k → W p l e R s m args below meth c H locs k N Q g) : W p l e R s m args below meth c H locs k N Q g := by
  intro T hT X
  refine h ?_ T hT X
  have h2 := X.same.2.2.1
  have e9 : (T.setVm s.vm).heap = T.heap := rfl
  rw [e9, hT] at h2
  exact h2
theorem sg_tightC {g : JFrame} {k2 : Nat} (hn : H.size ≤ s.heap.size + k2) (kk : W p l e R s m args below meth c H locs k2 N Q g) : W p l e R s m args below meth c H locs k N Q g := by
  intro T hT X
  refine kk T hT { X with same := ?_ }
  have e9 : (T.setVm s.vm).heap = T.heap := rfl
  obtain ⟨a1, a2, a3, a4, a5, a6⟩ := X.same
  refine ⟨a1, a2, ?_, a4, a5, a6⟩
  rw [e9, hT]
  exact hn
theorem sg_outd {v : Option Value} {g : JFrame} (hB : sgB D cy s σ0 σ H locs N n) (hk : k ≤ mc) (hn : n ≤ sc) (hP : Post v σ) (hz : v = some (.int 0) → k = 0 ∧ n = 0 ∧ sgPot σ0 ≤ sgPot σ) (kk : (∀ t : State, t.heap = H → s.WarmedH t.vm → sgQd D cy σ0 s.heap.size sc Post args s (.returned v) t) → (∀ q ∈ locs, sgA σ0 s.heap.size q.base) → W p l e R s m args below meth c H locs mc (sc + sgPot σ0) (MQ below (sgQd D cy σ0 s.heap.size sc Post) args s mc (sc + sgPot σ0) (sgA σ0 s.heap.size)) g) : W p l e R s m args below meth c H locs k N (MQ below (sgQd D cy σ0 s.heap.size sc Post) args s mc (sc + sgPot σ0) (sgA σ0 s.heap.size)) g := by
  refine sg_have (fun hh => ?_)
  refine sg_haveC (fun hc => ?_)
  have h2 := hB.2.2
  refine W.widen hk (show N ≤ sc + sgPot σ0 by omega) (kk (fun t ht _ => ⟨⟨⟨v, σ, rfl, by rw [ht]; exact hB.1.1, hB.2.1, hP, by rw [ht]; omega⟩, hB.1.2.2.F ht⟩, fun z => ?_⟩) hB.1.2.2.2.2)
  have z2 : v = some (.int 0) := by injection z
  obtain ⟨a1, a2, a3⟩ := hz z2
  rw [ht]
  exact ⟨by omega, by omega⟩
theorem sg_iretd {v : Int32} (F : sgFx p s m args meth c cc nL own Ts D cy eda ca ia σ0) (hB : sgB D cy s σ0 σ H locs N n) (hr : meth.sig.returnType = some .int) (hdg : decode cc pc = .ok (.ireturn, 1)) (hk : k ≤ mc) (hn : n ≤ sc) (hz : v = 0 → k = 0 ∧ n = 0 ∧ sgPot σ0 ≤ sgPot σ) (hP : Post (some (.int v)) σ) : W p l e R s m args below meth c H locs k N (MQ below (sgQd D cy σ0 s.heap.size sc Post) args s mc (sc + sgPot σ0) (sgA σ0 s.heap.size)) (F0 m pc ls [.int v]) := by
  have hlocks := F.2.2.2.2
  exact sg_outd hB hk hn hP (fun z => hz (by injection z with z; injection z)) (fun h1 h2 => W.iret F.1.1 F.1.2.1 hr h1 h2 hdg hlocks)
theorem sg_ofWd {WS' : List Cond} {lv : List (Nat × Value)} (hy : plainName y.cls = true) (hw : WS = Cond.code y cc maxL ret :: WS') (hn : (lg_sl av).length ≤ maxL) (hlv : lv_args 0 av = lv)
    (body : ∀ (p : Program) (e : Env) (s : State) (m : MethodId) (below : List Frame) (meth : Method) (c : Code) (ls : Array Slot) (H : Heap) (N : Nat), meth.sig.returnType = ret → meth.name = y.name → sgFx p s m av.toArray meth c cc maxL y.cls WS D cy eda ca ia σ → sgB D cy s σ σ H [] N 0 → lv_has ls maxL lv → W p l e { frames := fr, cells := mc, slots := sc + sgPot σ, locals := lo } s m av.toArray below meth c H [] 0 N (MQ below (sgQd D cy σ s.heap.size sc Post) av.toArray s mc (sc + sgPot σ) (sgA σ s.heap.size)) (F0 m 0 ls [])) (sz : Nat) : sgMd l D cy eda ca ia σ sz y WS fr lo mc sc av Post := by
  refine ro_ofW hy hw hn hlv (fun p e s m below meth c ls hx hb hr hml hown hlocks hnm hts hpre hl => ?_)
  obtain ⟨⟨rfl, hP⟩, hK, hN, hJ⟩ := hpre
  exact body p e s m below meth c ls s.heap 0 hr hnm ⟨⟨hx, hb, hml, hown, hts⟩, hK, hN, hJ, hlocks⟩ ⟨⟨hP, fun a ha => Or.inl ha, va_S.rf⟩, sgX_rf, by omega⟩ hl
/-- a call of such a method: 0, or what it may have made -/
theorem sg_callVd {r : vw_C} (F : sgFx p s m args meth c cc nL own Ts D cy eda ca ia σ0) (hB : sgB D cy s σ0 σ H locs N n) (hM : sgMd l D cy eda ca ia σ H.size y WS fr lo mc sc (.ref b :: As) Post) (cw : CallW R s args own C index y bytes maxL ret WS { frames := fr, cells := mc, slots := sc + sgPot σ, locals := lo } mc (sc + sgPot σ) n9) (hc : vwCl[ci]? = some r) (hC : r.1 = C) (h100 : ci + 1 < 100) (hn : As.length = n9) (hsize : ls.size = nL) (hst : st0 = As.reverse ++ .ref b :: rest) (hW : (rest.map fun v => v.category).sum ≤ 8) (hdg : decode cc pc = .ok (.invokevirtual index, 3)) (hk : k + mc ≤ R.cells) (hsl : n + sc + sgPot σ0 ≤ R.slots) (ha : sgT σ b = ci + 1) (hPf : ∀ v σ2, Post v σ2 → ∃ w : Int32, v = some (.int w) ∧ (w = 0 → σ2 = σ))
    (kk0 : ∀ (H : Heap) (locs : List Loc) (N : Nat), sgB D cy s σ0 σ H locs N n → Post (some (.int 0)) σ → W p l e R s m args below meth c H locs k N Q (F0 m (pc + 3) ls (.int 0 :: rest)))
    (kk1 : ∀ (H : Heap) (locs : List Loc) (w : Int32) (σ2 : SG) (N : Nat), ¬ w = 0 → sgB D cy s σ0 σ2 H locs N (n + sc) → Post (some (.int w)) σ2 → W p l e R s m args below meth c H locs (k + mc) N Q (F0 m (pc + 3) ls (.int w :: rest))) : W p l e R s m args below meth c H locs k N Q (F0 m pc ls st0) := by
  have hr : va_Run p l e R s m args below meth c H locs k N mc (sc + sgPot σ) (F0 m pc ls st0) rest (sgQd D cy σ H.size sc Post (Value.ref b :: As).toArray) (sgA σ H.size) := va_runV (g := F0 m pc ls st0) F.1 hM cw ⟨sgPc_blind, hC ▸ sg_recv F.2.1 hB ha h100 hc, sgB_pv F hB⟩ rfl hn hsize hst (lv_room hW) hdg ⟨hk, by have := hB.2.2; omega⟩
  have hG := hB.1
  have hA := sgB_A (s := s) (σ0 := σ0)
  refine sg_have (fun hh => ?_)
  refine sg_haveC (fun hcc => ?_)
  intro T hT X
  obtain ⟨v', st₀, t, T', L, h0, X', hL, e1, e2, ⟨⟨⟨v, σ2, hv, q1, q2, q3, q4⟩, hz, hk9⟩, hzero⟩, st⟩ := hr T hT X
  cases hv
  rw [h0] at hz hk9 q4
  have hF : ∀ q, sgA σ H.size q → sgA σ0 s.heap.size q := fun q hq => hq.elim (hG.2.1 q) (fun z => hA q (Nat.le_trans hG.2.2.1 z))
  have hk1 : ∀ q : Nat, q < H.size → ¬ sgA σ H.size q → T'.heap[q]? = H[q]? := fun q h1 h2 => by rw [e1]; exact hk9 q h1 h2
  have hz1 : H.size ≤ T'.heap.size := by rw [e1]; exact hz
  have hS1 : va_S (sgA σ0 s.heap.size) s.heap T'.heap (locs ++ L) := ⟨Nat.le_trans hG.2.2.1 hz1, fun q h1 h2 => by rw [hk1 q (Nat.lt_of_lt_of_le h1 hG.2.2.1) (fun z => h2 (hF q z))]; exact hG.2.2.2.1 q h1 h2, fun q hq => by
      rcases List.mem_append.mp hq with h | h
      · exact hG.2.2.2.2 q h
      · exact hF _ (hL q h)⟩
  have q1' : sgP D cy σ2 T'.heap := by rw [e1]; exact q1
  have q4' : hs T'.heap + sgPot σ2 ≤ hs H + (sc + sgPot σ) := by rw [e1]; exact q4
  have hge : hs s.heap ≤ hs T'.heap := by
    have h9 : hs (T'.setVm s.vm).heap = _ := hs_same X'.same
    have e9 : (T'.setVm s.vm).heap = T'.heap := rfl
    rw [e9] at h9
    omega
  have hx2 : sgX s.heap.size σ σ2 := ⟨q2.1, fun a ha => (q2.2 a ha).imp id (fun z => Nat.le_trans hG.2.2.1 z)⟩
  have hg2 : ∀ a, sgT σ2 a ≠ 0 → sgA σ0 s.heap.size a := fun a ha => (q2.2 a ha).elim (hG.2.1 a) (fun z => hA a (Nat.le_trans hG.2.2.1 z))
  obtain ⟨w, ev, hw0⟩ := hPf v' σ2 q3
  subst ev
  by_cases hw : w = 0
  · subst hw
    have e0 := hw0 rfl
    subst e0
    obtain ⟨g1, g2⟩ := hzero rfl
    rw [h0] at g1 g2
    have g1' : T'.heap.size ≤ H.size := by rw [e1]; exact g1
    have g2' : hs T'.heap ≤ hs H := by rw [e1]; exact g2
    obtain ⟨t2, a1, b1⟩ := sg_tightC (k := k + mc) (k2 := k) (show T'.heap.size ≤ s.heap.size + k by omega) (sg_tight (slots := N + (sc + sgPot σ2)) (n2 := N) (show hs T'.heap ≤ hs s.heap + N by omega) (kk0 T'.heap (locs ++ L) N ⟨⟨q1', hg2, hS1⟩, hB.2.1, hB.2.2⟩ q3)) T' rfl X'
    exact ⟨t2, st t2 a1, b1⟩
  · have h2 := hB.2.2
    have hn2 : hs T'.heap ≤ hs s.heap + (N + (sc + sgPot σ) - sgPot σ2) := by omega
    obtain ⟨t2, a1, b1⟩ := sg_tight hn2 (kk1 T'.heap (locs ++ L) w σ2 (N + (sc + sgPot σ) - sgPot σ2) hw ⟨⟨q1', hg2, hS1⟩, sgX_tr (Nat.le_refl _) hB.2.1 hx2, by omega⟩ q3) T' rfl X'
    exact ⟨t2, st t2 a1, b1⟩
end QD
