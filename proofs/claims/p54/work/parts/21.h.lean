section SGQ
/-- a box: a made one, or one of the cache's -/
def sgBx (ia : Nat → Nat) (σ : SG) (y : Nat) : Prop := sgT σ y = 2 ∨ ∃ k, k < 256 ∧ y = ia k
/-- nothing old has changed, new are boxes, iterators, arrays of ints and booleans alone -/
def sgQt (σ σ2 : SG) : Prop := (∀ a, sgT σ a ≠ 0 → sgT σ2 a = sgT σ a ∧ sgN σ2 a = sgN σ a ∧ ∀ k, sgI σ2 a k = sgI σ a k ∧ sgR σ2 a k = sgR σ a k ∧ sgJ σ2 a k = sgJ σ a k) ∧ ∀ a, sgT σ a = 0 → sgT σ2 a = 0 ∨ sgT σ2 a = 2 ∨ sgT σ2 a = 4 ∨ sgT σ2 a = 100 ∨ sgT σ2 a = 111
variable {σ σ2 σ3 : SG} {q t n a k : Nat} {ia : Nat → Nat}
theorem sgQt_rf : sgQt σ σ := ⟨fun _ _ => ⟨rfl, rfl, fun _ => ⟨rfl, rfl, rfl⟩⟩, fun _ h => Or.inl h⟩
theorem sgQt_tr (h : sgQt σ σ2) (h2 : sgQt σ2 σ3) : sgQt σ σ3 := by
  refine ⟨fun a ha => ?_, fun a ha => ?_⟩
  · obtain ⟨e1, e2, e3⟩ := h.1 a ha
    obtain ⟨f1, f2, f3⟩ := h2.1 a (by rw [e1]; exact ha)
    exact ⟨f1.trans e1, f2.trans e2, fun k => ⟨(f3 k).1.trans (e3 k).1, (f3 k).2.1.trans (e3 k).2.1, (f3 k).2.2.trans (e3 k).2.2⟩⟩
  · by_cases z : sgT σ2 a = 0
    · exact h2.2 a z
    · rw [(h2.1 a z).1]
      exact h.2 a ha
theorem sgQt_nw (hq : sgT σ q = 0) (ht : t = 2 ∨ t = 4 ∨ t = 100 ∨ t = 111) : sgQt σ (sgNw σ q t n) := by
  refine ⟨fun a ha => ?_, fun a ha => ?_⟩
  · have e : a ≠ q := fun z => ha (by rw [z]; exact hq)
    exact ⟨by rw [sgNw_T, if_neg e], by rw [sgNw_N, if_neg e], fun k => ⟨by rw [sgNw_I, if_neg e], by rw [sgNw_R, if_neg e], by rw [sgNw_J, if_neg e]⟩⟩
  · rw [sgNw_T]
    by_cases e : a = q
    · rw [if_pos e]; exact Or.inr ht
    · rw [if_neg e]; exact Or.inl ha
theorem sgQt_PI {x : Int32} (h : sgQt σ σ2) (ha : sgT σ a = 0) : sgQt σ (sgPI σ2 a k x) := by
  refine ⟨fun b hb => ?_, h.2⟩
  obtain ⟨e1, e2, e3⟩ := h.1 b hb
  refine ⟨e1, e2, fun j => ⟨?_, (e3 j).2⟩⟩
  rw [sgI_PI, if_neg (fun z => hb (by rw [z.1]; exact ha))]
  exact (e3 j).1
theorem sgQt_PR {x : Option Nat} (h : sgQt σ σ2) (ha : sgT σ a = 0) : sgQt σ (sgPR σ2 a k x) := by
  refine ⟨fun b hb => ?_, h.2⟩
  obtain ⟨e1, e2, e3⟩ := h.1 b hb
  refine ⟨e1, e2, fun j => ⟨(e3 j).1, ?_, (e3 j).2.2⟩⟩
  rw [sgR_PR, if_neg (fun z => hb (by rw [z.1]; exact ha))]
  exact (e3 j).2.1
theorem sgBx_Qt (h : sgQt σ σ2) {y : Nat} (hy : sgBx ia σ y) : sgBx ia σ2 y := by
  rcases hy with hy | hy
  · exact Or.inl (by rw [(h.1 y (by omega)).1]; exact hy)
  · exact Or.inr hy
theorem sgBx_K {y : Nat} (hy : sgBx ia σ y) : sgK ia σ y := by
  rcases hy with hy | hy
  · exact Or.inl hy
  · exact Or.inr (Or.inr (Or.inr (Or.inr hy)))
end SGQ
/-- a list's own cell and its array: nothing else has changed, nothing is new -/
def sgOn (l0 r : Nat) (σ σ2 : SG) : Prop := (∀ a, sgT σ2 a = sgT σ a ∧ sgN σ2 a = sgN σ a) ∧ (∀ a k, sgJ σ2 a k = sgJ σ a k) ∧ (∀ a k, a ≠ l0 → sgI σ2 a k = sgI σ a k) ∧ (∀ a k, a ≠ r → sgR σ2 a k = sgR σ a k)
theorem sgOn_rf {l0 r : Nat} {σ : SG} : sgOn l0 r σ σ := ⟨fun _ => ⟨rfl, rfl⟩, fun _ _ => rfl, fun _ _ _ => rfl, fun _ _ _ => rfl⟩
theorem sgOn_tr {l0 r : Nat} {σ σ2 σ3 : SG} (h : sgOn l0 r σ σ2) (h2 : sgOn l0 r σ2 σ3) : sgOn l0 r σ σ3 := ⟨fun a => ⟨(h2.1 a).1.trans (h.1 a).1, (h2.1 a).2.trans (h.1 a).2⟩, fun a k => (h2.2.1 a k).trans (h.2.1 a k), fun a k ha => (h2.2.2.1 a k ha).trans (h.2.2.1 a k ha), fun a k ha => (h2.2.2.2 a k ha).trans (h.2.2.2 a k ha)⟩
theorem sgOn_I {l0 r k : Nat} {σ σ2 : SG} {x : Int32} (h : sgOn l0 r σ σ2) : sgOn l0 r σ (sgPI σ2 l0 k x) := ⟨h.1, h.2.1, fun a j ha => by rw [sgI_PI, if_neg (fun z => ha z.1)]; exact h.2.2.1 a j ha, h.2.2.2⟩
theorem sgOn_R {l0 r k : Nat} {σ σ2 : SG} {x : Option Nat} (h : sgOn l0 r σ σ2) : sgOn l0 r σ (sgPR σ2 r k x) := ⟨h.1, h.2.1, h.2.2.1, fun a j ha => by rw [sgR_PR, if_neg (fun z => ha z.1)]; exact h.2.2.2 a j ha⟩
theorem sgOn_C {l0 r a0 sp dp n : Nat} {σ σ2 : SG} (h : sgOn l0 r σ σ2) : sgOn l0 r σ (sgCp σ2 a0 r sp dp n) := ⟨h.1, h.2.1, h.2.2.1, fun a j ha => by rw [sgCp_R, if_neg ha]; exact h.2.2.2 a j ha⟩
section SGR
variable {p : Program} {l : Launch} {e : Env} {R : Room} {s : State} {m : MethodId} {args : Array Value} {below : List Frame} {meth : Method} {c : Code} {H : Heap} {locs : List Loc} {Q : State → Prop} {cc bytes : ByteArray} {pc : Nat} {ls : Array Slot} {rest As st0 : List Value}
variable {D : va_G} {cy : Nat → ClassId} {σ0 σ σ2 : SG} {eda ca : Nat} {ia : Nat → Nat} {y x : MethodName} {WS Ts : List Cond} {fr lo mc n nL index maxL sc ms b k N n9 a ci t N9 : Nat} {av : List Value} {Post : Option Value → SG → Prop} {own C host ref : String} {ret : Option FieldType} {T : u_T} {i : Int32}
theorem sg_callVr (F : sgFx p s m args meth c cc nL own Ts D cy eda ca ia σ0) (hB : sgB D cy s σ0 σ H locs N n) (hM : sgM l D cy eda ca ia σ H.size y WS fr lo mc sc (.ref b :: As) Post) (cw : CallW R s args own C index y bytes maxL ret WS { frames := fr, cells := mc, slots := sc + sgPot σ, locals := lo } mc (sc + sgPot σ) n9) (hn : As.length = n9) (hsize : ls.size = nL) (hst : st0 = As.reverse ++ .ref b :: rest) (hW : (rest.map fun v => v.category).sum ≤ 8) (hdg : decode cc pc = .ok (.invokevirtual index, 3)) (hk : k + mc ≤ R.cells) (hs : n + sc + sgPot σ0 ≤ R.slots) (hr : ∃ cell : Cell, H[b]? = some cell ∧ cell.vm.isStatics = false ∧ s.vm.findClass C = some cell.cls)
    (kk : ∀ (H : Heap) (locs : List Loc) (v : Option Value) (σ2 : SG) (N : Nat), sgB D cy s σ0 σ2 H locs N (n + sc) → sgX s.heap.size σ σ2 → Post v σ2 → W p l e R s m args below meth c H locs (k + mc) N Q (F0 m (pc + 3) ls (v.toList ++ rest))) : W p l e R s m args below meth c H locs k N Q (F0 m pc ls st0) :=
  sgB_kk (va_runV (g := F0 m pc ls st0) F.1 hM cw ⟨sgPc_blind, hr, sgB_pv F hB⟩ rfl hn hsize hst (lv_room hW) hdg ⟨hk, by have := hB.2.2; omega⟩) hB kk
theorem sg_rbx {y : Nat} (F : sgFx p s m args meth c cc nL own Ts D cy eda ca ia σ0) (hB : sgB D cy s σ0 σ H locs N n) (h : sgBx ia σ y) : ∃ cell : Cell, H[y]? = some cell ∧ cell.vm.isStatics = false ∧ s.vm.findClass "java/lang/Integer" = some cell.cls := by
  rcases h with h | ⟨k, hk, rfl⟩
  · exact sg_recv (ci := 1) F.2.1 hB h (by decide) rfl
  · exact va_Orecv (F.2.2.2.1.2.2.2.2.2.1 k hk) hB.1.2.2
/-- a new array of references, the room told by itself -/
theorem sg_newqN (t : Nat) {C : String} {i : Int32} {N' : Nat} (F : sgFx p s m args meth c cc nL own Ts D cy eda ca ia σ0) (hB : sgB D cy s σ0 σ H locs N n) (hcl : (Cond.classLink own index C).before args s = true) (hC : C ∈ aoL) (ht : (tyL cy)[t]? = some (cy t, .object C)) (hia : sgIA t = false) (hi : ¬ i < 0) (hN : i.toNatClampNeg = N') (hbytes : N' * 4 ≤ 536870912) (hk : k + 1 ≤ R.cells) (hs : N + N' ≤ R.slots) (hdg : decode cc pc = .ok (.anewarray index, 3))
    (kk : ∀ (q : Nat) (H : Heap), sgT σ q = 0 → s.heap.size ≤ q → sgB D cy s σ0 (sgNw σ q (100 + t) N') H locs (N + N') (n + N') → W p l e R s m args below meth c H locs (k + 1) (N + N') Q (F0 m (pc + 3) ls (.ref q :: rest))) : W p l e R s m args below meth c H locs k N Q (F0 m pc ls (.int i :: rest)) := by
  obtain ⟨⟨hx, hb, hml, hown, hts⟩, hK, hN0, -⟩ := F
  refine my_newq t (k := t) hx hb hown hcl hN0 hC ht hK (sgL_P hB.1.1) (sgL_D hB.1.2.1) hB.1.2.2 sgB_A hi hN hbytes hk hs hdg (fun q H1 h1 h2 h3 => ?_)
  obtain ⟨g1, g2, g3⟩ := sgB_nw (A0 := fun _ => True) (t := 100 + t) (n9 := N') (sz := N') hB h1 h2 h3 (by
    rw [sgE_ra (σ := sgNw σ q (100 + t) N') (a := q) (t := t) (by rw [sgNw_T, if_pos rfl]) hia, sgNw_N, if_pos rfl]
    congr 7
    funext j
    rw [sgNw_R, if_pos rfl])
  exact kk q H1 g1 g2 g3
end SGR
