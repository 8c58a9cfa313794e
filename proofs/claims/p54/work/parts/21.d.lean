section SGH
/-- all slots of a heap -/
def hs (H : Heap) : Nat := (H.toList.map fun c => c.slots.size).sum
theorem hs_same {s s' : State} {locs : List Loc} {k n : Nat} (h : s.sameButNew s' locs k n) : hs s'.heap = hs s.heap + ((s'.heap.toList.drop s.heap.size).map (·.slots.size)).sum := by
  obtain ⟨-, hz, -, -, -, ho⟩ := h
  have e : (s'.heap.toList.take s.heap.size).map (fun c => c.slots.size) = s.heap.toList.map (fun c => c.slots.size) := by
    apply List.ext_getElem?
    intro i
    rw [List.getElem?_map, List.getElem?_map]
    by_cases hi : i < s.heap.size
    · rw [List.getElem?_take, if_pos hi, Array.getElem?_toList, Array.getElem?_toList]
      have hc : s.heap[i]? = some s.heap[i] := Array.getElem?_eq_getElem hi
      obtain ⟨c', h1, -, h3, -⟩ := ho i _ hc
      rw [hc, h1]
      simp [h3]
    · rw [List.getElem?_take, if_neg hi, Array.getElem?_toList, Array.getElem?_eq_none (by omega)]
  unfold hs
  conv => lhs; rw [← List.take_append_drop s.heap.size s'.heap.toList]
  rw [List.map_append, List.sum_append, e]
variable {p : Program} {l : Launch} {e : Env} {R : Room} {s : State} {m : MethodId} {args : Array Value} {below : List Frame} {meth : Method} {c : Code} {H : Heap} {locs : List Loc} {cells slots : Nat} {Q : State → Prop} {g : JFrame}
theorem sg_have (h : hs H ≤ hs s.heap + slots → W p l e R s m args below meth c H locs cells slots Q g) : W p l e R s m args below meth c H locs cells slots Q g := by
  intro T hT X
  refine h ?_ T hT X
  have h1 := hs_same X.same
  have h2 := X.same.2.2.2.2.1
  have e : (T.setVm s.vm).heap = T.heap := rfl
  rw [e, hT] at h1
  rw [e, hT] at h2
  omega
theorem sg_tight {n2 : Nat} (hn : hs H ≤ hs s.heap + n2) (k : W p l e R s m args below meth c H locs cells n2 Q g) : W p l e R s m args below meth c H locs cells slots Q g := by
  intro T hT X
  refine k T hT { X with same := ?_ }
  have h1 := hs_same X.same
  have e : (T.setVm s.vm).heap = T.heap := rfl
  obtain ⟨a1, a2, a3, a4, a5, a6⟩ := X.same
  refine ⟨a1, a2, a3, a4, ?_, a6⟩
  rw [e, hT] at h1 ⊢
  omega
end SGH
section SGI
/-- the room that lists' growth is paid by -/
def sgSum (f : Nat → Nat) : Nat → Nat | 0 => 0 | n + 1 => sgSum f n + f n
/-- a list's places -/
def sgCap (σ : SG) (a : Nat) : Nat := match sgR σ a 1 with
  | some r => if sgT σ r = 110 then sgN σ r else 0
  | none => 0
def sgPot1 (σ : SG) (a : Nat) : Nat := if sgT σ a = 5 then 5 * (sgI σ a 2).toNatClampNeg - 3 * sgCap σ a else 0
def sgPot (σ : SG) : Nat := sgSum (sgPot1 σ) (sgU σ)
theorem sgSum_le {f g : Nat → Nat} : ∀ {n : Nat}, (∀ i, i < n → f i ≤ g i) → sgSum f n ≤ sgSum g n
  | 0, _ => Nat.le_refl _
  | n + 1, h => Nat.add_le_add (sgSum_le fun i hi => h i (by omega)) (h n (by omega))
theorem sgSum_eq {f g : Nat → Nat} {n : Nat} (h : ∀ i, i < n → f i = g i) : sgSum f n = sgSum g n := Nat.le_antisymm (sgSum_le fun i hi => Nat.le_of_eq (h i hi)) (sgSum_le fun i hi => Nat.le_of_eq (h i hi).symm)
/-- one place differs -/
theorem sgSum_up {f g : Nat → Nat} {a : Nat} : ∀ {n : Nat}, (∀ i, i ≠ a → f i = g i) → a < n → sgSum f n + g a = sgSum g n + f a
  | 0, _, h => absurd h (Nat.not_lt_zero _)
  | n + 1, h, ha => by
    by_cases e : a = n
    · subst e
      have := sgSum_eq (f := f) (g := g) (n := a) (fun i hi => h i (by omega))
      show sgSum f a + f a + g a = sgSum g a + g a + f a
      omega
    · have := sgSum_up (n := n) h (by omega)
      have h2 := h n (by omega)
      show sgSum f n + f n + g a = sgSum g n + g n + f a
      omega
theorem sgSum_more {f : Nat → Nat} : ∀ {n m : Nat}, n ≤ m → (∀ i, n ≤ i → i < m → f i = 0) → sgSum f m = sgSum f n
  | n, 0, h, _ => by rw [show n = 0 by omega]
  | n, m + 1, h, hz => by
    by_cases e : n = m + 1
    · rw [e]
    · show sgSum f m + f m = _
      rw [hz m (by omega) (by omega), sgSum_more (m := m) (by omega) (fun i h1 h2 => hz i h1 (by omega))]; rfl
variable {σ : SG} {a k : Nat}
theorem sgPot_I {x : Int32} (h : sgT σ a ≠ 5 ∨ k ≠ 2) : sgPot (sgPI σ a k x) = sgPot σ := by
  refine sgSum_eq fun i _ => ?_
  unfold sgPot1
  show (if sgT σ i = 5 then _ else _) = _
  by_cases h5 : sgT σ i = 5
  · rw [if_pos h5, if_pos h5, sgI_PI, if_neg (fun z => by rcases h with h | h; exact h (by rw [← z.1]; exact h5); exact h z.2.symm)]; rfl
  · rw [if_neg h5, if_neg h5]
theorem sgPot_R {x : Option Nat} (h : sgT σ a ≠ 5) : sgPot (sgPR σ a k x) = sgPot σ := by
  refine sgSum_eq fun i _ => ?_
  unfold sgPot1
  show (if sgT σ i = 5 then _ else _) = _
  by_cases h5 : sgT σ i = 5
  · have e : sgCap (sgPR σ a k x) i = sgCap σ i := by
      unfold sgCap
      rw [sgR_PR, if_neg (fun z => h (by rw [← z.1]; exact h5))]; rfl
    rw [if_pos h5, if_pos h5, e]; rfl
  · rw [if_neg h5, if_neg h5]
theorem sgPot_J {x : Int64} : sgPot (sgPJ σ a k x) = sgPot σ := rfl
end SGI
section SGJ
/-- a method's own cells, and what it makes -/
def sgA (σ : SG) (sz : Nat) : Nat → Prop := fun q => sgT σ q ≠ 0 ∨ sz ≤ q
/-- behind a method: old cells keep their kinds, new ones are new -/
def sgX (sz : Nat) (σ σ2 : SG) : Prop := (∀ a, sgT σ a ≠ 0 → sgT σ2 a = sgT σ a ∧ sgN σ2 a = sgN σ a) ∧ ∀ a, sgT σ2 a ≠ 0 → sgT σ a ≠ 0 ∨ sz ≤ a
theorem sgX_rf {sz : Nat} {σ : SG} : sgX sz σ σ := ⟨fun _ _ => ⟨rfl, rfl⟩, fun _ h => Or.inl h⟩
theorem sgX_tr {sz sz2 : Nat} {σ σ2 σ3 : SG} (hz : sz ≤ sz2) (h : sgX sz σ σ2) (h2 : sgX sz2 σ2 σ3) : sgX sz σ σ3 := by
  refine ⟨fun a ha => ?_, fun a ha => ?_⟩
  · obtain ⟨e1, e2⟩ := h.1 a ha
    obtain ⟨f1, f2⟩ := h2.1 a (by rw [e1]; exact ha)
    exact ⟨f1.trans e1, f2.trans e2⟩
  · rcases h2.2 a ha with h3 | h3
    · exact h.2 a h3
    · exact Or.inr (by omega)
def sgPc (D : va_G) (cy : Nat → ClassId) (eda ca : Nat) (ia : Nat → Nat) (σ : SG) (sz : Nat) : State → Prop := fun U => (U.heap.size = sz ∧ sgP D cy σ U.heap) ∧ va_K D vwCl (tyL cy) U ∧ NL U ∧ JS eda ca ia (sgA σ sz) U U.heap
def sgQ (D : va_G) (cy : Nat → ClassId) (σ : SG) (sz c : Nat) (Post : Option Value → SG → Prop) : Array Value → State → Outcome → State → Prop := fun _ st oc t => (∃ (v : Option Value) (σ2 : SG), oc = .returned v ∧ sgP D cy σ2 t.heap ∧ sgX sz σ σ2 ∧ Post v σ2 ∧ hs t.heap + sgPot σ2 ≤ hs st.heap + (c + sgPot σ)) ∧ va_F (sgA σ sz) st t
/-- a contract over the heap σ: mc cells, c slots beyond what the lists' room pays -/
abbrev sgM (l : Launch) (D : va_G) (cy : Nat → ClassId) (eda ca : Nat) (ia : Nat → Nat) (σ : SG) (sz : Nat) (y : MethodName) (WS : List Cond) (fr lo mc c : Nat) (av : List Value) (Post : Option Value → SG → Prop) : Prop := Met l y WS { frames := fr, cells := mc, slots := c + sgPot σ, locals := lo } (va_Pc av (sgPc D cy eda ca ia σ sz)) (sgQ D cy σ sz c Post) mc (c + sgPot σ) (sgA σ sz)
theorem sgPc_blind {D : va_G} {cy : Nat → ClassId} {eda ca : Nat} {ia : Nat → Nat} {σ : SG} {sz : Nat} {av : List Value} : FrameBlind (va_Pc av (sgPc D cy eda ca ia σ sz)) := fun a U g mk q => ⟨q.1, q.2.1, va_K.moved (u := U) (U := U.calling g mk a) (Vm.Alike.refl U.vm) q.2.2.1, nl_same (u := U) (U := U.calling g mk a) rfl q.2.2.2.1, js_blind g mk a q.2.2.2.2⟩
variable {p : Program} {l : Launch} {e : Env} {R : Room} {s : State} {m : MethodId} {args : Array Value} {below : List Frame} {meth : Method} {c : Code} {H : Heap} {locs : List Loc} {cells slots : Nat} {Q : State → Prop} {cc bytes : ByteArray} {pc : Nat} {ls : Array Slot} {rest As st0 : List Value}
variable {D : va_G} {cy : Nat → ClassId} {A0 : Nat → Prop} {σ σ2 : SG} {eda ca : Nat} {ia : Nat → Nat} {y x : MethodName} {WS Ts : List Cond} {fr lo mc n nL index maxL sc b : Nat} {av : List Value} {Post : Option Value → SG → Prop} {own C host : String} {ret : Option FieldType}
/-- what a method is given, at a call -/
theorem sg_pv (hG : sgG D cy A0 s.heap σ H locs) (hK : va_K D vwCl (tyL cy) s) (hN : NL s) (hJ : JS eda ca ia A0 s s.heap) (hA : ∀ q, s.heap.size ≤ q → A0 q) : ∀ U : State, U.heap = H → s.WarmedH U.vm → va_Pc As (sgPc D cy eda ca ia σ H.size) As.toArray U := fun U hU hW => ⟨rfl, ⟨by rw [hU], by rw [hU]; exact hG.1⟩, va_K.moved hW.alike hK, nl_warm hW hN, js_at hJ hG.2.2.2.1 (fun q hq => hq.elim (hG.2.1 q) (fun z => hA q (Nat.le_trans hG.2.2.1 z))) hU hW⟩
/-- behind a call -/
theorem sg_kk {a : Array Value} (hr : va_Run p l e R s m args below meth c H locs cells slots mc (sc + sgPot σ) (F0 m pc ls st0) rest (sgQ D cy σ H.size sc Post a) (sgA σ H.size)) (hG : sgG D cy A0 s.heap σ H locs) (hA : ∀ q, s.heap.size ≤ q → A0 q)
    (kk : ∀ (H1 : Heap) (locs1 : List Loc) (v : Option Value) (σ2 : SG) (n2 : Nat), sgG D cy A0 s.heap σ2 H1 locs1 → sgX s.heap.size σ σ2 → Post v σ2 → n2 + sgPot σ2 ≤ slots + (sc + sgPot σ) → W p l e R s m args below meth c H1 locs1 (cells + mc) n2 Q (F0 m (pc + 3) ls (v.toList ++ rest))) : W p l e R s m args below meth c H locs cells slots Q (F0 m pc ls st0) := by
  refine sg_have (fun hh => ?_)
  intro T hT X
  obtain ⟨v', st₀, t, T', L, h0, X', hL, e1, e2, ⟨⟨v, σ2, hv, q1, q2, q3, q4⟩, hz, hk⟩, st⟩ := hr T hT X
  cases hv
  rw [h0] at hz hk q4
  have hF : ∀ q, sgA σ H.size q → A0 q := fun q hq => hq.elim (hG.2.1 q) (fun z => hA q (Nat.le_trans hG.2.2.1 z))
  have hk1 : ∀ q : Nat, q < H.size → ¬ sgA σ H.size q → T'.heap[q]? = H[q]? := fun q h1 h2 => by rw [e1]; exact hk q h1 h2
  have hz1 : H.size ≤ T'.heap.size := by rw [e1]; exact hz
  have hS1 : va_S A0 s.heap T'.heap (locs ++ L) := ⟨Nat.le_trans hG.2.2.1 hz1, fun q h1 h2 => by rw [hk1 q (Nat.lt_of_lt_of_le h1 hG.2.2.1) (fun z => h2 (hF q z))]; exact hG.2.2.2.1 q h1 h2, fun q hq => by
      rcases List.mem_append.mp hq with h | h
      · exact hG.2.2.2.2 q h
      · exact hF _ (hL q h)⟩
  have q1' : sgP D cy σ2 T'.heap := by rw [e1]; exact q1
  have q4' : hs T'.heap + sgPot σ2 ≤ hs H + (sc + sgPot σ) := by rw [e1]; exact q4
  have hge : hs s.heap ≤ hs T'.heap := by
    have h9 : hs (T'.setVm s.vm).heap = _ := hs_same X'.same
    have e9 : (T'.setVm s.vm).heap = T'.heap := rfl
    rw [e9] at h9
    omega
  have hn2 : hs T'.heap ≤ hs s.heap + (slots + (sc + sgPot σ) - sgPot σ2) := by omega
  obtain ⟨t2, a1, b1⟩ := sg_tight hn2 (kk T'.heap (locs ++ L) v' σ2 (slots + (sc + sgPot σ) - sgPot σ2) ⟨q1', fun a ha => (q2.2 a ha).elim (hG.2.1 a) (fun z => hA a (Nat.le_trans hG.2.2.1 z)), hS1⟩ ⟨q2.1, fun a ha => (q2.2 a ha).imp id (fun z => Nat.le_trans hG.2.2.1 z)⟩ q3 (by omega)) T' rfl X'
  exact ⟨t2, st t2 a1, b1⟩
end SGJ
