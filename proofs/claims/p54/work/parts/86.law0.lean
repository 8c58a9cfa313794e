section LWA
/-! the law between the class's cells and the reference's -/
variable {p : Program} {l : Launch} {e : Env} {R : Room} {s : State} {m : MethodId} {args : Array Value} {below : List Frame} {meth : Method} {c : Code} {H : Heap} {locs : List Loc} {cells slots : Nat} {Q : State → Prop} {cc bytes : ByteArray} {pc : Nat} {ls : Array Slot} {rest As st0 : List Value}
variable {D : va_G} {cy : Nat → ClassId} {A0 : Nat → Prop} {σ0 σ σ2 : SG} {eda ca : Nat} {ia : Nat → Nat} {y x : MethodName} {WS Ts : List Cond} {fr lo mc n nL index maxL sc b k N n9 ci : Nat} {av : List Value} {Post : Option Value → SG → Prop} {own C host : String} {ret : Option FieldType} {W0 W1 : va_W}
/-- the cells of the others stay, and are none of the reference's -/
def lwO (D : va_G) (σ : SG) (W0 : va_W) (H : Heap) : Prop := va_P D vwCl W0 H ∧ ∀ q ∈ W0, sgT σ q.1 = 0
theorem lw_kk {a : Array Value} (hr : va_Run p l e R s m args below meth c H locs k N mc (sc + sgPot σ) (F0 m pc ls st0) rest (sgQ D cy σ H.size sc Post a) (sgA σ H.size)) (hB : sgB D cy s σ0 σ H locs N n) (hO : lwO D σ W0 H)
    (kk : ∀ (H1 : Heap) (locs1 : List Loc) (v : Option Value) (σ2 : SG) (N : Nat), sgB D cy s σ0 σ2 H1 locs1 N (n + sc) → sgX H.size σ σ2 → Post v σ2 → lwO D σ2 W0 H1 → W p l e R s m args below meth c H1 locs1 (k + mc) N Q (F0 m (pc + 3) ls (v.toList ++ rest))) : W p l e R s m args below meth c H locs k N Q (F0 m pc ls st0) := by
  refine sg_have (fun hh => ?_)
  intro T hT X
  obtain ⟨v', st₀, t, T', L, h0, X', hL, e1, e2, ⟨⟨v, σ2, hv, q1, q2, q3, q4⟩, hz, hk⟩, st⟩ := hr T hT X
  cases hv
  have hG := hB.1
  have hA : ∀ q, s.heap.size ≤ q → sgA σ0 s.heap.size q := sgB_A
  rw [h0] at hz hk q4
  have hF : ∀ q, sgA σ H.size q → sgA σ0 s.heap.size q := fun q hq => hq.elim (hG.2.1 q) (fun z => hA q (Nat.le_trans hG.2.2.1 z))
  have hk1 : ∀ q : Nat, q < H.size → ¬ sgA σ H.size q → T'.heap[q]? = H[q]? := fun q h1 h2 => by rw [e1]; exact hk q h1 h2
  have hz1 : H.size ≤ T'.heap.size := by rw [e1]; exact hz
  have hS1 : va_S (sgA σ0 s.heap.size) s.heap T'.heap (locs ++ L) := ⟨Nat.le_trans hG.2.2.1 hz1, fun q h1 h2 => by rw [hk1 q (Nat.lt_of_lt_of_le h1 hG.2.2.1) (fun z => h2 (hF q z))]; exact hG.2.2.2.1 q h1 h2, fun q hq => by
      rcases List.mem_append.mp hq with h | h
      · exact hG.2.2.2.2 q h
      · exact hF _ (hL q h)⟩
  have q1' : sgP D cy σ2 T'.heap := by rw [e1]; exact q1
  have q4' : hs T'.heap + sgPot σ2 ≤ hs H + (sc + sgPot σ) := by rw [e1]; exact q4
  have hge : hs s.heap ≤ hs T'.heap := by
    have h9 : hs (T'.setVm s.vm).heap = _ := hs_same X'.same
    have e9 : (T'.setVm s.vm).heap = T'.heap := rfl
    rw [e9] at h9
    omega
  have hn2 : hs T'.heap ≤ hs s.heap + (N + (sc + sgPot σ) - sgPot σ2) := by omega
  have hO2 : lwO D σ2 W0 T'.heap := by
    refine ⟨hO.1.kept (fun j q hj => hk1 q.1 (vx_lt hO.1 hj) (fun z => ?_)), fun q hq => ?_⟩
    · rcases z with z | z
      · exact z (hO.2 q (List.mem_of_getElem? hj))
      · have := vx_lt hO.1 hj
        omega
    · obtain ⟨j, hj⟩ := List.mem_iff_getElem?.mp hq
      have hlt := vx_lt hO.1 hj
      have h0 := hO.2 q hq
      by_cases z : sgT σ2 q.1 = 0
      · exact z
      · rcases q2.2 q.1 z with w | w
        · exact absurd h0 w
        · omega
  obtain ⟨t2, a1, b1⟩ := sg_tight hn2 (kk T'.heap (locs ++ L) v' σ2 (N + (sc + sgPot σ) - sgPot σ2) ⟨⟨q1', fun a ha => (q2.2 a ha).elim (hG.2.1 a) (fun z => hA a (Nat.le_trans hG.2.2.1 z)), hS1⟩, sgX_tr (Nat.le_refl _) hB.2.1 ⟨q2.1, fun a ha => (q2.2 a ha).imp id (fun z => Nat.le_trans hG.2.2.1 z)⟩, by have := hB.2.2; omega⟩ q2 q3 hO2) T' rfl X'
  exact ⟨t2, st t2 a1, b1⟩
/-- a call of the reference's -/
theorem lw_callV {r : vw_C} (F : sgFx p s m args meth c cc nL own Ts D cy eda ca ia σ0) (hB : sgB D cy s σ0 σ H locs N n) (hO : lwO D σ W0 H) (hM : sgM l D cy eda ca ia σ H.size y WS fr lo mc sc (.ref b :: As) Post) (cw : CallW R s args own C index y bytes maxL ret WS { frames := fr, cells := mc, slots := sc + sgPot σ, locals := lo } mc (sc + sgPot σ) n9) (hc : vwCl[ci]? = some r) (hC : r.1 = C) (h100 : ci + 1 < 100) (hn : As.length = n9) (hsize : ls.size = nL) (hst : st0 = As.reverse ++ .ref b :: rest) (hW : (rest.map fun v => v.category).sum ≤ 8) (hdg : decode cc pc = .ok (.invokevirtual index, 3)) (hk : k + mc ≤ R.cells) (hs : n + sc + sgPot σ0 ≤ R.slots) (ha : sgT σ b = ci + 1)
    (kk : ∀ (H1 : Heap) (locs1 : List Loc) (v : Option Value) (σ2 : SG) (N : Nat), sgB D cy s σ0 σ2 H1 locs1 N (n + sc) → sgX H.size σ σ2 → Post v σ2 → lwO D σ2 W0 H1 → W p l e R s m args below meth c H1 locs1 (k + mc) N Q (F0 m (pc + 3) ls (v.toList ++ rest))) : W p l e R s m args below meth c H locs k N Q (F0 m pc ls st0) :=
  lw_kk (va_runV (g := F0 m pc ls st0) F.1 hM cw ⟨sgPc_blind, hC ▸ sg_recv F.2.1 hB ha h100 hc, sgB_pv F hB⟩ rfl hn hsize hst (lv_room hW) hdg ⟨hk, by have := hB.2.2; omega⟩) hB hO kk
theorem lw_callI (F : sgFx p s m args meth c cc nL own Ts D cy eda ca ia σ0) (hB : sgB D cy s σ0 σ H locs N n) (hO : lwO D σ W0 H) (hM : sgM l D cy eda ca ia σ H.size y WS fr lo mc sc (.ref b :: As) Post) (cw : CallB R s args own index y bytes maxL none WS { frames := fr, cells := mc, slots := sc + sgPot σ, locals := lo } mc (sc + sgPot σ) n9 ∧ y.name = "<init>" ∧ (Cond.instanceMethod y).before args s = true) (hn : As.length = n9) (hsize : ls.size = nL) (hst : st0 = As.reverse ++ .ref b :: rest) (hW : (rest.map fun v => v.category).sum ≤ 8) (hdg : decode cc pc = .ok (.invokespecial index, 3)) (hk : k + mc ≤ R.cells) (hs : n + sc + sgPot σ0 ≤ R.slots)
    (kk : ∀ (H1 : Heap) (locs1 : List Loc) (v : Option Value) (σ2 : SG) (N : Nat), sgB D cy s σ0 σ2 H1 locs1 N (n + sc) → sgX H.size σ σ2 → Post v σ2 → lwO D σ2 W0 H1 → W p l e R s m args below meth c H1 locs1 (k + mc) N Q (F0 m (pc + 3) ls (v.toList ++ rest))) : W p l e R s m args below meth c H locs k N Q (F0 m pc ls st0) :=
  lw_kk (va_runI (g := F0 m pc ls st0) F.1 hM cw ⟨sgPc_blind, sgB_pv F hB⟩ rfl hn hsize hst (lv_room hW) hdg ⟨hk, by have := hB.2.2; omega⟩) hB hO kk
/-- behind a wrapper: the class's cells are other ones, the reference's stay -/
theorem lw_wk {KT : List VK} {ad τ : List Nat} {oa : Nat} {f : Nat → Int64} {w wr : va_W} {M : List (Nat × Nat × Nat)} {nc : Nat} {a : Array Value} (hr : va_Run p l e R s m args below meth c H locs k N nc (6 * nc) (F0 m pc ls st0) rest (vw_Q D KT cy ad τ oa w M (va_A ((oa, .inl (cy 2, 1, .inr (.inl f))) :: w) H.size) a) (va_A ((oa, .inl (cy 2, 1, .inr (.inl f))) :: w) H.size)) (hB : sgB D cy s σ0 σ H locs N n) (hO : lwO D σ (wr ++ (oa, .inl (cy 2, 1, .inr (.inl f))) :: w) H) (hD : va_D (sgA σ0 s.heap.size) (wr ++ (oa, .inl (cy 2, 1, .inr (.inl f))) :: w)) (ht : vi_tw KT cy (fun _ => True) ad τ w)
    (kk : ∀ (H1 : Heap) (locs1 : List Loc) (kx : Int32) (w1 : va_W) (f1 : Nat → Int64), sgB D cy s σ0 σ H1 locs1 (N + 6 * nc) (n + 6 * nc) → lwO D σ (wr ++ (oa, .inl (cy 2, 1, .inr (.inl f1))) :: w1) H1 → va_D (sgA σ0 s.heap.size) (wr ++ (oa, .inl (cy 2, 1, .inr (.inl f1))) :: w1) → vi_tw KT cy (fun _ => True) ad τ w1 → vi_kept τ M w w1 → W p l e R s m args below meth c H1 locs1 (k + nc) (N + 6 * nc) Q (F0 m (pc + 3) ls (.int kx :: rest))) : W p l e R s m args below meth c H locs k N Q (F0 m pc ls st0) := by
  intro T hT X
  obtain ⟨v', st₀, t, T', L, h0, X', hL, e1, e2, ⟨⟨kx, w1, f1, hv, q1, q2, q3⟩, hz, hk⟩, st⟩ := hr T hT X
  cases hv
  have hG := hB.1
  rw [h0] at hz hk
  have hDr := hD.right
  have hF : ∀ q, va_A ((oa, .inl (cy 2, 1, .inr (.inl f))) :: w) H.size q → sgA σ0 s.heap.size q := by
    intro q h
    rcases h with ⟨j, e, h⟩ | h
    · exact hDr.2 j (q, e) h
    · exact Or.inr (Nat.le_trans hG.2.2.1 h)
  have hk1 : ∀ q : Nat, q < H.size → ¬ va_A ((oa, .inl (cy 2, 1, .inr (.inl f))) :: w) H.size q → T'.heap[q]? = H[q]? := fun q h1 h2 => by rw [e1]; exact hk q h1 h2
  have q1' : va_P D vwCl ((oa, .inl (cy 2, 1, .inr (.inl f1))) :: w1) T'.heap := by rw [e1]; exact q1
  -- the same addresses
  have hadr : (((oa, .inl (cy 2, 1, .inr (.inl f1))) :: w1 : va_W).map (fun q => q.1)) = (((oa, .inl (cy 2, 1, .inr (.inl f))) :: w : va_W).map (fun q => q.1)) := by
    show oa :: w1.map (fun q => q.1) = oa :: w.map (fun q => q.1)
    rw [q2.1, ht.1]
  have hmem : ∀ q ∈ ((oa, .inl (cy 2, 1, .inr (.inl f1))) :: w1 : va_W), ∃ q0 ∈ ((oa, .inl (cy 2, 1, .inr (.inl f))) :: w : va_W), q0.1 = q.1 := fun q hq => by
    have h1 : q.1 ∈ (((oa, .inl (cy 2, 1, .inr (.inl f1))) :: w1 : va_W).map (fun q => q.1)) := List.mem_map.mpr ⟨q, hq, rfl⟩
    rw [hadr] at h1
    obtain ⟨q0, h2, h3⟩ := List.mem_map.mp h1
    exact ⟨q0, h2, h3⟩
  have hD1 : va_D (va_A ((oa, .inl (cy 2, 1, .inr (.inl f))) :: w) H.size) ((oa, .inl (cy 2, 1, .inr (.inl f1))) :: w1) := by
    refine ⟨fun i j p q hi hj hpq => ?_, fun j q hj => ?_⟩
    · have gi : (((oa, .inl (cy 2, 1, .inr (.inl f))) :: w : va_W).map (fun q => q.1))[i]? = some p.1 := by rw [← hadr, List.getElem?_map, hi]; rfl
      have gj : (((oa, .inl (cy 2, 1, .inr (.inl f))) :: w : va_W).map (fun q => q.1))[j]? = some q.1 := by rw [← hadr, List.getElem?_map, hj]; rfl
      rw [List.getElem?_map] at gi gj
      obtain ⟨p0, hp0, ep⟩ := Option.map_eq_some_iff.mp gi
      obtain ⟨q0, hq0, eq⟩ := Option.map_eq_some_iff.mp gj
      exact hDr.1 i j p0 q0 hp0 hq0 (by rw [ep, eq]; exact hpq)
    · obtain ⟨q0, h2, h3⟩ := hmem q (List.mem_of_getElem? hj)
      obtain ⟨i, hi⟩ := List.mem_iff_getElem?.mp h2
      exact Or.inl ⟨i, q0.2, by rw [← h3]; exact hi⟩
  obtain ⟨g1, g2⟩ := my_join hO.1 hD hk1 hF q1' hD1
  have hsg : sgP D cy σ T'.heap := by
    refine ⟨fun b hb => ?_, hG.1.2⟩
    have h1 := hG.1.1 b hb
    refine h1.kept (hk1 b h1.lt (fun z => ?_))
    rcases z with ⟨j, e9, z⟩ | z
    · exact hb (hO.2 (b, e9) (List.mem_append_right _ (List.mem_of_getElem? z)))
    · have : b < H.size := h1.lt
      omega
  have hS1 : va_S (sgA σ0 s.heap.size) s.heap T'.heap (locs ++ L) := ⟨Nat.le_trans hG.2.2.1 (by rw [e1]; exact hz), fun q h1 h2 => by rw [hk1 q (Nat.lt_of_lt_of_le h1 hG.2.2.1) (fun z => h2 (hF q z))]; exact hG.2.2.2.1 q h1 h2, fun q hq => by
      rcases List.mem_append.mp hq with h | h
      · exact hG.2.2.2.2 q h
      · exact hF _ (hL q h)⟩
  have hO2 : lwO D σ (wr ++ (oa, .inl (cy 2, 1, .inr (.inl f1))) :: w1) T'.heap := ⟨g1, fun q hq => by
    rcases List.mem_append.mp hq with h | h
    · exact hO.2 q (List.mem_append_left _ h)
    · obtain ⟨q0, h2, h3⟩ := hmem q h
      rw [← h3]
      exact hO.2 q0 (List.mem_append_right _ h2)⟩
  obtain ⟨t2, a1, b1⟩ := kk T'.heap (locs ++ L) kx w1 f1 ⟨⟨hsg, hG.2.1, hS1⟩, hB.2.1, by have := hB.2.2; omega⟩ hO2 g2 q2 q3 T' rfl X'
  exact ⟨t2, st t2 a1, b1⟩
end LWA
