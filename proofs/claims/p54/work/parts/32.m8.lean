section MM8
variable {p : Program} {l : Launch} {e : Env} {R : Room} {s : State} {m : MethodId} {args : Array Value} {below : List Frame} {meth : Method} {c : Code} {H : Heap} {locs : List Loc} {Q : State → Prop} {cc bytes : ByteArray} {pc : Nat} {ls : Array Slot} {rest As st0 : List Value}
variable {D : va_G} {cy : Nat → ClassId} {σ0 σ σ2 : SG} {eda ca : Nat} {ia : Nat → Nat} {y x : MethodName} {WS Ts : List Cond} {fr lo mc n nL index maxL sc ms b k N n9 a ci t N9 : Nat} {av : List Value} {Post : Option Value → SG → Prop} {own C host ref : String} {ret : Option FieldType}
variable {A0 : Nat → Prop}
theorem pf_Jxc12de_7 {p : Program} {l : Launch} {e : Env} {R : Room} {s : State} {m : MethodId} {args : Array Value} {below : List Frame} {meth : Method} {c : Code} {H : Heap} {locs : List Loc} {Q : State → Prop} {cc : ByteArray} {pc nL k N n a : Nat} {ls : Array Slot} {rest : List Value} {D : va_G} {cy : Nat → ClassId} {σ0 σ : SG} {eda ca : Nat} {ia : Nat → Nat} {W0 : Cond} {x : Int32} {d : Nat} (F : sgFx p s m args meth c cc nL RJxc12de (W0 :: mWall) D cy eda ca ia σ0) (hB : sgB D cy s σ0 σ H locs N n) (hdg : decode cc pc = .ok (.putfield 7, 3)) (ha : sgT σ a = 5) (hp : sgPot (sgPI σ a 0 x) ≤ sgPot σ + d) (kk : ∀ (H : Heap) (locs : List Loc), sgB D cy s σ0 (sgPI σ a 0 x) H locs N (n + d) → W p l e R s m args below meth c H locs k N Q (F0 m (pc + 3) ls (rest))) : W p l e R s m args below meth c H locs k N Q (F0 m (pc) ls (.int x :: .ref a :: rest)) := sg_put (T := TJx4a65c) (N := 3) (ci := 4) (k := 0) (ty0 := tyJx4a65c) (σ2 := sgPI σ a 0 x) F.1.1 F.1.2.1 F.1.2.2.2.2 (fun w h => List.mem_cons_of_mem _ (mmu_Jx4a65c w h)) tyJx4a65c_ok nmJx4a65c F.1.2.2.2.1 F.2.1 hB.1 rfl (by decide) (F.1.2.2.2.2 _ (List.mem_cons_of_mem _ (mm_0 _ (List.mem_of_getElem? (i := 22) rfl)))) (fun _ h9 => h9) rfl (by decide) (by decide) hdg ha ⟨rfl, rfl⟩ (sgW1_I hB.1.1.2 ha (by decide) rfl (by decide) trivial) (fun H1 locs1 h1 => kk H1 locs1 (sgB_wd hB h1 (fun _ => rfl) (fun _ => rfl) hp))
theorem sg_kk5 {a : Array Value} (hr : va_Run5 p l e R s m args below meth c H locs k N mc (sc + sgPot σ) (F0 m pc ls st0) rest (sgQ D cy σ H.size sc Post a) (sgA σ H.size)) (hG : sgG D cy A0 s.heap σ H locs) (hA : ∀ q, s.heap.size ≤ q → A0 q)
    (kk : ∀ (H1 : Heap) (locs1 : List Loc) (v : Option Value) (σ2 : SG) (n2 : Nat), sgG D cy A0 s.heap σ2 H1 locs1 → sgX s.heap.size σ σ2 → Post v σ2 → n2 + sgPot σ2 ≤ N + (sc + sgPot σ) → W p l e R s m args below meth c H1 locs1 (k + mc) n2 Q (F0 m (pc + 5) ls (v.toList ++ rest))) : W p l e R s m args below meth c H locs k N Q (F0 m pc ls st0) := by
  refine sg_have (fun hh => ?_)
  intro T hT X
  obtain ⟨v', st₀, t, T', L, h0, X', hL, e1, e2, ⟨⟨v, σ2, hv, q1, q2, q3, q4⟩, hz, hk⟩, st⟩ := hr T hT X
  cases hv
  rw [h0] at hz hk q4
  have hF : ∀ q, sgA σ H.size q → A0 q := fun q hq => hq.elim (hG.2.1 q) (fun z => hA q (Nat.le_trans hG.2.2.1 z))
  have hk1 : ∀ q : Nat, q < H.size → ¬ sgA σ H.size q → T'.heap[q]? = H[q]? := fun q h1 h2 => by rw [e1]; exact hk q h1 h2
  have hz1 : H.size ≤ T'.heap.size := by rw [e1]; exact hz
  have hS1 : va_S A0 s.heap T'.heap (locs ++ L) := ⟨Nat.le_trans hG.2.2.1 hz1, fun q h1 h2 => by rw [hk1 q (Nat.lt_of_lt_of_le h1 hG.2.2.1) (fun z => h2 (hF q z))]; exact hG.2.2.2.1 q h1 h2, fun q hq => by
      rcases List.mem_append.mp hq with h | h
      · exact hG.2.2.2.2 q h
      · exact hF _ (hL q h)⟩
  have q1' : sgP D cy σ2 T'.heap := by rw [e1]; exact q1
  have q4' : hs T'.heap + sgPot σ2 ≤ hs H + (sc + sgPot σ) := by rw [e1]; exact q4
  have hge : hs s.heap ≤ hs T'.heap := by
    have h9 : hs (T'.setVm s.vm).heap = _ := hs_same X'.same
    have e9 : (T'.setVm s.vm).heap = T'.heap := rfl
    rw [e9] at h9
    omega
  have hn2 : hs T'.heap ≤ hs s.heap + (N + (sc + sgPot σ) - sgPot σ2) := by omega
  obtain ⟨t2, a1, b1⟩ := sg_tight hn2 (kk T'.heap (locs ++ L) v' σ2 (N + (sc + sgPot σ) - sgPot σ2) ⟨q1', fun a ha => (q2.2 a ha).elim (hG.2.1 a) (fun z => hA a (Nat.le_trans hG.2.2.1 z)), hS1⟩ ⟨q2.1, fun a ha => (q2.2 a ha).imp id (fun z => Nat.le_trans hG.2.2.1 z)⟩ q3 (by omega)) T' rfl X'
  exact ⟨t2, st t2 a1, b1⟩
theorem sgB_kk5 {a : Array Value} (hr : va_Run5 p l e R s m args below meth c H locs k N mc (sc + sgPot σ) (F0 m pc ls st0) rest (sgQ D cy σ H.size sc Post a) (sgA σ H.size)) (hB : sgB D cy s σ0 σ H locs N n)
    (kk : ∀ (H : Heap) (locs : List Loc) (v : Option Value) (σ2 : SG) (N : Nat), sgB D cy s σ0 σ2 H locs N (n + sc) → sgX s.heap.size σ σ2 → Post v σ2 → W p l e R s m args below meth c H locs (k + mc) N Q (F0 m (pc + 5) ls (v.toList ++ rest))) : W p l e R s m args below meth c H locs k N Q (F0 m pc ls st0) :=
  sg_kk5 hr hB.1 sgB_A (fun H1 locs1 v σ2 n2 g1 g2 g3 g4 => kk H1 locs1 v σ2 n2 ⟨g1, sgX_tr (Nat.le_refl _) hB.2.1 g2, by have := hB.2.2; omega⟩ g2 g3)
theorem sgB_kkp5 {a : Array Value} (hr : va_Run5 p l e R s m args below meth c H locs k N mc ms (F0 m pc ls st0) rest (sgQ D cy σ H.size sc Post a) (sgA σ H.size)) (hB : sgB D cy s σ0 σ H locs N n)
    (kk : ∀ (H1 : Heap) (locs1 : List Loc) (v : Option Value) (σ2 : SG) (N2 : Nat), sgG D cy (sgA σ0 s.heap.size) s.heap σ2 H1 locs1 → sgX s.heap.size σ0 σ2 → sgX s.heap.size σ σ2 → Post v σ2 → N2 + sgPot σ2 ≤ N + (sc + sgPot σ) → N2 ≤ N + ms → W p l e R s m args below meth c H1 locs1 (k + mc) N2 Q (F0 m (pc + 5) ls (v.toList ++ rest))) : W p l e R s m args below meth c H locs k N Q (F0 m pc ls st0) := by
  have hG := hB.1
  have hA := sgB_A (s := s) (σ0 := σ0)
  refine sg_have (fun hh => ?_)
  intro T hT X
  obtain ⟨v', st₀, t, T', L, h0, X', hL, e1, e2, ⟨⟨v, σ2, hv, q1, q2, q3, q4⟩, hz, hk⟩, st⟩ := hr T hT X
  cases hv
  rw [h0] at hz hk q4
  have hF : ∀ q, sgA σ H.size q → sgA σ0 s.heap.size q := fun q hq => hq.elim (hG.2.1 q) (fun z => hA q (Nat.le_trans hG.2.2.1 z))
  have hk1 : ∀ q : Nat, q < H.size → ¬ sgA σ H.size q → T'.heap[q]? = H[q]? := fun q h1 h2 => by rw [e1]; exact hk q h1 h2
  have hz1 : H.size ≤ T'.heap.size := by rw [e1]; exact hz
  have hS1 : va_S (sgA σ0 s.heap.size) s.heap T'.heap (locs ++ L) := ⟨Nat.le_trans hG.2.2.1 hz1, fun q h1 h2 => by rw [hk1 q (Nat.lt_of_lt_of_le h1 hG.2.2.1) (fun z => h2 (hF q z))]; exact hG.2.2.2.1 q h1 h2, fun q hq => by
      rcases List.mem_append.mp hq with h | h
      · exact hG.2.2.2.2 q h
      · exact hF _ (hL q h)⟩
  have q1' : sgP D cy σ2 T'.heap := by rw [e1]; exact q1
  have q4' : hs T'.heap + sgPot σ2 ≤ hs H + (sc + sgPot σ) := by rw [e1]; exact q4
  have hge : hs s.heap ≤ hs T'.heap := by
    have h9 : hs (T'.setVm s.vm).heap = _ := hs_same X'.same
    have e9 : (T'.setVm s.vm).heap = T'.heap := rfl
    rw [e9] at h9
    omega
  have hms : hs T'.heap ≤ hs s.heap + (N + ms) := by
    have h9 : hs (T'.setVm s.vm).heap = _ := hs_same X'.same
    have e9 : (T'.setVm s.vm).heap = T'.heap := rfl
    have h2 := X'.same.2.2.2.2.1
    rw [e9] at h9 h2
    omega
  have hn2 : hs T'.heap ≤ hs s.heap + min (N + ms) (N + (sc + sgPot σ) - sgPot σ2) := by omega
  have hx : sgX s.heap.size σ σ2 := ⟨q2.1, fun a ha => (q2.2 a ha).imp id (fun z => Nat.le_trans hG.2.2.1 z)⟩
  obtain ⟨t2, a1, b1⟩ := sg_tight hn2 (kk T'.heap (locs ++ L) v' σ2 (min (N + ms) (N + (sc + sgPot σ) - sgPot σ2)) ⟨q1', fun a ha => (q2.2 a ha).elim (hG.2.1 a) (fun z => hA a (Nat.le_trans hG.2.2.1 z)), hS1⟩ (sgX_tr (Nat.le_refl _) hB.2.1 hx) hx q3 (by omega) (by omega)) T' rfl X'
  exact ⟨t2, st t2 a1, b1⟩
theorem sg_callF {r : vw_C} {count : Nat} (F : sgFx p s m args meth c cc nL own Ts D cy eda ca ia σ0) (hB : sgB D cy s σ0 σ H locs N n) (hM : sgM l D cy eda ca ia σ H.size y WS fr lo mc sc (.ref b :: As) Post) (cw : va_CI R s args own C index x y bytes maxL ret WS { frames := fr, cells := mc, slots := sc + sgPot σ, locals := lo } mc (sc + sgPot σ) n9) (hc : vwCl[ci]? = some r) (hC : r.1 = C) (h100 : ci + 1 < 100) (hn : As.length = n9) (hsize : ls.size = nL) (hst : st0 = As.reverse ++ .ref b :: rest) (hW : (rest.map fun v => v.category).sum ≤ 8) (hdg : decode cc pc = .ok (.invokeinterface index count, 5)) (hk : k + mc ≤ R.cells) (hs : n + sc + sgPot σ0 ≤ R.slots) (ha : sgT σ b = ci + 1)
    (kk : ∀ (H : Heap) (locs : List Loc) (v : Option Value) (σ2 : SG) (N : Nat), sgB D cy s σ0 σ2 H locs N (n + sc) → sgX s.heap.size σ σ2 → Post v σ2 → W p l e R s m args below meth c H locs (k + mc) N Q (F0 m (pc + 5) ls (v.toList ++ rest))) : W p l e R s m args below meth c H locs k N Q (F0 m pc ls st0) :=
  sgB_kk5 (va_runF (g := F0 m pc ls st0) (hC ▸ (F.2.1.1 _ _ hc).2) F.1 hM cw ⟨sgPc_blind, hC ▸ sg_recv F.2.1 hB ha h100 hc, sgB_pv F hB⟩ rfl hn hsize hst (lv_room hW) hdg ⟨hk, by have := hB.2.2; omega⟩) hB kk
theorem sg_callFp {r : vw_C} {count : Nat} (F : sgFx p s m args meth c cc nL own Ts D cy eda ca ia σ0) (hB : sgB D cy s σ0 σ H locs N n) (hM : sgMp l D cy eda ca ia σ H.size y WS fr lo mc ms sc (.ref b :: As) Post) (cw : va_CI R s args own C index x y bytes maxL ret WS { frames := fr, cells := mc, slots := ms, locals := lo } mc ms n9) (hc : vwCl[ci]? = some r) (hC : r.1 = C) (h100 : ci + 1 < 100) (hn : As.length = n9) (hsize : ls.size = nL) (hst : st0 = As.reverse ++ .ref b :: rest) (hW : (rest.map fun v => v.category).sum ≤ 8) (hdg : decode cc pc = .ok (.invokeinterface index count, 5)) (hk : k + mc ≤ R.cells) (hs : N + ms ≤ R.slots) (ha : sgT σ b = ci + 1)
    (kk : ∀ (H1 : Heap) (locs1 : List Loc) (v : Option Value) (σ2 : SG) (N2 : Nat), sgG D cy (sgA σ0 s.heap.size) s.heap σ2 H1 locs1 → sgX s.heap.size σ0 σ2 → sgX s.heap.size σ σ2 → Post v σ2 → N2 + sgPot σ2 ≤ N + (sc + sgPot σ) → N2 ≤ N + ms → W p l e R s m args below meth c H1 locs1 (k + mc) N2 Q (F0 m (pc + 5) ls (v.toList ++ rest))) : W p l e R s m args below meth c H locs k N Q (F0 m pc ls st0) :=
  sgB_kkp5 (va_runF (g := F0 m pc ls st0) (hC ▸ (F.2.1.1 _ _ hc).2) F.1 hM cw ⟨sgPc_blind, hC ▸ sg_recv F.2.1 hB ha h100 hc, sgB_pv F hB⟩ rfl hn hsize hst (lv_room hW) hdg ⟨hk, hs⟩) hB kk
theorem mgF {own C : String} {idx : Nat} {x y : MethodName} {cc : ByteArray} {maxL : Nat} {ret : Option FieldType} {W0 : Cond} (h1 : Cond.methodLink own idx x ∈ mWall) (h2 : Cond.selects C x y ∈ mWall) (h3 : Cond.instanceMethod y ∈ mWall) (h4 : Cond.initialized y.cls ∈ mWall) (hc : Cond.code y cc maxL ret ∈ mWall) : GoodIn (W0 :: mWall) (va_wsF own idx C x y (Cond.code y cc maxL ret :: mWall)) := by
  have hg := List.all_eq_true.mp mgood
  intro w hw
  unfold va_wsF at hw
  have key : w ∈ mWall := by
    rcases List.mem_append.mp hw with h | h
    · simp only [List.mem_cons, List.not_mem_nil, or_false] at h
      rcases h with rfl | rfl | rfl | rfl <;> assumption
    · rcases List.mem_cons.mp h with rfl | h <;> assumption
  exact ⟨List.mem_cons_of_mem _ key, good_of_word (hg w key)⟩
theorem sgPot_new {σ : SG} {l0 : Nat} {x : Option Nat} (hO : sgOK σ) (ht : sgT σ l0 = 5) (hz : (sgI σ l0 2).toInt = 0) : sgPot (sgPR σ l0 1 x) ≤ sgPot σ := by
  have h1 := sgPot_put (σ := σ) (σ1 := σ) (l0 := l0) (x := x) (Nat.le_refl _) rfl (hO.2.2.2 l0 (by rw [ht]; decide))
  have h2 : sgPot1 (sgPR σ l0 1 x) l0 = 0 := by
    unfold sgPot1
    show (if sgT σ l0 = 5 then 5 * (sgI σ l0 2).toInt.toNat - _ else 0) = 0
    rw [if_pos ht, hz]
    show 5 * 0 - _ = 0
    omega
  omega
/-- a fresh iterator of a list -/
def sgIt (l0 q : Nat) (σ σ2 : SG) : Prop := sgQt σ σ2 ∧ sgT σ2 q = 4 ∧ sgR σ2 q 3 = some l0 ∧ sgI σ2 q 0 = 0 ∧ sgI σ2 q 2 = sgI σ l0 0
theorem sgIt_mk {l0 q : Nat} {σ : SG} (hq : sgT σ q = 0) (hl : sgT σ l0 = 5) : sgIt l0 q σ (sgPI (sgPI (sgPR (sgNw σ q 4 0) q 3 (some l0)) q 1 (-1)) q 2 (sgI (sgNw σ q 4 0) l0 0)) := by
  have hlq : l0 ≠ q := fun z => by rw [z, hq] at hl; exact absurd hl (by decide)
  refine ⟨sgQt_PI (sgQt_PI (sgQt_PR (sgQt_nw hq (Or.inr (Or.inl rfl))) hq) hq) hq, ?_, ?_, ?_, ?_⟩
  · show sgT (sgNw σ q 4 0) q = 4
    rw [sgNw_T, if_pos rfl]
  · show (if q = q ∧ 3 = 3 then some l0 else _) = _
    rw [if_pos ⟨rfl, rfl⟩]
  · show (if q = q ∧ 0 = 2 then _ else if q = q ∧ 0 = 1 then _ else sgI (sgNw σ q 4 0) q 0) = (0 : Int32)
    rw [if_neg (fun z => by cases z.2), if_neg (fun z => by cases z.2), sgNw_I, if_pos rfl]
  · show (if q = q ∧ 2 = 2 then sgI (sgNw σ q 4 0) l0 0 else _) = _
    rw [if_pos ⟨rfl, rfl⟩, sgNw_I, if_neg hlq]
theorem dJxa1e45_init_da8c8_0 : decode cJxa1e45_init_da8c8 0 = .ok (.aload_n 0, 1) := by decide +kernel
theorem dJxa1e45_init_da8c8_1 : decode cJxa1e45_init_da8c8 1 = .ok (.invokespecial 1, 3) := by decide +kernel
theorem dJxa1e45_init_da8c8_4 : decode cJxa1e45_init_da8c8 4 = .ok (.return_, 1) := by decide +kernel
set_option maxRecDepth 100000 in
set_option maxHeartbeats 4000000 in
theorem m_acol (l : Launch) (D : va_G) (cy : Nat → ClassId) {eda ca : Nat} {ia : Nat → Nat} {σ : SG} {a0 : Nat} (sz : Nat) : sgM l D cy eda ca ia σ sz yJxa1e45_init_da8c8 (Cond.code yJxa1e45_init_da8c8 cJxa1e45_init_da8c8 1 none :: mWall) 1 14 0 0 [.ref a0] (fun v σ2 => v = none ∧ σ = σ2) := by
  refine sg_ofW (cc := cJxa1e45_init_da8c8) (maxL := 1) (ret := none) (by decide) rfl (Nat.le_of_ble_eq_true rfl) (lv := [(0, .ref a0)]) rfl (fun p e s m below meth c ls H N hrt hnm F hB hl => ?_) sz
  have hx := F.1.1
  have hb := F.1.2.1
  have hown := F.1.2.2.2.1
  refine lv_aload_n hx hb dJxa1e45_init_da8c8_0 rfl (lv_at hl 0 rfl) ?_
  refine W.objInit hx hb hown (F.1.2.2.2.2 _ (List.mem_cons_of_mem _ (mm_0 _ (List.mem_of_getElem? (i := 20) rfl)))) (F.1.2.2.2.2 _ (List.mem_cons_of_mem _ (mm_0 _ (List.mem_of_getElem? (i := 2) rfl)))) (F.1.2.2.2.2 _ (List.mem_cons_of_mem _ (mm_0 _ (List.mem_of_getElem? (i := 3) rfl)))) rfl (by rw [F.1.2.2.1]; exact hl.1) rfl dJxa1e45_init_da8c8_1 (Nat.le_of_ble_eq_true rfl) (Nat.le_of_ble_eq_true rfl) ?_
  exact sg_vret F hB hrt dJxa1e45_init_da8c8_4 (by decide) (by decide) (⟨rfl, rfl⟩)
theorem dJxc12de_init_da8c8_0 : decode cJxc12de_init_da8c8 0 = .ok (.aload_n 0, 1) := by decide +kernel
theorem dJxc12de_init_da8c8_1 : decode cJxc12de_init_da8c8 1 = .ok (.invokespecial 1, 3) := by decide +kernel
theorem dJxc12de_init_da8c8_4 : decode cJxc12de_init_da8c8 4 = .ok (.aload_n 0, 1) := by decide +kernel
theorem dJxc12de_init_da8c8_5 : decode cJxc12de_init_da8c8 5 = .ok (.iconst 0, 1) := by decide +kernel
theorem dJxc12de_init_da8c8_6 : decode cJxc12de_init_da8c8 6 = .ok (.putfield 7, 3) := by decide +kernel
theorem dJxc12de_init_da8c8_9 : decode cJxc12de_init_da8c8 9 = .ok (.return_, 1) := by decide +kernel
set_option maxRecDepth 100000 in
set_option maxHeartbeats 4000000 in
theorem m_alist (l : Launch) (D : va_G) (cy : Nat → ClassId) {eda ca : Nat} {ia : Nat → Nat} {σ : SG} {a0 : Nat} (ht : sgT σ a0 = 5) (sz : Nat) : sgM l D cy eda ca ia σ sz yJxc12de_init_da8c8 (Cond.code yJxc12de_init_da8c8 cJxc12de_init_da8c8 1 none :: mWall) 2 34 0 0 [.ref a0] (fun v σ2 => v = none ∧ sgPI σ a0 0 0 = σ2) := by
  refine sg_ofW (cc := cJxc12de_init_da8c8) (maxL := 1) (ret := none) (by decide) rfl (Nat.le_of_ble_eq_true rfl) (lv := [(0, .ref a0)]) rfl (fun p e s m below meth c ls H N hrt hnm F hB hl => ?_) sz
  have hx := F.1.1
  have hb := F.1.2.1
  have hown := F.1.2.2.2.1
  refine lv_aload_n hx hb dJxc12de_init_da8c8_0 rfl (lv_at hl 0 rfl) ?_
  refine sg_callI F hB (m_acol l D cy  _) (cwI 0 F.1.2.2.2.2 (mgN (mm_0 _ (List.mem_of_getElem? (i := 19) rfl))) rfl rfl rfl (F.1.2.2.2.2 _ (List.mem_cons_of_mem _ (mm_0 _ (List.mem_of_getElem? (i := 25) rfl)))) (F.1.2.2.2.2 _ (List.mem_cons_of_mem _ (mm_0 _ (List.mem_of_getElem? (i := 23) rfl)))) (F.1.2.2.2.2 _ (List.mem_cons_of_mem _ (mm_0 _ (List.mem_of_getElem? (i := 24) rfl)))) rfl ⟨by decide, by decide, by decide +kernel⟩ ⟨Nat.le_of_ble_eq_true rfl, Nat.le_of_ble_eq_true rfl⟩) rfl hl.1 rfl (Nat.le_of_ble_eq_true rfl) dJxc12de_init_da8c8_1 (Nat.le_of_ble_eq_true rfl) (Nat.add_le_add_right (Nat.le_of_ble_eq_true rfl) _)  (fun H locs v σ1 N hBn hX1 hP => ?_)
  clear hB; have hB := hBn; clear hBn
  obtain ⟨rfl, rfl⟩ := hP
  refine lv_aload_n hx hb dJxc12de_init_da8c8_4 rfl (lv_at hl 0 rfl) ?_
  refine lv_iconst (v := 0) hx hb dJxc12de_init_da8c8_5 (by decide) ?_
  refine pf_Jxc12de_7 (d := 0) F hB dJxc12de_init_da8c8_6 ht sgPot_mod (fun H locs hBn => ?_)
  clear hB; have hB := hBn; clear hBn
  exact sg_vret F hB hrt dJxc12de_init_da8c8_9 (by decide) (by decide) (⟨rfl, rfl⟩)
theorem dJx4a65c_init_da8c8_0 : decode cJx4a65c_init_da8c8 0 = .ok (.aload_n 0, 1) := by decide +kernel
theorem dJx4a65c_init_da8c8_1 : decode cJx4a65c_init_da8c8 1 = .ok (.invokespecial 1, 3) := by decide +kernel
theorem dJx4a65c_init_da8c8_4 : decode cJx4a65c_init_da8c8 4 = .ok (.aload_n 0, 1) := by decide +kernel
theorem dJx4a65c_init_da8c8_5 : decode cJx4a65c_init_da8c8 5 = .ok (.getstatic 39, 3) := by decide +kernel
theorem dJx4a65c_init_da8c8_8 : decode cJx4a65c_init_da8c8 8 = .ok (.putfield 9, 3) := by decide +kernel
theorem dJx4a65c_init_da8c8_11 : decode cJx4a65c_init_da8c8 11 = .ok (.return_, 1) := by decide +kernel
set_option maxRecDepth 100000 in
set_option maxHeartbeats 4000000 in
theorem m_lnew (l : Launch) (D : va_G) (cy : Nat → ClassId) {eda ca : Nat} {ia : Nat → Nat} {σ : SG} {a0 : Nat} (ht : sgT σ a0 = 5) (hz : (sgI σ a0 2).toInt = 0) (sz : Nat) : sgM l D cy eda ca ia σ sz yJx4a65c_init_da8c8 (Cond.code yJx4a65c_init_da8c8 cJx4a65c_init_da8c8 1 none :: mWall) 3 54 0 0 [.ref a0] (fun v σ2 => v = none ∧ sgPR (sgPI σ a0 0 0) a0 1 (some eda) = σ2) := by
  refine sg_ofW (cc := cJx4a65c_init_da8c8) (maxL := 1) (ret := none) (by decide) rfl (Nat.le_of_ble_eq_true rfl) (lv := [(0, .ref a0)]) rfl (fun p e s m below meth c ls H N hrt hnm F hB hl => ?_) sz
  have hx := F.1.1
  have hb := F.1.2.1
  have hown := F.1.2.2.2.1
  refine lv_aload_n hx hb dJx4a65c_init_da8c8_0 rfl (lv_at hl 0 rfl) ?_
  refine sg_callI F hB (m_alist l D cy ht _) (cwI 0 F.1.2.2.2.2 (mgN (mm_0 _ (List.mem_of_getElem? (i := 21) rfl))) rfl rfl rfl (F.1.2.2.2.2 _ (List.mem_cons_of_mem _ (mm_0 _ (List.mem_of_getElem? (i := 31) rfl)))) (F.1.2.2.2.2 _ (List.mem_cons_of_mem _ (mm_0 _ (List.mem_of_getElem? (i := 29) rfl)))) (F.1.2.2.2.2 _ (List.mem_cons_of_mem _ (mm_0 _ (List.mem_of_getElem? (i := 30) rfl)))) rfl ⟨by decide, by decide, by decide +kernel⟩ ⟨Nat.le_of_ble_eq_true rfl, Nat.le_of_ble_eq_true rfl⟩) rfl hl.1 rfl (Nat.le_of_ble_eq_true rfl) dJx4a65c_init_da8c8_1 (Nat.le_of_ble_eq_true rfl) (Nat.add_le_add_right (Nat.le_of_ble_eq_true rfl) _)  (fun H locs v σ1 N hBn hX1 hP => ?_)
  clear hB; have hB := hBn; clear hBn
  obtain ⟨rfl, rfl⟩ := hP
  refine lv_aload_n hx hb dJx4a65c_init_da8c8_4 rfl (lv_at hl 0 rfl) ?_
  refine va_gets hx hb F.2.2.2.1.1 hB.1.2.2 hown (F.1.2.2.2.2 _ (List.mem_cons_of_mem _ (mm_0 _ (List.mem_of_getElem? (i := 27) rfl)))) (fun _ h9 => h9) dJx4a65c_init_da8c8_5 ?_
  refine pf_Jx4a65c_9 (x := some eda) (d := 0) F hB dJx4a65c_init_da8c8_8 ht (sgPot_new hB.1.1.2 ht (by rw [sgI_PI, if_neg (fun z => by cases z.2)]; exact hz)) (fun H locs hBn => ?_)
  clear hB; have hB := hBn; clear hBn
  exact sg_vret F hB hrt dJx4a65c_init_da8c8_11 (by decide) (by decide) (⟨rfl, rfl⟩)
theorem dJx4a65c_iterator_32c93_0 : decode cJx4a65c_iterator_32c93 0 = .ok (.new 267, 3) := by decide +kernel
theorem dJx4a65c_iterator_32c93_3 : decode cJx4a65c_iterator_32c93 3 = .ok (.dup, 1) := by decide +kernel
theorem dJx4a65c_iterator_32c93_4 : decode cJx4a65c_iterator_32c93 4 = .ok (.aload_n 0, 1) := by decide +kernel
theorem dJx4a65c_iterator_32c93_5 : decode cJx4a65c_iterator_32c93 5 = .ok (.invokespecial 269, 3) := by decide +kernel
theorem dJx4a65c_iterator_32c93_8 : decode cJx4a65c_iterator_32c93 8 = .ok (.areturn, 1) := by decide +kernel
set_option maxRecDepth 100000 in
set_option maxHeartbeats 4000000 in
theorem m_iter (l : Launch) (D : va_G) (cy : Nat → ClassId) {eda ca : Nat} {ia : Nat → Nat} {σ : SG} {l0 : Nat} (ht : sgT σ l0 = 5) (sz : Nat) : sgM l D cy eda ca ia σ sz yJx4a65c_iterator_32c93 (Cond.code yJx4a65c_iterator_32c93 cJx4a65c_iterator_32c93 1 (some (.object "java/util/Iterator")) :: mWall) 2 35 1 4 [.ref l0] (fun v σ2 => ∃ q : Nat, v = some (.ref q) ∧ sgT σ q = 0 ∧ sgIt l0 q σ σ2) := by
  refine sg_ofW (cc := cJx4a65c_iterator_32c93) (maxL := 1) (ret := (some (.object "java/util/Iterator"))) (by decide) rfl (Nat.le_of_ble_eq_true rfl) (lv := [(0, .ref l0)]) rfl (fun p e s m below meth c ls H N hrt hnm F hB hl => ?_) sz
  have hx := F.1.1
  have hb := F.1.2.1
  have hown := F.1.2.2.2.1
  refine sg_new (C := RJx35411) (T := TJx35411) (N0 := 4) (ci := 3) (ty0 := tyJx35411) F hB (fun w h => List.mem_cons_of_mem _ (mmu_Jx35411 w h)) tyJx35411_ok (F.1.2.2.2.2 _ (List.mem_cons_of_mem _ (mm_4 _ (List.mem_of_getElem? (i := 33) rfl)))) (F.1.2.2.2.2 _ (List.mem_cons_of_mem _ (mm_4 _ (List.mem_of_getElem? (i := 34) rfl)))) (F.1.2.2.2.2 _ (List.mem_cons_of_mem _ (mm_4 _ (List.mem_of_getElem? (i := 35) rfl)))) rfl (by decide) (by decide +kernel) (Nat.le_of_ble_eq_true rfl) (Nat.add_le_add_right (Nat.le_of_ble_eq_true rfl) _) dJx4a65c_iterator_32c93_0 (fun q0 H N hq0 hs0 hBn => ?_)
  clear hB; have hB := hBn; clear hBn
  refine lv_dup hx hb dJx4a65c_iterator_32c93_3 rfl ?_
  refine lv_aload_n hx hb dJx4a65c_iterator_32c93_4 rfl (lv_at hl 0 rfl) ?_
  refine sg_callI F hB (m_itr l D cy (by rw [sgNw_T, if_pos rfl]) (by rw [sgNw_T, if_neg (fun z => by rw [z, hq0] at ht; exact absurd ht (by decide))]; exact ht) _) (cwI 1 F.1.2.2.2.2 (mgN (mm_4 _ (List.mem_of_getElem? (i := 26) rfl))) rfl rfl rfl (F.1.2.2.2.2 _ (List.mem_cons_of_mem _ (mm_4 _ (List.mem_of_getElem? (i := 35) rfl)))) (F.1.2.2.2.2 _ (List.mem_cons_of_mem _ (mm_4 _ (List.mem_of_getElem? (i := 36) rfl)))) (F.1.2.2.2.2 _ (List.mem_cons_of_mem _ (mm_4 _ (List.mem_of_getElem? (i := 37) rfl)))) rfl ⟨by decide, by decide, by decide +kernel⟩ ⟨Nat.le_of_ble_eq_true rfl, Nat.le_of_ble_eq_true rfl⟩) rfl hl.1 rfl (Nat.le_of_ble_eq_true rfl) dJx4a65c_iterator_32c93_5 (Nat.le_of_ble_eq_true rfl) (Nat.add_le_add_right (Nat.le_of_ble_eq_true rfl) _)  (fun H locs v σ5 N hBn hX5 hP => ?_)
  clear hB; have hB := hBn; clear hBn
  obtain ⟨rfl, rfl⟩ := hP
  exact sg_aret F hB hrt (Or.inl ⟨_, rfl⟩) (Or.inr ⟨_, rfl⟩) dJx4a65c_iterator_32c93_8 (by decide) (by decide) (⟨_, rfl, hq0, sgIt_mk hq0 ht⟩)
end MM8
