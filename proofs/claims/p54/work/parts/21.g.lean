section SGO
variable {p : Program} {l : Launch} {e : Env} {R : Room} {s : State} {m : MethodId} {args : Array Value} {below : List Frame} {meth : Method} {c : Code} {H : Heap} {locs : List Loc} {Q : State → Prop} {cc bytes : ByteArray} {pc : Nat} {ls : Array Slot} {rest As st0 : List Value}
variable {D : va_G} {cy : Nat → ClassId} {σ0 σ σ2 : SG} {eda ca : Nat} {ia : Nat → Nat} {y x : MethodName} {WS Ts : List Cond} {fr lo mc n nL index maxL sc ms b k N n9 a ci t N9 : Nat} {av : List Value} {Post : Option Value → SG → Prop} {own C host ref : String} {ret : Option FieldType} {T : u_T} {i : Int32}
theorem sgB_wd {d : Nat} {H1 : Heap} {locs1 : List Loc} (hB : sgB D cy s σ0 σ H locs N n) (hG : sgG D cy (sgA σ0 s.heap.size) s.heap σ2 H1 locs1) (h1 : ∀ a, sgT σ2 a = sgT σ a) (h2 : ∀ a, sgN σ2 a = sgN σ a) (h3 : sgPot σ2 ≤ sgPot σ + d) : sgB D cy s σ0 σ2 H1 locs1 N (n + d) :=
  ⟨hG, ⟨fun a ha => by rw [h1, h2]; exact hB.2.1.1 a ha, fun a ha => hB.2.1.2 a (by rw [← h1]; exact ha)⟩, by have := hB.2.2; omega⟩
theorem sgSum_bump {f g : Nat → Nat} {a d n : Nat} (h : ∀ i, i ≠ a → f i = g i) (ha : f a ≤ g a + d) : sgSum f n ≤ sgSum g n + d := by
  by_cases hn : a < n
  · have := sgSum_up (n := n) h hn
    omega
  · have := sgSum_eq (f := f) (g := g) (n := n) (fun i hi => h i (by omega))
    omega
theorem sgPot1_I {x : Int32} {i : Nat} (hi : i ≠ a) : sgPot1 (sgPI σ a k x) i = sgPot1 σ i := by
  unfold sgPot1
  show (if sgT σ i = 5 then _ else _) = _
  by_cases h5 : sgT σ i = 5
  · rw [if_pos h5, if_pos h5, sgI_PI, if_neg (fun z => hi z.1)]; rfl
  · rw [if_neg h5, if_neg h5]
theorem sgPot1_R {x : Option Nat} {i : Nat} (hi : i ≠ a) : sgPot1 (sgPR σ a k x) i = sgPot1 σ i := by
  unfold sgPot1
  show (if sgT σ i = 5 then _ else _) = _
  by_cases h5 : sgT σ i = 5
  · have e : sgCap (sgPR σ a k x) i = sgCap σ i := by
      unfold sgCap
      rw [sgR_PR, if_neg (fun z => hi z.1)]; rfl
    rw [if_pos h5, if_pos h5, e]; rfl
  · rw [if_neg h5, if_neg h5]
/-- a list's size: up by at most e -/
theorem sgPot_size {x : Int32} {e : Nat} (h : x.toNatClampNeg ≤ (sgI σ a 2).toNatClampNeg + e) : sgPot (sgPI σ a 2 x) ≤ sgPot σ + 5 * e := by
  refine sgSum_bump (a := a) (fun i hi => sgPot1_I hi) ?_
  unfold sgPot1
  show (if sgT σ a = 5 then _ else _) ≤ _
  by_cases h5 : sgT σ a = 5
  · rw [if_pos h5, if_pos h5, sgI_PI, if_pos ⟨rfl, rfl⟩]
    have e9 : sgCap (sgPI σ a 2 x) a = sgCap σ a := rfl
    rw [e9]
    omega
  · rw [if_neg h5, if_neg h5]; omega
theorem sgPot_mod {x : Int32} : sgPot (sgPI σ a 0 x) ≤ sgPot σ + 0 := Nat.le_of_eq (sgPot_I (Or.inr (by decide)))
/-- what may lie in a list -/
def sgK (ia : Nat → Nat) (σ : SG) (x : Nat) : Prop := sgT σ x = 2 ∨ sgT σ x = 16 ∨ sgT σ x = 19 ∨ sgT σ x = 100 ∨ ∃ k, k < 256 ∧ x = ia k
theorem sgK_of {C : String} {x : Nat} (hr : ∃ cell : Cell, H[x]? = some cell ∧ cell.vm.isStatics = false ∧ s.vm.findClass C = some cell.cls) (hc : va_Nw (.castable C "java/lang/Object") s) : va_Any "java/lang/Object" s H x := by
  obtain ⟨cell, h1, h2, h3⟩ := hr
  obtain ⟨kC, hkC, -⟩ := Vm.findClass_spec h3
  exact ⟨cell, h1, h2, ⟨kC, hkC⟩, fun comp h => vb_asgC hc comp _ h h3⟩
theorem sgK_any {x : Nat} (F : sgFx p s m args meth c cc nL own Ts D cy eda ca ia σ0) (hB : sgB D cy s σ0 σ H locs N n) (h : sgK ia σ x) : va_Any "java/lang/Object" s H x := by
  obtain ⟨-, hK, hN, hJ, -⟩ := F
  rcases h with h | h | h | h | ⟨k, hk, rfl⟩
  · exact sgK_of (sg_recv (ci := 1) hK hB h (by decide) rfl) (hN.2.2 ("java/lang/Integer", "java/lang/Object") (by decide +kernel))
  · exact sgK_of (sg_recv (ci := 15) hK hB h (by decide) rfl) (hN.2.2 ("HubcascadeModel$Device", "java/lang/Object") (by decide +kernel))
  · exact sgK_of (sg_recv (ci := 18) hK hB h (by decide) rfl) (hN.2.2 ("HubcascadeModel$Transfer", "java/lang/Object") (by decide +kernel))
  · refine sgK_of (C := "[I") ?_ (hN.2.2 ("[I", "java/lang/Object") (by decide +kernel))
    obtain ⟨q, hq⟩ := sg_ai (t := 0) hB.1 h rfl
    exact ⟨_, sgL_P hB.1.1 q _ hq, rfl, (hK.2 0 (cy 0, .int) rfl).2⟩
  · exact sgK_of (va_Orecv (hJ.2.2.2.2.2.1 k hk) hB.1.2.2) (hN.2.2 ("java/lang/Integer", "java/lang/Object") (by decide +kernel))
/-- a store into an array of a list's -/
theorem sg_aastO {b : Nat} (F : sgFx p s m args meth c cc nL own Ts D cy eda ca ia σ0) (hB : sgB D cy s σ0 σ H locs N n) (hdg : decode cc pc = .ok (.aastore, 1)) (ha : sgT σ a = 110) (hv : sgK ia σ b) (h1 : 0 ≤ i.toInt) (h2 : i.toInt < sgN σ a) (h3 : sgN σ a < 2147483648)
    (kk : ∀ (H : Heap) (locs : List Loc), sgB D cy s σ0 (sgPR σ a i.toInt.toNat (some b)) H locs N n → W p l e R s m args below meth c H locs k N Q (F0 m (pc + 1) ls rest)) : W p l e R s m args below meth c H locs k N Q (F0 m pc ls (.ref b :: .int i :: .ref a :: rest)) := by
  obtain ⟨q, hq⟩ := sg_ar (t := 10) hB.1 ha rfl
  obtain ⟨v1, v2⟩ := sg_vpin h1 h2 h3
  refine va_astqM (cl := vwCl) (tys := tyL cy) (E := "java/lang/Object") F.1.1 F.1.2.1 F.2.1 (sgL_P hB.1.1) (sgL_D hB.1.2.1) hB.1.2.2 q 10 hq rfl (sgK_any F hB hv) v1 hdg (fun H1 locs1 g1 _ g3 => kk H1 locs1 (sgB_w hB ?_ (fun _ => rfl) (fun _ => rfl) (Nat.le_of_eq (sgPot_R (by rw [ha]; decide)))))
  rw [v2] at g1
  refine sgG_arr hB.1 hq ?_ (fun b hb0 => sgE_PR hb0) (fun _ => rfl) (sgOK_PR hB.1.1.2) g1 g3
  rw [sgE_ra (σ := sgPR σ a i.toInt.toNat (some b)) (t := 10) ha rfl, sgR_upd]; rfl
/-- elements copied from one array to another, or within one -/
def sgCp (σ : SG) (a0 a1 sp dp n : Nat) : SG := (σ.1, σ.2.1, fun b j => if b = a1 then va_cpy (sgR σ a0) (sgR σ a1) sp dp n j else σ.2.2.1 b j, σ.2.2.2)
theorem sgCp_R {a0 a1 sp dp n b j : Nat} : sgR (sgCp σ a0 a1 sp dp n) b j = if b = a1 then va_cpy (sgR σ a0) (sgR σ a1) sp dp n j else sgR σ b j := rfl
theorem sgE_Cp {a0 a1 sp dp n b : Nat} (h : b ≠ a1) : sgE cy (sgCp σ a0 a1 sp dp n) b = sgE cy σ b := sgE_eq rfl (fun _ => rfl) (fun j => by rw [sgCp_R, if_neg h]) (fun _ => rfl) rfl
theorem sgPot_Cp {a0 a1 sp dp n : Nat} (h : sgT σ a1 ≠ 5) : sgPot (sgCp σ a0 a1 sp dp n) = sgPot σ := by
  refine sgSum_eq fun i _ => ?_
  unfold sgPot1
  show (if sgT σ i = 5 then _ else _) = _
  by_cases h5 : sgT σ i = 5
  · have e : sgCap (sgCp σ a0 a1 sp dp n) i = sgCap σ i := by
      unfold sgCap
      rw [sgCp_R, if_neg (fun z => h (by rw [← z]; exact h5))]; rfl
    rw [if_pos h5, if_pos h5, e]; rfl
  · rw [if_neg h5, if_neg h5]
theorem sg_copy {a0 a1 : Nat} {sp dp n0 : Int32} (F : sgFx p s m args meth c cc nL own Ts D cy eda ca ia σ0) (hB : sgB D cy s σ0 σ H locs N n) (hml : ls.size = nL) (hlink : (Cond.methodLink own index arraycopyName).before args s = true) (hnat : (Cond.native arraycopyName).before args s = true) (hstat : (Cond.static arraycopyName).before args s = true) (hini : (Cond.initialized "java/lang/System").before args s = true) (hdg : decode cc pc = .ok (.invokestatic index, 3)) (h0 : sgT σ a0 = 110) (h1 : sgT σ a1 = 110) (p1 : 0 ≤ sp.toInt) (p2 : 0 ≤ dp.toInt) (p3 : 0 ≤ n0.toInt) (p4 : sp.toInt + n0.toInt ≤ sgN σ a0) (p5 : dp.toInt + n0.toInt ≤ sgN σ a1)
    (hel : ∀ i y : Nat, i < n0.toInt.toNat → sgR σ a0 (sp.toInt.toNat + i) = some y → sgK ia σ y) (hframes : 1 ≤ R.frames) (hlocals : (rest.map fun v => v.category).sum + (nativeFrameWords "java/lang/System" "arraycopy" 5 + 11) ≤ R.locals)
    (kk : ∀ (H : Heap) (locs : List Loc), sgB D cy s σ0 (sgCp σ a0 a1 sp.toInt.toNat dp.toInt.toNat n0.toInt.toNat) H locs N n → W p l e R s m args below meth c H locs k N Q (F0 m (pc + 3) ls rest)) : W p l e R s m args below meth c H locs k N Q (F0 m pc ls (.int n0 :: .int dp :: .ref a1 :: .int sp :: .ref a0 :: rest)) := by
  obtain ⟨q0, hq0⟩ := sg_ar (t := 10) hB.1 h0 rfl
  obtain ⟨q1, hq1⟩ := sg_ar (t := 10) hB.1 h1 rfl
  have nn : ∀ z : Int32, 0 ≤ z.toInt → ¬ z < 0 := fun z hz q => by rw [Int32.lt_iff_toInt_lt, Int32.toInt_zero] at q; omega
  refine va_copyM (cl := vwCl) (tys := tyL cy) (E0 := "java/lang/Object") (E1 := "java/lang/Object") F.1.1 F.1.2.1 (F.1.2.2.1.trans hml.symm) F.1.2.2.2.1 hlink hnat hstat hini F.2.1 (sgL_P hB.1.1) (sgL_D hB.1.2.1) hB.1.2.2 q0 q1 10 10 hq0 hq1 rfl rfl (nn _ p1) (nn _ p2) (nn _ p3) (by show sp.toInt.toNat + n0.toInt.toNat ≤ _; omega) (by show dp.toInt.toNat + n0.toInt.toNat ≤ _; omega) (fun i hi y hy => sgK_any F hB (hel i y hi hy)) hframes hlocals hdg (fun H1 locs1 g1 _ g3 => kk H1 locs1 (sgB_w hB ?_ (fun _ => rfl) (fun _ => rfl) (Nat.le_of_eq (sgPot_Cp (by rw [h1]; decide)))))
  refine sgG_arr hB.1 hq1 ?_ (fun b hb0 => sgE_Cp hb0) (fun _ => rfl) hB.1.1.2 g1 g3
  rw [sgE_ra (σ := sgCp σ a0 a1 sp.toInt.toNat dp.toInt.toNat n0.toInt.toNat) (t := 10) h1 rfl]
  have e : sgR (sgCp σ a0 a1 sp.toInt.toNat dp.toInt.toNat n0.toInt.toNat) a1 = va_cpy (sgR σ a0) (sgR σ a1) sp.toInt.toNat dp.toInt.toNat n0.toInt.toNat := by
    funext j
    rw [sgCp_R, if_pos rfl]
  rw [e]; rfl
/-- the end of a method of a room of its own -/
theorem sg_outp {v : Option Value} {g : JFrame} (hB : sgB D cy s σ0 σ H locs N n) (hk : k ≤ mc) (hn : n ≤ sc) (hN : N ≤ ms) (hP : Post v σ) (kk : (∀ t : State, t.heap = H → s.WarmedH t.vm → sgQ D cy σ0 s.heap.size sc Post args s (.returned v) t) → (∀ q ∈ locs, sgA σ0 s.heap.size q.base) → W p l e R s m args below meth c H locs mc ms (MQ below (sgQ D cy σ0 s.heap.size sc Post) args s mc ms (sgA σ0 s.heap.size)) g) : W p l e R s m args below meth c H locs k N (MQ below (sgQ D cy σ0 s.heap.size sc Post) args s mc ms (sgA σ0 s.heap.size)) g := by
  refine sg_have (fun hh => ?_)
  have h2 := hB.2.2
  refine W.widen hk hN (kk (fun t ht _ => ⟨⟨v, σ, rfl, by rw [ht]; exact hB.1.1, hB.2.1, hP, by rw [ht]; omega⟩, hB.1.2.2.F ht⟩) hB.1.2.2.2.2)
/-- the same contract with a room that spends nothing of the lists' -/
abbrev sgMp (l : Launch) (D : va_G) (cy : Nat → ClassId) (eda ca : Nat) (ia : Nat → Nat) (σ : SG) (sz : Nat) (y : MethodName) (WS : List Cond) (fr lo mc ms c : Nat) (av : List Value) (Post : Option Value → SG → Prop) : Prop := Met l y WS { frames := fr, cells := mc, slots := ms, locals := lo } (va_Pc av (sgPc D cy eda ca ia σ sz)) (sgQ D cy σ sz c Post) mc ms (sgA σ sz)
theorem sg_ofWp {WS' : List Cond} {lv : List (Nat × Value)} (hy : plainName y.cls = true) (hw : WS = Cond.code y cc maxL ret :: WS') (hn : (lg_sl av).length ≤ maxL) (hlv : lv_args 0 av = lv)
    (body : ∀ (p : Program) (e : Env) (s : State) (m : MethodId) (below : List Frame) (meth : Method) (c : Code) (ls : Array Slot) (H : Heap) (N : Nat), N = 0 → meth.sig.returnType = ret → meth.name = y.name → sgFx p s m av.toArray meth c cc maxL y.cls WS D cy eda ca ia σ → sgB D cy s σ σ H [] N 0 → lv_has ls maxL lv → W p l e { frames := fr, cells := mc, slots := ms, locals := lo } s m av.toArray below meth c H [] 0 N (MQ below (sgQ D cy σ s.heap.size sc Post) av.toArray s mc ms (sgA σ s.heap.size)) (F0 m 0 ls [])) (sz : Nat) : sgMp l D cy eda ca ia σ sz y WS fr lo mc ms sc av Post := by
  refine ro_ofW hy hw hn hlv (fun p e s m below meth c ls hx hb hr hml hown hlocks hnm hts hpre hl => ?_)
  obtain ⟨⟨rfl, hP⟩, hK, hN, hJ⟩ := hpre
  exact body p e s m below meth c ls s.heap 0 rfl hr hnm ⟨⟨hx, hb, hml, hown, hts⟩, hK, hN, hJ, hlocks⟩ ⟨⟨hP, fun a ha => Or.inl ha, va_S.rf⟩, sgX_rf, by omega⟩ hl
/-- calls of such, the room told by itself -/
theorem sgB_kkp {a : Array Value} (hr : va_Run p l e R s m args below meth c H locs k N mc ms (F0 m pc ls st0) rest (sgQ D cy σ H.size sc Post a) (sgA σ H.size)) (hB : sgB D cy s σ0 σ H locs N n)
    (kk : ∀ (H1 : Heap) (locs1 : List Loc) (v : Option Value) (σ2 : SG) (N2 : Nat), sgG D cy (sgA σ0 s.heap.size) s.heap σ2 H1 locs1 → sgX s.heap.size σ0 σ2 → sgX s.heap.size σ σ2 → Post v σ2 → N2 + sgPot σ2 ≤ N + (sc + sgPot σ) → N2 ≤ N + ms → W p l e R s m args below meth c H1 locs1 (k + mc) N2 Q (F0 m (pc + 3) ls (v.toList ++ rest))) : W p l e R s m args below meth c H locs k N Q (F0 m pc ls st0) := by
  have hG := hB.1
  have hA := sgB_A (s := s) (σ0 := σ0)
  refine sg_have (fun hh => ?_)
  intro T hT X
  obtain ⟨v', st₀, t, T', L, h0, X', hL, e1, e2, ⟨⟨v, σ2, hv, q1, q2, q3, q4⟩, hz, hk⟩, st⟩ := hr T hT X
  cases hv
  rw [h0] at hz hk q4
  have hF : ∀ q, sgA σ H.size q → sgA σ0 s.heap.size q := fun q hq => hq.elim (hG.2.1 q) (fun z => hA q (Nat.le_trans hG.2.2.1 z))
  have hk1 : ∀ q : Nat, q < H.size → ¬ sgA σ H.size q → T'.heap[q]? = H[q]? := fun q h1 h2 => by rw [e1]; exact hk q h1 h2
  have hz1 : H.size ≤ T'.heap.size := by rw [e1]; exact hz
  have hS1 : va_S (sgA σ0 s.heap.size) s.heap T'.heap (locs ++ L) := ⟨Nat.le_trans hG.2.2.1 hz1, fun q h1 h2 => by rw [hk1 q (Nat.lt_of_lt_of_le h1 hG.2.2.1) (fun z => h2 (hF q z))]; exact hG.2.2.2.1 q h1 h2, fun q hq => by
      rcases List.mem_append.mp hq with h | h
      · exact hG.2.2.2.2 q h
      · exact hF _ (hL q h)⟩
  have q1' : sgP D cy σ2 T'.heap := by rw [e1]; exact q1
  have q4' : hs T'.heap + sgPot σ2 ≤ hs H + (sc + sgPot σ) := by rw [e1]; exact q4
  have hge : hs s.heap ≤ hs T'.heap := by
    have h9 : hs (T'.setVm s.vm).heap = _ := hs_same X'.same
    have e9 : (T'.setVm s.vm).heap = T'.heap := rfl
    rw [e9] at h9
    omega
  have hms : hs T'.heap ≤ hs s.heap + (N + ms) := by
    have h9 : hs (T'.setVm s.vm).heap = _ := hs_same X'.same
    have e9 : (T'.setVm s.vm).heap = T'.heap := rfl
    have h2 := X'.same.2.2.2.2.1
    rw [e9] at h9 h2
    omega
  have hn2 : hs T'.heap ≤ hs s.heap + min (N + ms) (N + (sc + sgPot σ) - sgPot σ2) := by omega
  have hx : sgX s.heap.size σ σ2 := ⟨q2.1, fun a ha => (q2.2 a ha).imp id (fun z => Nat.le_trans hG.2.2.1 z)⟩
  obtain ⟨t2, a1, b1⟩ := sg_tight hn2 (kk T'.heap (locs ++ L) v' σ2 (min (N + ms) (N + (sc + sgPot σ) - sgPot σ2)) ⟨q1', fun a ha => (q2.2 a ha).elim (hG.2.1 a) (fun z => hA a (Nat.le_trans hG.2.2.1 z)), hS1⟩ (sgX_tr (Nat.le_refl _) hB.2.1 hx) hx q3 (by omega) (by omega)) T' rfl X'
  exact ⟨t2, st t2 a1, b1⟩
theorem sg_callSp (F : sgFx p s m args meth c cc nL own Ts D cy eda ca ia σ0) (hB : sgB D cy s σ0 σ H locs N n) (hM : sgMp l D cy eda ca ia σ H.size y WS fr lo mc ms sc As Post) (cw : CallB R s args own index y bytes maxL ret WS { frames := fr, cells := mc, slots := ms, locals := lo } mc ms n9 ∧ (Cond.static y).before args s = true) (hn : As.length = n9) (hsize : ls.size = nL) (hst : st0 = As.reverse ++ rest) (hW : (rest.map fun v => v.category).sum ≤ 8) (hdg : decode cc pc = .ok (.invokestatic index, 3)) (hk : k + mc ≤ R.cells) (hs : N + ms ≤ R.slots)
    (kk : ∀ (H1 : Heap) (locs1 : List Loc) (v : Option Value) (σ2 : SG) (N2 : Nat), sgG D cy (sgA σ0 s.heap.size) s.heap σ2 H1 locs1 → sgX s.heap.size σ0 σ2 → sgX s.heap.size σ σ2 → Post v σ2 → N2 + sgPot σ2 ≤ N + (sc + sgPot σ) → N2 ≤ N + ms → W p l e R s m args below meth c H1 locs1 (k + mc) N2 Q (F0 m (pc + 3) ls (v.toList ++ rest))) : W p l e R s m args below meth c H locs k N Q (F0 m pc ls st0) :=
  sgB_kkp (va_runS (g := F0 m pc ls st0) F.1 hM cw ⟨sgPc_blind, sgB_pv F hB⟩ rfl hn hsize hst (lv_room hW) hdg ⟨hk, hs⟩) hB kk
end SGO
