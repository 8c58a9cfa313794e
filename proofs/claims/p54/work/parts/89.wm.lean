section VWM
/-! wrappers with more to say of their end -/
def vw_QG (D : va_G) (KT : List VK) (cy : Nat → ClassId) (ad τ : List Nat) (oa : Nat) (w : va_W) (M : List (Nat × Nat × Nat)) (A : Nat → Prop) (P : Int32 → va_W → va_E → Prop) : Array Value → State → Outcome → State → Prop := fun _ st oc t =>
  (∃ (k : Int32) (w1 : va_W) (o1 : va_E), oc = .returned (some (.int k)) ∧ va_P D vwCl ((oa, o1) :: w1) t.heap ∧ vi_tw KT cy (fun _ => True) ad τ w1 ∧ vi_kept τ M w w1 ∧ P k w1 o1) ∧ va_F A st t
abbrev vw_MG (l : Launch) (D : va_G) (cy : Nat → ClassId) (KT : List VK) (ad τ : List Nat) (oa : Nat) (o0 : va_E) (w : va_W) (sz : Nat) (M : List (Nat × Nat × Nat)) (P : Int32 → va_W → va_E → Prop) (y : MethodName) (WS : List Cond) (fr nc lo : Nat) (av : List Value) : Prop := Met l y WS { frames := fr, cells := nc, slots := 6 * nc, locals := lo } (va_Pc av (vi_PX D cy ((oa, o0) :: w) sz)) (vw_QG D KT cy ad τ oa w M (va_A ((oa, o0) :: w) sz) P) nc (6 * nc) (va_A ((oa, o0) :: w) sz)
section
variable {p : Program} {l : Launch} {e : Env} {R : Room} {s : State} {m : MethodId} {args : Array Value} {below : List Frame} {meth : Method} {c : Code} {H : Heap} {locs : List Loc} {cells slots : Nat} {Q : State → Prop} {cc bytes : ByteArray} {pc : Nat} {ls : Array Slot} {rest As st0 : List Value}
variable {D : va_G} {cy : Nat → ClassId} {A0 : Nat → Prop} {σ0 σ σ2 : SG} {n k N : Nat}
/-- behind a wrapper: the class's cells are other ones, the reference's stay -/
theorem lw_wkG {KT : List VK} {ad τ : List Nat} {oa : Nat} {o0 : va_E} {P : Int32 → va_W → va_E → Prop} {w wr : va_W} {M : List (Nat × Nat × Nat)} {nc : Nat} {a : Array Value} (hr : va_Run p l e R s m args below meth c H locs k N nc (6 * nc) (F0 m pc ls st0) rest (vw_QG D KT cy ad τ oa w M (va_A ((oa, o0) :: w) H.size) P a) (va_A ((oa, o0) :: w) H.size)) (hB : sgB D cy s σ0 σ H locs N n) (hO : lwO D σ (wr ++ (oa, o0) :: w) H) (hD : va_D (sgA σ0 s.heap.size) (wr ++ (oa, o0) :: w)) (ht : vi_tw KT cy (fun _ => True) ad τ w)
    (kk : ∀ (H1 : Heap) (locs1 : List Loc) (kx : Int32) (w1 : va_W) (o1 : va_E), sgB D cy s σ0 σ H1 locs1 (N + 6 * nc) (n + 6 * nc) → lwO D σ (wr ++ (oa, o1) :: w1) H1 → va_D (sgA σ0 s.heap.size) (wr ++ (oa, o1) :: w1) → vi_tw KT cy (fun _ => True) ad τ w1 → vi_kept τ M w w1 → P kx w1 o1 → W p l e R s m args below meth c H1 locs1 (k + nc) (N + 6 * nc) Q (F0 m (pc + 3) ls (.int kx :: rest))) : W p l e R s m args below meth c H locs k N Q (F0 m pc ls st0) := by
  intro T hT X
  obtain ⟨v', st₀, t, T', L, h0, X', hL, e1, e2, ⟨⟨kx, w1, o1, hv, q1, q2, q3, q4⟩, hz, hk⟩, st⟩ := hr T hT X
  cases hv
  have hG := hB.1
  rw [h0] at hz hk
  have hDr := hD.right
  have hF : ∀ q, va_A ((oa, o0) :: w) H.size q → sgA σ0 s.heap.size q := by
    intro q h
    rcases h with ⟨j, e, h⟩ | h
    · exact hDr.2 j (q, e) h
    · exact Or.inr (Nat.le_trans hG.2.2.1 h)
  have hk1 : ∀ q : Nat, q < H.size → ¬ va_A ((oa, o0) :: w) H.size q → T'.heap[q]? = H[q]? := fun q h1 h2 => by rw [e1]; exact hk q h1 h2
  have q1' : va_P D vwCl ((oa, o1) :: w1) T'.heap := by rw [e1]; exact q1
  -- the same addresses
  have hadr : (((oa, o1) :: w1 : va_W).map (fun q => q.1)) = (((oa, o0) :: w : va_W).map (fun q => q.1)) := by
    show oa :: w1.map (fun q => q.1) = oa :: w.map (fun q => q.1)
    rw [q2.1, ht.1]
  have hmem : ∀ q ∈ ((oa, o1) :: w1 : va_W), ∃ q0 ∈ ((oa, o0) :: w : va_W), q0.1 = q.1 := fun q hq => by
    have h1 : q.1 ∈ (((oa, o1) :: w1 : va_W).map (fun q => q.1)) := List.mem_map.mpr ⟨q, hq, rfl⟩
    rw [hadr] at h1
    obtain ⟨q0, h2, h3⟩ := List.mem_map.mp h1
    exact ⟨q0, h2, h3⟩
  have hD1 : va_D (va_A ((oa, o0) :: w) H.size) ((oa, o1) :: w1) := by
    refine ⟨fun i j p q hi hj hpq => ?_, fun j q hj => ?_⟩
    · have gi : (((oa, o0) :: w : va_W).map (fun q => q.1))[i]? = some p.1 := by rw [← hadr, List.getElem?_map, hi]; rfl
      have gj : (((oa, o0) :: w : va_W).map (fun q => q.1))[j]? = some q.1 := by rw [← hadr, List.getElem?_map, hj]; rfl
      rw [List.getElem?_map] at gi gj
      obtain ⟨p0, hp0, ep⟩ := Option.map_eq_some_iff.mp gi
      obtain ⟨q0, hq0, eq⟩ := Option.map_eq_some_iff.mp gj
      exact hDr.1 i j p0 q0 hp0 hq0 (by rw [ep, eq]; exact hpq)
    · obtain ⟨q0, h2, h3⟩ := hmem q (List.mem_of_getElem? hj)
      obtain ⟨i, hi⟩ := List.mem_iff_getElem?.mp h2
      exact Or.inl ⟨i, q0.2, by rw [← h3]; exact hi⟩
  obtain ⟨g1, g2⟩ := my_join hO.1 hD hk1 hF q1' hD1
  have hsg : sgP D cy σ T'.heap := by
    refine ⟨fun b hb => ?_, hG.1.2⟩
    have h1 := hG.1.1 b hb
    refine h1.kept (hk1 b h1.lt (fun z => ?_))
    rcases z with ⟨j, e9, z⟩ | z
    · exact hb (hO.2 (b, e9) (List.mem_append_right _ (List.mem_of_getElem? z)))
    · have : b < H.size := h1.lt
      omega
  have hS1 : va_S (sgA σ0 s.heap.size) s.heap T'.heap (locs ++ L) := ⟨Nat.le_trans hG.2.2.1 (by rw [e1]; exact hz), fun q h1 h2 => by rw [hk1 q (Nat.lt_of_lt_of_le h1 hG.2.2.1) (fun z => h2 (hF q z))]; exact hG.2.2.2.1 q h1 h2, fun q hq => by
      rcases List.mem_append.mp hq with h | h
      · exact hG.2.2.2.2 q h
      · exact hF _ (hL q h)⟩
  have hO2 : lwO D σ (wr ++ (oa, o1) :: w1) T'.heap := ⟨g1, fun q hq => by
    rcases List.mem_append.mp hq with h | h
    · exact hO.2 q (List.mem_append_left _ h)
    · obtain ⟨q0, h2, h3⟩ := hmem q h
      rw [← h3]
      exact hO.2 q0 (List.mem_append_right _ h2)⟩
  obtain ⟨t2, a1, b1⟩ := kk T'.heap (locs ++ L) kx w1 o1 ⟨⟨hsg, hG.2.1, hS1⟩, hB.2.1, by have := hB.2.2; omega⟩ hO2 g2 q2 q3 q4 T' rfl X'
  exact ⟨t2, st t2 a1, b1⟩
end
theorem dL_busyShare_0 : decode cL_busyShare 0 = .ok (.aload_n 1, 1) := by decide +kernel
theorem dL_busyShare_1 : decode cL_busyShare 1 = .ok (.iconst 0, 1) := by decide +kernel
theorem dL_busyShare_2 : decode cL_busyShare 2 = .ok (.aload_n 0, 1) := by decide +kernel
theorem dL_busyShare_3 : decode cL_busyShare 3 = .ok (.invokevirtual 153, 3) := by decide +kernel
theorem dL_busyShare_6 : decode cL_busyShare 6 = .ok (.f2d, 1) := by decide +kernel
theorem dL_busyShare_7 : decode cL_busyShare 7 = .ok (.dastore, 1) := by decide +kernel
theorem dL_busyShare_8 : decode cL_busyShare 8 = .ok (.goto 6, 3) := by decide +kernel
theorem dL_busyShare_11 : decode cL_busyShare 11 = .ok (.astore_n 2, 1) := by decide +kernel
theorem dL_busyShare_12 : decode cL_busyShare 12 = .ok (.iconst 1, 1) := by decide +kernel
theorem dL_busyShare_13 : decode cL_busyShare 13 = .ok (.ireturn, 1) := by decide +kernel
theorem dL_busyShare_14 : decode cL_busyShare 14 = .ok (.iconst 0, 1) := by decide +kernel
theorem dL_busyShare_15 : decode cL_busyShare 15 = .ok (.ireturn, 1) := by decide +kernel
set_option maxRecDepth 100000 in
set_option maxHeartbeats 4000000 in
theorem w_busyShare (l : Launch) (D : va_G) (cy : Nat → ClassId) (hst : l.stackTraces = false) {ad τ : List Nat} {w : va_W} (sz oa : Nat) (f : Nat → UInt64) (hs : vi_s1 vSG τ) (ht : vi_tw vK cy (fun _ => True) ad τ w) {x0 q0 : Nat} (hr0 : τ[q0]? = some 0) (hr1 : ad[q0]? = some x0) {vs : List Value} (hw0 : w[q0]? = some (x0, .inr (14, vs))) {fr0 : Int32} (hv7 : vs[7]? = some (.int fr0)) (hF1 : 0 ≤ fr0.toInt) (hF2 : fr0.toInt ≤ 1000) : vw_MG l D cy vK ad τ oa (.inl (cy 3, 1, .inr (.inr (.inr (.inl f))))) w sz [] (fun _ _ o1 => ∃ f1 : Nat → UInt64, o1 = .inl (cy 3, 1, .inr (.inr (.inr (.inl f1))))) yL_busyShare (Cond.codeWith yL_busyShare cL_busyShare 3 (some .int) [(0, 8, 11, 157)] :: lWall) 7 1 116 [.ref x0, .ref oa] := by
  refine wr_ofW (cc := cL_busyShare) (maxL := 3) (ret := (some .int)) (hh := [(0, 8, 11, 157)]) (lv := [(0, .ref x0), (1, .ref oa)]) (by decide) rfl (Nat.le_of_ble_eq_true rfl) rfl ?_
  intro p e s m below meth c ls hx hb hr hml hown hlocks htab hts hv hl
  have hown : s.vm.findClass RL = some m.cls := hown
  obtain ⟨⟨⟨hsz, hP, hD0⟩, hK, hN⟩, hT⟩ := hv
  subst hsz
  have hD := hD0.self (sz := s.heap.size)
  generalize hAe : va_A ((oa, .inl (cy 3, 1, .inr (.inr (.inr (.inl f))))) :: w) s.heap.size = A at hD hT ⊢
  have hA : ∀ q : Nat, s.heap.size ≤ q → A q := fun q h => by rw [← hAe]; exact Or.inr h
  have hS : va_S A s.heap s.heap [] := va_S.rf
  have hP : va_P D vwCl ([(oa, .inl (cy 3, 1, .inr (.inr (.inr (.inl f)))))] ++ w) s.heap := hP
  have hD : va_D A ([(oa, .inl (cy 3, 1, .inr (.inr (.inr (.inl f)))))] ++ w) := hD
  have S : CallFix p m c cL_busyShare 3 s _ (_ :: lWall) RL := ⟨hx, hb, hml, hown, hts⟩
  refine lv_aload_n hx hb dL_busyShare_0 rfl (lv_at hl 1 rfl) ?_
  refine lv_iconst (v := 0) hx hb dL_busyShare_1 (by decide) ?_
  refine lv_aload_n hx hb dL_busyShare_2 rfl (lv_at hl 0 rfl) ?_
  refine vi_catchG (wr := [(oa, .inl (cy 3, 1, .inr (.inr (.inr (.inl f)))))]) (b := x0) (As := []) (rest := [.int 0, .ref oa]) S (m_cl_busyShare l D cy hst hs ht hr0 hr1 hw0 hv7 hF1 hF2 s.heap.size) (cwV 0 S.2.2.2.2 (lgV (lm_ _ (List.mem_of_getElem? (i := 164) rfl)) (lm_ _ (List.mem_of_getElem? (i := 165) rfl)) (lm_ _ (List.mem_of_getElem? (i := 166) rfl)) (lv_ _ (vm_4 _ (List.mem_of_getElem? (i := 20) rfl))) (lv_ _ (vm_10 _ (List.mem_of_getElem? (i := 38) rfl)))) rfl rfl rfl ⟨rfl, by decide, by decide, by decide +kernel⟩ ⟨Nat.le_of_ble_eq_true rfl, Nat.le_of_ble_eq_true rfl⟩) rfl (va_recv hK hP.right (ci := 14) rfl hw0) hK hN hT hP hD hS hA ht hl.1 rfl (Nat.le_of_ble_eq_true rfl) dL_busyShare_3 ⟨Nat.le_of_ble_eq_true rfl, Nat.le_of_ble_eq_true rfl⟩ ?_ ?_
  · refine List.forall_mem_cons.mpr ⟨⟨[], ⟨0, 8, 11, 157⟩, [], htab, (fun _ h => absurd h List.not_mem_nil), by decide, by decide, hts _ (List.mem_cons_of_mem _ (lm_ _ (List.mem_of_getElem? (i := 163) rfl))), va_Nw.use rfl (hT.2.2.1 "java/lang/ArithmeticException" (by decide)), fun qx H locs w1 hP hD hS ht hk => ?_⟩, ?_⟩
    · refine lv_astore_n (lv' := [(2, .ref qx), (0, .ref x0), (1, .ref oa)]) hx hb dL_busyShare_11 rfl hl (by decide) rfl (fun ls hl => ?_)
      refine lv_iconst (v := 1) hx hb dL_busyShare_12 (by decide) ?_
      exact W.iret hx hb hr (fun t ht9 _ => ⟨⟨_, w1, _, rfl, by rw [ht9]; exact hP, ht, hk, f, rfl⟩, hS.F ht9⟩) hS.2.2 dL_busyShare_13
    exact fun q hq => by cases hq
  · intro H locs w1 v hP hD hS ht hk h9
    obtain ⟨y, rfl, hy⟩ := h9
    refine lv_f2d hx hb dL_busyShare_6 (f2d_n hy) ?_
    refine va_dast hx hb hK hP hD hS 0 3 rfl rfl (by unfold vp_in; decide) dL_busyShare_7 (fun H locs hP hD hS => ?_)
    have hP : va_P D vwCl ((oa, .inl (cy 3, 1, .inr (.inr (.inr (.inl (vf_upd f (0 : Int32).toNatClampNeg (FP.f2d y))))))) :: w1) H := hP
    refine lv_goto (tgt := 14) hx hb dL_busyShare_8 (by decide) ?_
    refine lv_iconst (v := 0) hx hb dL_busyShare_14 (by decide) ?_
    exact W.iret hx hb hr (fun t ht9 _ => ⟨⟨_, w1, _, rfl, by rw [ht9]; exact hP, ht, hk, _, rfl⟩, hS.F ht9⟩) hS.2.2 dL_busyShare_15
theorem dL_meanBytes_0 : decode cL_meanBytes 0 = .ok (.aload_n 1, 1) := by decide +kernel
theorem dL_meanBytes_1 : decode cL_meanBytes 1 = .ok (.iconst 0, 1) := by decide +kernel
theorem dL_meanBytes_2 : decode cL_meanBytes 2 = .ok (.aload_n 0, 1) := by decide +kernel
theorem dL_meanBytes_3 : decode cL_meanBytes 3 = .ok (.invokevirtual 159, 3) := by decide +kernel
theorem dL_meanBytes_6 : decode cL_meanBytes 6 = .ok (.dastore, 1) := by decide +kernel
theorem dL_meanBytes_7 : decode cL_meanBytes 7 = .ok (.goto 6, 3) := by decide +kernel
theorem dL_meanBytes_10 : decode cL_meanBytes 10 = .ok (.astore_n 2, 1) := by decide +kernel
theorem dL_meanBytes_11 : decode cL_meanBytes 11 = .ok (.iconst 1, 1) := by decide +kernel
theorem dL_meanBytes_12 : decode cL_meanBytes 12 = .ok (.ireturn, 1) := by decide +kernel
theorem dL_meanBytes_13 : decode cL_meanBytes 13 = .ok (.iconst 0, 1) := by decide +kernel
theorem dL_meanBytes_14 : decode cL_meanBytes 14 = .ok (.ireturn, 1) := by decide +kernel
set_option maxRecDepth 100000 in
set_option maxHeartbeats 4000000 in
theorem w_meanBytes (l : Launch) (D : va_G) (cy : Nat → ClassId) (hst : l.stackTraces = false) {ad τ : List Nat} {w : va_W} (sz oa : Nat) (f : Nat → UInt64) (hs : vi_s1 vSG τ) (ht : vi_tw vK cy (fun _ => True) ad τ w) {x0 q0 : Nat} (hr0 : τ[q0]? = some 0) (hr1 : ad[q0]? = some x0) {vs : List Value} (hw0 : w[q0]? = some (x0, .inr (14, vs))) {fr0 : Int32} (hv7 : vs[7]? = some (.int fr0)) : vw_MG l D cy vK ad τ oa (.inl (cy 3, 1, .inr (.inr (.inr (.inl f))))) w sz [] (fun _ _ o1 => ∃ f1 : Nat → UInt64, o1 = .inl (cy 3, 1, .inr (.inr (.inr (.inl f1))))) yL_meanBytes (Cond.codeWith yL_meanBytes cL_meanBytes 3 (some .int) [(0, 7, 10, 157)] :: lWall) 7 1 116 [.ref x0, .ref oa] := by
  refine wr_ofW (cc := cL_meanBytes) (maxL := 3) (ret := (some .int)) (hh := [(0, 7, 10, 157)]) (lv := [(0, .ref x0), (1, .ref oa)]) (by decide) rfl (Nat.le_of_ble_eq_true rfl) rfl ?_
  intro p e s m below meth c ls hx hb hr hml hown hlocks htab hts hv hl
  have hown : s.vm.findClass RL = some m.cls := hown
  obtain ⟨⟨⟨hsz, hP, hD0⟩, hK, hN⟩, hT⟩ := hv
  subst hsz
  have hD := hD0.self (sz := s.heap.size)
  generalize hAe : va_A ((oa, .inl (cy 3, 1, .inr (.inr (.inr (.inl f))))) :: w) s.heap.size = A at hD hT ⊢
  have hA : ∀ q : Nat, s.heap.size ≤ q → A q := fun q h => by rw [← hAe]; exact Or.inr h
  have hS : va_S A s.heap s.heap [] := va_S.rf
  have hP : va_P D vwCl ([(oa, .inl (cy 3, 1, .inr (.inr (.inr (.inl f)))))] ++ w) s.heap := hP
  have hD : va_D A ([(oa, .inl (cy 3, 1, .inr (.inr (.inr (.inl f)))))] ++ w) := hD
  have S : CallFix p m c cL_meanBytes 3 s _ (_ :: lWall) RL := ⟨hx, hb, hml, hown, hts⟩
  refine lv_aload_n hx hb dL_meanBytes_0 rfl (lv_at hl 1 rfl) ?_
  refine lv_iconst (v := 0) hx hb dL_meanBytes_1 (by decide) ?_
  refine lv_aload_n hx hb dL_meanBytes_2 rfl (lv_at hl 0 rfl) ?_
  refine vi_catchG (wr := [(oa, .inl (cy 3, 1, .inr (.inr (.inr (.inl f)))))]) (b := x0) (As := []) (rest := [.int 0, .ref oa]) S (m_cl_meanBytes l D cy hst hs ht hr0 hr1 hw0 hv7 s.heap.size) (cwV 0 S.2.2.2.2 (lgV (lm_ _ (List.mem_of_getElem? (i := 167) rfl)) (lm_ _ (List.mem_of_getElem? (i := 168) rfl)) (lm_ _ (List.mem_of_getElem? (i := 169) rfl)) (lv_ _ (vm_4 _ (List.mem_of_getElem? (i := 20) rfl))) (lv_ _ (vm_11 _ (List.mem_of_getElem? (i := 1) rfl)))) rfl rfl rfl ⟨rfl, by decide, by decide, by decide +kernel⟩ ⟨Nat.le_of_ble_eq_true rfl, Nat.le_of_ble_eq_true rfl⟩) rfl (va_recv hK hP.right (ci := 14) rfl hw0) hK hN hT hP hD hS hA ht hl.1 rfl (Nat.le_of_ble_eq_true rfl) dL_meanBytes_3 ⟨Nat.le_of_ble_eq_true rfl, Nat.le_of_ble_eq_true rfl⟩ ?_ ?_
  · refine List.forall_mem_cons.mpr ⟨⟨[], ⟨0, 7, 10, 157⟩, [], htab, (fun _ h => absurd h List.not_mem_nil), by decide, by decide, hts _ (List.mem_cons_of_mem _ (lm_ _ (List.mem_of_getElem? (i := 163) rfl))), va_Nw.use rfl (hT.2.2.1 "java/lang/ArithmeticException" (by decide)), fun qx H locs w1 hP hD hS ht hk => ?_⟩, ?_⟩
    · refine lv_astore_n (lv' := [(2, .ref qx), (0, .ref x0), (1, .ref oa)]) hx hb dL_meanBytes_10 rfl hl (by decide) rfl (fun ls hl => ?_)
      refine lv_iconst (v := 1) hx hb dL_meanBytes_11 (by decide) ?_
      exact W.iret hx hb hr (fun t ht9 _ => ⟨⟨_, w1, _, rfl, by rw [ht9]; exact hP, ht, hk, f, rfl⟩, hS.F ht9⟩) hS.2.2 dL_meanBytes_12
    exact fun q hq => by cases hq
  · intro H locs w1 v hP hD hS ht hk h9
    obtain ⟨y, rfl, hy⟩ := h9
    refine va_dast hx hb hK hP hD hS 0 3 rfl rfl (by unfold vp_in; decide) dL_meanBytes_6 (fun H locs hP hD hS => ?_)
    have hP : va_P D vwCl ((oa, .inl (cy 3, 1, .inr (.inr (.inr (.inl (vf_upd f (0 : Int32).toNatClampNeg y)))))) :: w1) H := hP
    refine lv_goto (tgt := 13) hx hb dL_meanBytes_7 (by decide) ?_
    refine lv_iconst (v := 0) hx hb dL_meanBytes_13 (by decide) ?_
    exact W.iret hx hb hr (fun t ht9 _ => ⟨⟨_, w1, _, rfl, by rw [ht9]; exact hP, ht, hk, _, rfl⟩, hS.F ht9⟩) hS.2.2 dL_meanBytes_14
end VWM
