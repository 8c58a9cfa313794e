section VIS
/-! contracts, and how they are paid -/
/-- how a method ends -/
def vi_Qr (D : va_G) (KT : List VK) (cy : Nat → ClassId) (ad τ : List Nat) (w : va_W) (sz : Nat) (av : List Value) (ct : VCt) : Array Value → State → Outcome → State → Prop := fun _ st oc t =>
  (∃ (v : Option Value) (w1 : va_W), ∃ alt ∈ ct.2.2.1, oc = .returned v ∧ va_P D vwCl w1 t.heap ∧ vi_tw KT cy (fun _ => True) ad τ w1 ∧ vi_kept τ ct.2.2.2.1 w w1 ∧ vi_alt ad τ av w1 alt v) ∧ va_F (va_A w sz) st t
/-- how it throws -/
def vi_Xq (D : va_G) (KT : List VK) (cy : Nat → ClassId) (ad τ : List Nat) (M : List (Nat × Nat × Nat)) (w : va_W) (sz : Nat) (E : List String) : String → State → State → Prop := fun E' st t => E' ∈ E ∧ (∃ w1 : va_W, va_P D vwCl w1 t.heap ∧ vi_tw KT cy (fun _ => True) ad τ w1 ∧ vi_kept τ M w w1) ∧ va_F (va_A w sz) st t
/-- the texts that the class throws with -/
def vStr : List (Nat × String) := [(94, "no such device can be made"), (99, "a hub is not low"), (103, "there are 16 devices"), (128, "no such endpoint can be made"), (141, "the device has it, or is plugged"), (156, "no such port"), (167, "it can\'t be plugged there"), (169, "it would be too deep"), (188, "it is not plugged"), (194, "it is in no hub"), (205, "no new device can be reached"), (229, "no such class or subclass"), (234, "there are 8 drivers"), (236, "no such draw"), (244, "it can\'t be put asleep"), (250, "it is not asleep"), (258, "not eleven bits"), (264, "not a byte"), (269, "16 bytes are typed"), (294, "no such kind or interval"), (299, "no pipe can be opened for it"), (311, "there is no phase"), (317, "12 pipes are open"), (342, "no such frame"), (354, "it goes into the host, or nothing is typed"), (359, "4 transfers wait"), (370, "not so many can be asked for"), (372, "it goes out of the host"), (386, "there is no transfer"), (397, "more than 32 bytes would wait"), (409, "no such fault"), (444, "there was no frame"), (453, "there is no event"), (462, "no event was taken"), (487, "no such thing is counted"), (495, "it was not halted"), (506, "no transfer is over"), (528, "no such device"), (530, "not for the host\'s hub"), (532, "no such endpoint"), (534, "it goes into the host"), (539, "no such pipe is open"), (541, "no such byte is kept")]
/-- what a throw needs: of statics outside A, of texts and tables -/
def vi_S2 (U : State) : Prop := (∀ q ∈ vStr, ∃ sa : Nat, vk_R "Hubcascade" q.1 q.2 sa U) ∧ (∀ E ∈ excL, va_Nw (.castable E E) U) ∧ (∀ E ∈ supL, va_Nw (.declares (Bundle.initS E)) U) ∧ (∀ E ∈ excL, ∀ F ∈ excL, E ≠ F → va_Nc E F U)
def vi_ST (A : Nat → Prop) (U : State) : Prop := (vx_Zq Bundle.tN "UNASSIGNED_STACK" Bundle.steD A U U.heap ∧ vx_Zq Bundle.tN "SUPPRESSED_SENTINEL" Bundle.listD A U U.heap) ∧ vi_S2 U
def vi_PX (D : va_G) (cy : Nat → ClassId) (w : va_W) (sz : Nat) : State → Prop := fun U => PME D cy w sz U ∧ vi_ST (va_A w sz) U
/-- a method's contract: it returns -/
def vi_Mn (l : Launch) (D : va_G) (cy : Nat → ClassId) (KT : List VK) (SG : List Nat) (y : MethodName) (WS : List Cond) (fr lo : Nat) (ct : VCt) : Prop := ct.2.2.2.2 = 0 ∧
  ∀ (ad τ : List Nat) (w : va_W) (sz : Nat) (av : List Value), vi_s1 SG τ → vi_tw KT cy (fun _ => True) ad τ w → av.length = ct.1.length → (∀ (j : Nat) (a : VA) (x : Value), ct.1[j]? = some a → av[j]? = some x → vi_ok ad τ a x) → (∀ f ∈ ct.2.1, vi_fact ad τ (vi_av av) w f) →
    Met l y WS { frames := fr, cells := 0, slots := 0, locals := lo } (va_Pc av (PME D cy w sz)) (vi_Qr D KT cy ad τ w sz av ct) 0 0 (va_A w sz)
/-- a method's contract: it returns, or throws one of E -/
def vi_Mx (l : Launch) (D : va_G) (cy : Nat → ClassId) (KT : List VK) (SG : List Nat) (y : MethodName) (WS : List Cond) (fr lo : Nat) (ct : VCt) (E : List String) : Prop :=
  ∀ (ad τ : List Nat) (w : va_W) (sz : Nat) (av : List Value), vi_s1 SG τ → vi_tw KT cy (fun _ => True) ad τ w → av.length = ct.1.length → (∀ (j : Nat) (a : VA) (x : Value), ct.1[j]? = some a → av[j]? = some x → vi_ok ad τ a x) → (∀ f ∈ ct.2.1, vi_fact ad τ (vi_av av) w f) →
    vx_Met l y WS { frames := fr, cells := ct.2.2.2.2, slots := 6 * ct.2.2.2.2, locals := lo } (va_Pc av (vi_PX D cy w sz)) (vi_Qr D KT cy ad τ w sz av ct) (vi_Xq D KT cy ad τ ct.2.2.2.1 w sz E) ct.2.2.2.2 (6 * ct.2.2.2.2) (va_A w sz)
variable {p : Program} {l : Launch} {e : Env} {R : Room} {s : State} {m : MethodId} {args : Array Value} {below : List Frame} {meth : Method} {c : Code} {Q : State → Prop} {cc : ByteArray} {own : String}
variable {KT : List VK} {SG : List Nat} {na nL : Nat} {al : List (Nat × Value)} {FT : List (Nat × Nat × Nat)} {FP : List (Nat × Nat × Nat × Nat)} {CT C2 : List (Nat × Int)} {D : va_G} {cy : Nat → ClassId} {Z : va_W → Prop} {ad τ : List Nat} {A0 : Nat → Prop} {H0 H : Heap}
variable {lo : List VA} {st : List (VA × VO)} {fa : List VF} {n pc NC : Nat} {L : List (Nat × VS)} {ls : Array Slot} {w w1 : va_W} {XP : List Nat} {MT : List (Nat × Bool × Nat × List VCt)} {alts : List VAlt} {av : List Value} {M : List (Nat × Nat × Nat)}
theorem vi_kept_rf : vi_kept τ M w w := ⟨fun _ _ _ _ h => h, fun _ _ _ _ _ h => h, vi_kp_rf⟩
theorem vi_kept_tr {M2 : List (Nat × Nat × Nat)} {w2 : va_W} (hM : ∀ q ∈ M2, q ∈ M) (h : vi_kept τ M w w1) (h2 : vi_kept τ M2 w1 w2) : vi_kept τ M w w2 := ⟨fun ls o x ho hp => h2.1 ls o x (by
  simp only [vi_km, Bool.or_eq_true, Bool.not_eq_true', List.any_eq_false] at ho ⊢
  rcases ho with ho | ho
  · exact Or.inl ho
  · exact Or.inr fun q hq => ho q (hM q hq)) (h.1 ls o x ho hp), fun q a cA N f hq => h2.2.1 q a cA N f (h.2.1 q a cA N f hq), vi_kp_tr hM h.2.2 h2.2.2⟩
theorem vi_kept_Zp (hM : ∀ q ∈ FP, q.2 ∈ M) : vi_Zp FP τ (vi_kept τ M w) := fun i ci k d hi w2 q a fs v ht hq hz => ⟨fun ls o x ho hp => vi_path_put hq (by
  simp only [vi_km, Bool.or_eq_true, beq_iff_eq, Bool.not_eq_true', List.any_eq_false, Bool.and_eq_true, not_and] at ho
  rcases ho with (ho | ho) | ho
  · exact Or.inl ho
  · exact Or.inr (Or.inl ho)
  · refine Or.inr (Or.inr ?_)
    by_cases z : o.2.2.1 = ci ∧ o.2.2.2 = k
    · refine Or.inr ?_
      have h1 := ho (ci, k, d) (hM _ hi) ⟨z.1.symm, z.2.symm⟩
      by_cases e3 : o.1 = 3
      · by_cases e4 : d = o.2.1
        · exact absurd (Or.inr e4) h1
        · exact ⟨e3, fun e => e4 (Option.some.inj (ht.symm.trans e))⟩
      · exact absurd (Or.inl (by simpa using e3)) h1
    · exact Or.inl z) (hz.1 ls o x ho hp), fun q9 a9 cA N f h9 => by
  have h8 := hz.2.1 q9 a9 cA N f h9
  by_cases c : q = q9
  · rw [c, h8] at hq
    cases hq
  · rw [List.getElem?_set_ne c]
    exact h8, vi_kp_put hz.2.2 hq ht (hM _ hi)⟩
theorem vi_kept_Za (hM : ∀ q ∈ FP, q.2 ∈ M) : vi_Za FP τ (vi_kept τ M w) := fun d hd w2 q a cB N2 x y ht hq hz => ⟨fun ls o v ho hp => vi_path_arr hq (hz.1 ls o v ho hp), fun q9 a9 cA N f h9 => by
  have h8 := hz.2.1 q9 a9 cA N f h9
  by_cases c : q = q9
  · rw [c, h8] at hq
    cases hq
  · rw [List.getElem?_set_ne c]
    exact h8, vi_kp_arr hz.2.2 hq ht (vi_aw_M hM hd)⟩
theorem vi_tw_Z {Z2 : va_W → Prop} (h : vi_tw KT cy Z ad τ w) (hz : Z2 w) : vi_tw KT cy Z2 ad τ w := ⟨h.1, h.2.1, h.2.2.1, hz⟩
theorem vi_adr {Z2 : va_W → Prop} (h : vi_tw KT cy Z ad τ w) (h1 : vi_tw KT cy Z2 ad τ w1) {k : Nat} {q : Nat × va_E} (hq : w1[k]? = some q) : ∃ q0, w[k]? = some q0 ∧ q0.1 = q.1 := by
  have e : (w1.map (fun q => q.1))[k]? = some q.1 := by rw [List.getElem?_map, hq]; rfl
  rw [h1.1, ← h.1, List.getElem?_map] at e
  cases hw : w[k]? with
  | none => rw [hw] at e; cases e
  | some q0 => rw [hw] at e; exact ⟨q0, rfl, Option.some.inj e⟩
theorem vi_D {Z2 : va_W → Prop} (hD : va_D A0 w) (h : vi_tw KT cy Z ad τ w) (h1 : vi_tw KT cy Z2 ad τ w1) : va_D A0 w1 := by
  refine ⟨fun i j p q hi hj hpq => ?_, fun k q hk => ?_⟩
  · obtain ⟨p0, a1, a2⟩ := vi_adr h h1 hi
    obtain ⟨q0, b1, b2⟩ := vi_adr h h1 hj
    exact hD.1 i j p0 q0 a1 b1 (a2.trans (hpq.trans b2.symm))
  · obtain ⟨q0, b1, b2⟩ := vi_adr h h1 hk
    rw [← b2]
    exact hD.2 k q0 b1
theorem vi_A {sz : Nat} (hD : va_D A0 w) (hA : ∀ q, sz ≤ q → A0 q) : ∀ q, va_A w sz q → A0 q := by
  intro q h
  rcases h with ⟨k, e, h⟩ | h
  · exact hD.2 k (q, e) h
  · exact hA q h
theorem vi_room {vs : List Value} (h : vs.length ≤ 4) : (vs.map fun v => v.category).sum ≤ 8 := by
  have key : ∀ (l : List Value), (l.map fun v => v.category).sum ≤ 2 * l.length := by
    intro l
    induction l with
    | nil => simp
    | cons a l ih =>
      simp only [List.map_cons, List.sum_cons, List.length_cons]
      rcases lv_cat a with h | h <;> omega
  have := key vs
  omega
/-- behind a callee that returns -/
theorem vi_kk {st0 rest : List Value} {a : Array Value} {ct : VCt} {locs : List Loc} {cells slots : Nat} (hr : va_Run p l e R s m args below meth c H locs cells slots 0 0 (F0 m pc ls st0) rest (vi_Qr D KT cy ad τ w H.size av ct a) (va_A w H.size)) (hP : va_P D vwCl w H) (hD : va_D A0 w) (hS : va_S A0 H0 H locs) (hA : ∀ q, H0.size ≤ q → A0 q) (ht : vi_tw KT cy Z ad τ w) (hZ : ∀ w1, vi_kept τ ct.2.2.2.1 w w1 → Z w1)
    (kk : ∀ alt ∈ ct.2.2.1, ∀ (H1 : Heap) (locs1 : List Loc) (w1 : va_W) (v : Option Value), va_P D vwCl w1 H1 → va_D A0 w1 → va_S A0 H0 H1 locs1 → vi_tw KT cy Z ad τ w1 → vi_kept τ ct.2.2.2.1 w w1 → vi_alt ad τ av w1 alt v → W p l e R s m args below meth c H1 locs1 cells slots Q (F0 m (pc + 3) ls (v.toList ++ rest))) : W p l e R s m args below meth c H locs cells slots Q (F0 m pc ls st0) := by
  intro T hT X
  obtain ⟨v', st₀, t, T', L, h0, X', hL, e1, e2, ⟨⟨v, w1, alt, halt, hv, q1, q2, q3, q4⟩, hF⟩, st⟩ := hr T hT X
  cases hv
  have hsub := vi_A (sz := H.size) hD (fun q hq => hA q (Nat.le_trans hS.1 hq))
  obtain ⟨k1, k2, k3⟩ := vx_keep h0 e1 hS (fun q _ z => hsub q z) hsub hL hF
  obtain ⟨t2, a1, b1⟩ := kk alt halt T'.heap (locs ++ L) w1 v' (by rw [e1]; exact q1) (vi_D hD ht q2) k3 (vi_tw_Z q2 (hZ w1 q3)) q3 q4 T' rfl X'
  exact ⟨t2, st t2 a1, b1⟩
theorem vi_S2_blind {U : State} (g : JFrame) (mk : MethodId) (a : Array Value) (h : vi_S2 U) : vi_S2 (U.calling g mk a) := by
  obtain ⟨h3, h4, h5, h6⟩ := h
  refine ⟨fun q hq => ?_, fun E hE => ?_, fun E hE => ?_, fun E hE F hF n => ?_⟩
  · obtain ⟨sa, hk⟩ := h3 q hq
    exact ⟨sa, vk_R.same (u := U) (U := U.calling g mk a) rfl hk⟩
  · exact va_Nw.same (u := U) (U := U.calling g mk a) rfl rfl (h4 E hE)
  · exact va_Nw.same (u := U) (U := U.calling g mk a) rfl rfl (h5 E hE)
  · exact (h6 E hE F hF n).moved (u := U) (U := U.calling g mk a) (Vm.Alike.refl U.vm)
theorem vi_S2_warm {U : State} (hW : s.WarmedH U.vm) (h : vi_S2 s) : vi_S2 U := by
  obtain ⟨h3, h4, h5, h6⟩ := h
  refine ⟨fun q hq => ?_, fun E hE => va_Nw.warmC hW (h4 E hE), fun E hE => va_Nw.warmD hW (h5 E hE), fun E hE F hF n => (h6 E hE F hF n).moved hW.alike⟩
  obtain ⟨sa, hk⟩ := h3 q hq
  exact ⟨sa, vk_R.warm hW hk⟩
theorem vi_px_blind {av : List Value} {sz : Nat} : FrameBlind (va_Pc av (vi_PX D cy w sz)) := fun a U g mk q => ⟨q.1, (pme_blind (av := av) a U g mk ⟨q.1, q.2.1⟩).2, ⟨vx_Zq.moved (u := U) (U := U.calling g mk a) (Vm.Alike.refl U.vm) q.2.2.1.1, vx_Zq.moved (u := U) (U := U.calling g mk a) (Vm.Alike.refl U.vm) q.2.2.1.2⟩, vi_S2_blind g mk a q.2.2.2⟩
/-- what a throw needs, further on -/
theorem vi_ST_at {locs : List Loc} {A1 : Nat → Prop} (h : vi_ST A0 s) (hS : va_S A0 s.heap H locs) (hA : ∀ q, A1 q → A0 q) : ∀ U : State, U.heap = H → s.WarmedH U.vm → vi_ST A1 U := by
  intro U hU hW
  exact ⟨⟨by rw [hU]; exact (vx_Zq.moved hW.alike (h.1.1.kept hS.2.1)).narrow hA, by rw [hU]; exact (vx_Zq.moved hW.alike (h.1.2.kept hS.2.1)).narrow hA⟩, vi_S2_warm hW h.2⟩
theorem vi_pv (hP : va_P D vwCl w H) (hD : va_D A0 w) (hK : va_K D vwCl (tyL cy) s) (hN : NL s) : ∀ U : State, U.heap = H → s.WarmedH U.vm → va_Pc av (PME D cy w H.size) av.toArray U := fun U hU hW => ⟨rfl, ⟨by rw [hU], by rw [hU]; exact hP, hD.weaken (fun _ _ _ _ => trivial)⟩, va_K.moved hW.alike hK, nl_warm hW hN⟩
theorem vi_px {locs : List Loc} (hP : va_P D vwCl w H) (hD : va_D A0 w) (hK : va_K D vwCl (tyL cy) s) (hN : NL s) (hT : vi_ST A0 s) (hS : va_S A0 s.heap H locs) (hA : ∀ q, s.heap.size ≤ q → A0 q) : ∀ U : State, U.heap = H → s.WarmedH U.vm → va_Pc av (vi_PX D cy w H.size) av.toArray U := fun U hU hW => ⟨rfl, (vi_pv (av := av) hP hD hK hN U hU hW).2, vi_ST_at hT hS (vi_A hD (fun q hq => hA q (Nat.le_trans hS.1 hq))) U hU hW⟩
end VIS
