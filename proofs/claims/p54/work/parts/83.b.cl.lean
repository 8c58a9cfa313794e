section CLB
theorem cl_nfc {x : Int32} (h : sgF 1 x) : narrow .char (.int x) = .int x ∧ fits .char (.int x) = true := by
  obtain ⟨n, hn, e1, e2⟩ := vi_ofNat (x := x) h.1
  have h2 : x.toInt ≤ 65535 := h.2
  rw [e1]
  exact pk_charN (by omega)
theorem cl_nfz {x : Int32} (h : sgF 2 x) : narrow .boolean (.int x) = .int x ∧ fits .boolean (.int x) = true := by
  obtain ⟨n, hn, e1, e2⟩ := vi_ofNat (x := x) h.1
  have h2 : x.toInt ≤ 1 := h.2
  have : n = 0 ∨ n = 1 := by omega
  rw [e1]
  rcases this with rfl | rfl <;> exact ⟨rfl, rfl⟩
/-! p54: walks over the class's cells by addresses -/
/-- what a walk may change -/
def clA (ad : List Nat) (sz : Nat) : Nat → Prop := fun q => q ∈ ad ∨ sz ≤ q
theorem clA_eq {cy : Nat → ClassId} {ad : List Nat} {σ : SG} {sz : Nat} : va_A (cwL cy ad σ) sz = clA ad sz := by
  funext q
  apply propext
  constructor
  · rintro (⟨k, e, h⟩ | h)
    · exact Or.inl (List.mem_of_getElem? (cwL_to h).1)
    · exact Or.inr h
  · rintro (h | h)
    · obtain ⟨k, hk⟩ := List.mem_iff_getElem?.mp h
      exact Or.inl ⟨k, _, cwL_at hk⟩
    · exact Or.inr h
/-- what a walk rests on -/
def clFx (p : Program) (s : State) (m : MethodId) (args : Array Value) (meth : Method) (c : Code) (cc : ByteArray) (nL : Nat) (own : String) (Ts : List Cond) (D : va_G) (cy : Nat → ClassId) : Prop := CallFix p m c cc nL s args Ts own ∧ va_K D vwCl (tyL cy) s ∧ NL s ∧ meth.locks = false
/-- where a walk stands -/
def clB (D : va_G) (cy : Nat → ClassId) (ad τ : List Nat) (s : State) (σ : SG) (H : Heap) (locs : List Loc) : Prop := sgG D cy (clA ad s.heap.size) s.heap σ H locs ∧ VT cy ad τ σ
def clQ (D : va_G) (cy : Nat → ClassId) (ad τ : List Nat) (sz : Nat) (Post : Option Value → SG → Prop) : Array Value → State → Outcome → State → Prop := fun _ st oc t => (∃ (v : Option Value) (σ2 : SG), oc = .returned v ∧ va_P D vwCl (cwL cy ad σ2) t.heap ∧ VT cy ad τ σ2 ∧ Post v σ2) ∧ va_F (clA ad sz) st t
/-- a contract over the class's state σ -/
abbrev clM (l : Launch) (D : va_G) (cy : Nat → ClassId) (ad τ : List Nat) (σ : SG) (sz : Nat) (y : MethodName) (WS : List Cond) (fr lo : Nat) (av : List Value) (Post : Option Value → SG → Prop) : Prop := Met l y WS { frames := fr, cells := 0, slots := 0, locals := lo } (va_Pc av (PME D cy (cwL cy ad σ) sz)) (clQ D cy ad τ sz Post) 0 0 (clA ad sz)
variable {p : Program} {l : Launch} {e : Env} {R : Room} {s : State} {m : MethodId} {args : Array Value} {below : List Frame} {meth : Method} {c : Code} {H : Heap} {locs : List Loc} {Q : State → Prop} {cc bytes : ByteArray} {pc : Nat} {ls : Array Slot} {rest As st0 : List Value}
variable {D : va_G} {cy : Nat → ClassId} {ad τ : List Nat} {σ σ2 : SG} {y x : MethodName} {WS Ts : List Cond} {fr lo n nL index maxL b k N n9 a ci t : Nat} {av : List Value} {Post : Option Value → SG → Prop} {own C host ref : String} {ret : Option FieldType} {T : u_T}
theorem cwL_D {sz : Nat} (h : VT cy ad τ σ) : va_D (clA ad sz) (cwL cy ad σ) := by
  refine ⟨fun i j p q hi hj hpq => ?_, fun k q hk => Or.inl (List.mem_of_getElem? (cwL_to hk).1)⟩
  have h1 := (cwL_to hi).1
  have h2 := (cwL_to hj).1
  rw [← hpq] at h2
  exact (List.getElem?_inj (List.getElem?_eq_some_iff.mp h1).1 h.2.1).mp (h1.trans h2.symm)
theorem cl_ofW {WS' : List Cond} {lv : List (Nat × Value)} (hV : VT cy ad τ σ) (hy : plainName y.cls = true) (hw : WS = Cond.code y cc maxL ret :: WS') (hn : (lg_sl av).length ≤ maxL) (hlv : lv_args 0 av = lv)
    (body : ∀ (p : Program) (e : Env) (s : State) (m : MethodId) (below : List Frame) (meth : Method) (c : Code) (ls : Array Slot) (H : Heap), meth.sig.returnType = ret → meth.name = y.name → clFx p s m av.toArray meth c cc maxL y.cls WS D cy → clB D cy ad τ s σ H [] → lv_has ls maxL lv → W p l e { frames := fr, cells := 0, slots := 0, locals := lo } s m av.toArray below meth c H [] 0 0 (MQ below (clQ D cy ad τ s.heap.size Post) av.toArray s 0 0 (clA ad s.heap.size)) (F0 m 0 ls [])) (sz : Nat) : clM l D cy ad τ σ sz y WS fr lo av Post := by
  refine ro_ofW hy hw hn hlv (fun p e s m below meth c ls hx hb hr hml hown hlocks hnm hts hpre hl => ?_)
  obtain ⟨⟨rfl, hP, hD⟩, hK, hN⟩ := hpre
  exact body p e s m below meth c ls s.heap hr hnm ⟨⟨hx, hb, hml, hown, hts⟩, hK, hN, hlocks⟩ ⟨⟨VT_P hV hP, fun a ha => Or.inl (hV.2.2.1 a ha), va_S.rf⟩, hV⟩ hl
/-- a written value -/
theorem clB_w {H1 : Heap} {locs1 : List Loc} (hG : sgG D cy (clA ad s.heap.size) s.heap σ2 H1 locs1) (hV : VT cy ad τ σ2) : clB D cy ad τ s σ2 H1 locs1 := ⟨hG, hV⟩
/-- the method's end -/
theorem cl_out {v : Option Value} {g : JFrame} (hB : clB D cy ad τ s σ H locs) (hP : Post v σ) (kk : (∀ t : State, t.heap = H → s.WarmedH t.vm → clQ D cy ad τ s.heap.size Post args s (.returned v) t) → (∀ q ∈ locs, clA ad s.heap.size q.base) → W p l e R s m args below meth c H locs 0 0 (MQ below (clQ D cy ad τ s.heap.size Post) args s 0 0 (clA ad s.heap.size)) g) : W p l e R s m args below meth c H locs 0 0 (MQ below (clQ D cy ad τ s.heap.size Post) args s 0 0 (clA ad s.heap.size)) g :=
  kk (fun t ht _ => ⟨⟨v, σ, rfl, by rw [ht]; exact VT_W hB.2 hB.1.1, hB.2, hP⟩, hB.1.2.2.F ht⟩) hB.1.2.2.2.2
theorem cl_iret {v : Int32} (F : clFx p s m args meth c cc nL own Ts D cy) (hB : clB D cy ad τ s σ H locs) (hr : meth.sig.returnType = some .int) (hdg : decode cc pc = .ok (.ireturn, 1)) (hP : Post (some (.int v)) σ) : W p l e R s m args below meth c H locs 0 0 (MQ below (clQ D cy ad τ s.heap.size Post) args s 0 0 (clA ad s.heap.size)) (F0 m pc ls [.int v]) := by
  have hlocks := F.2.2.2
  exact cl_out hB hP (fun h1 h2 => W.iret F.1.1 F.1.2.1 hr h1 h2 hdg hlocks)
theorem cl_zret {v : Int32} {ty : FieldType} (F : clFx p s m args meth c cc nL own Ts D cy) (hB : clB D cy ad τ s σ H locs) (hr : meth.sig.returnType = some ty) (hdg : decode cc pc = .ok (.ireturn, 1)) (hv : narrow ty (.int v) = .int v) (hP : Post (some (.int v)) σ) : W p l e R s m args below meth c H locs 0 0 (MQ below (clQ D cy ad τ s.heap.size Post) args s 0 0 (clA ad s.heap.size)) (F0 m pc ls [.int v]) := by
  have hlocks := F.2.2.2
  exact cl_out hB hP (fun h1 h2 => W.zret F.1.1 F.1.2.1 hr hv h1 h2 hdg hlocks)
theorem cl_vret (F : clFx p s m args meth c cc nL own Ts D cy) (hB : clB D cy ad τ s σ H locs) (hr : meth.sig.returnType = none) (hdg : decode cc pc = .ok (.return_, 1)) (hP : Post none σ) : W p l e R s m args below meth c H locs 0 0 (MQ below (clQ D cy ad τ s.heap.size Post) args s 0 0 (clA ad s.heap.size)) (F0 m pc ls []) := by
  have hlocks := F.2.2.2
  exact cl_out hB hP (fun h1 h2 => W.vret F.1.1 F.1.2.1 hr h1 h2 hdg hlocks)
theorem cl_aret {v : Value} {rt : FieldType} (F : clFx p s m args meth c cc nL own Ts D cy) (hB : clB D cy ad τ s σ H locs) (hr : meth.sig.returnType = some rt) (hrt : (∃ n, rt = .object n) ∨ ∃ t, rt = .array t) (hv : v = .null ∨ ∃ a, v = .ref a) (hdg : decode cc pc = .ok (.areturn, 1)) (hP : Post (some v) σ) : W p l e R s m args below meth c H locs 0 0 (MQ below (clQ D cy ad τ s.heap.size Post) args s 0 0 (clA ad s.heap.size)) (F0 m pc ls [v]) := by
  have hlocks := F.2.2.2
  exact cl_out hB hP (fun h1 h2 => W.aret F.1.1 F.1.2.1 hr hrt hv h1 h2 hdg hlocks)
/-- behind a call -/
theorem cl_kk {a : Array Value} (hr : va_Run p l e R s m args below meth c H locs k N 0 0 (F0 m pc ls st0) rest (clQ D cy ad τ H.size Post a) (clA ad H.size)) (hB : clB D cy ad τ s σ H locs)
    (kk : ∀ (H : Heap) (locs : List Loc) (v : Option Value) (σ2 : SG), clB D cy ad τ s σ2 H locs → Post v σ2 → W p l e R s m args below meth c H locs k N Q (F0 m (pc + 3) ls (v.toList ++ rest))) : W p l e R s m args below meth c H locs k N Q (F0 m pc ls st0) := by
  intro T hT X
  obtain ⟨v', st₀, t, T', L, h0, X', hL, e1, e2, ⟨⟨v, σ2, hv, q1, q2, q3⟩, hF⟩, st⟩ := hr T hT X
  cases hv
  have hsub : ∀ q, clA ad H.size q → clA ad s.heap.size q := fun q hq => hq.elim Or.inl (fun z => Or.inr (Nat.le_trans hB.1.2.2.1 z))
  obtain ⟨k1, k2, k3⟩ := vx_keep h0 e1 hB.1.2.2 (fun q _ z => hsub q z) hsub hL hF
  obtain ⟨t2, a1, b1⟩ := kk T'.heap (locs ++ L) v' σ2 ⟨⟨VT_P q2 (by rw [e1]; exact q1), fun a ha => Or.inl (q2.2.2.1 a ha), k3⟩, q2⟩ q3 T' rfl X'
  exact ⟨t2, st t2 a1, b1⟩
theorem cl_pv (F : clFx p s m args meth c cc nL own Ts D cy) (hB : clB D cy ad τ s σ H locs) : ∀ U : State, U.heap = H → s.WarmedH U.vm → va_Pc As (PME D cy (cwL cy ad σ) H.size) As.toArray U := vi_pv (A0 := clA ad 0) (VT_W hB.2 hB.1.1) (cwL_D hB.2) F.2.1 F.2.2.1
theorem cl_recv (F : clFx p s m args meth c cc nL own Ts D cy) (hB : clB D cy ad τ s σ H locs) {r : vw_C} (ha : sgT σ b = ci + 1) (h100 : ci + 1 < 100) (hc : vwCl[ci]? = some r) : ∃ cell : Cell, H[b]? = some cell ∧ cell.vm.isStatics = false ∧ s.vm.findClass r.1 = some cell.cls := by
  obtain ⟨q, hq⟩ := sgL_at (cy := cy) hB.1.1.2 (a := b) (by omega)
  rw [sgE_ob ha h100] at hq
  exact va_recv F.2.1 (sgL_P hB.1.1) hc hq
theorem cl_callS (F : clFx p s m args meth c cc nL own Ts D cy) (hB : clB D cy ad τ s σ H locs) (hM : clM l D cy ad τ σ H.size y WS fr lo As Post) (cw : CallB R s args own index y bytes maxL ret WS { frames := fr, cells := 0, slots := 0, locals := lo } 0 0 n9 ∧ (Cond.static y).before args s = true) (hn : As.length = n9) (hsize : ls.size = nL) (hst : st0 = As.reverse ++ rest) (hW : (rest.map fun v => v.category).sum ≤ 8) (hdg : decode cc pc = .ok (.invokestatic index, 3)) (hk : k + 0 ≤ R.cells ∧ N + 0 ≤ R.slots)
    (kk : ∀ (H : Heap) (locs : List Loc) (v : Option Value) (σ2 : SG), clB D cy ad τ s σ2 H locs → Post v σ2 → W p l e R s m args below meth c H locs k N Q (F0 m (pc + 3) ls (v.toList ++ rest))) : W p l e R s m args below meth c H locs k N Q (F0 m pc ls st0) :=
  cl_kk (va_runS (g := F0 m pc ls st0) F.1 hM cw ⟨pme_blind, cl_pv F hB⟩ rfl hn hsize hst (lv_room hW) hdg hk) hB kk
theorem cl_callV {r : vw_C} (F : clFx p s m args meth c cc nL own Ts D cy) (hB : clB D cy ad τ s σ H locs) (hM : clM l D cy ad τ σ H.size y WS fr lo (.ref b :: As) Post) (cw : CallW R s args own C index y bytes maxL ret WS { frames := fr, cells := 0, slots := 0, locals := lo } 0 0 n9) (hc : vwCl[ci]? = some r) (hC : r.1 = C) (h100 : ci + 1 < 100) (hn : As.length = n9) (hsize : ls.size = nL) (hst : st0 = As.reverse ++ .ref b :: rest) (hW : (rest.map fun v => v.category).sum ≤ 8) (hdg : decode cc pc = .ok (.invokevirtual index, 3)) (hk : k + 0 ≤ R.cells ∧ N + 0 ≤ R.slots) (ha : sgT σ b = ci + 1)
    (kk : ∀ (H : Heap) (locs : List Loc) (v : Option Value) (σ2 : SG), clB D cy ad τ s σ2 H locs → Post v σ2 → W p l e R s m args below meth c H locs k N Q (F0 m (pc + 3) ls (v.toList ++ rest))) : W p l e R s m args below meth c H locs k N Q (F0 m pc ls st0) :=
  cl_kk (va_runV (g := F0 m pc ls st0) F.1 hM cw ⟨pme_blind, hC ▸ cl_recv F hB ha h100 hc, cl_pv F hB⟩ rfl hn hsize hst (lv_room hW) hdg hk) hB kk
/-- a call of a method of which only the checker's contract is known -/
theorem cl_vi {sta : Bool} {ct : VCt} {NC : Nat} (hB : clB D cy ad τ s σ H locs) (hC : vi_Cr p l e R s m args below meth c Q cc vK nL D cy (fun _ => True) ad τ (clA ad s.heap.size) s.heap NC index sta ct) (hsize : ls.size = nL) (hl : av.length = ct.1.length) (hty : ∀ (j : Nat) (a : VA) (x : Value), ct.1[j]? = some a → av[j]? = some x → vi_ok ad τ a x) (hf : ∀ f ∈ ct.2.1, vi_fact ad τ (vi_av av) (cwL cy ad σ) f) (hr : rest.length ≤ 4) (hn : n + ct.2.2.2.2 ≤ NC) (hdg : decode cc pc = .ok (if sta = true then .invokestatic index else .invokevirtual index, 3)) (hst : st0 = av.reverse ++ rest)
    (kk : ∀ alt ∈ ct.2.2.1, ∀ (H : Heap) (locs : List Loc) (v : Option Value) (σ2 : SG) (w1 : va_W), clB D cy ad τ s σ2 H locs → vi_kept τ ct.2.2.2.1 (cwL cy ad σ) (cwL cy ad σ2) → vi_tw vK cy (fun _ => True) ad τ w1 → σ2 = wS ad τ w1 → vi_alt ad τ av w1 alt v → W p l e R s m args below meth c H locs (n + ct.2.2.2.2) (6 * (n + ct.2.2.2.2)) Q (F0 m (pc + 3) ls (v.toList ++ rest))) : W p l e R s m args below meth c H locs n (6 * n) Q (F0 m pc ls st0) := by
  rw [hst]
  refine hC H locs n pc (cwL cy ad σ) ls av rest hsize (VT_W hB.2 hB.1.1) (cwL_D hB.2) hB.1.2.2 hB.2.1 hl hty hf hr hn hdg (fun alt ha H1 locs1 w1 v h1 h2 h3 h4 h5 h6 => ?_)
  have hV := VT_of (cy := cy) h4 hB.2.2.1
  exact kk alt ha H1 locs1 v (wS ad τ w1) w1 ⟨⟨VT_P hV (P_of h4 hB.2.2.1 h1), fun a ha => Or.inl (hV.2.2.1 a ha), h3⟩, hV⟩ (kept_of hB.2 h4 h5) h4 rfl h6
/-- an array of ints is written -/
theorem cl_iast {i x : Int32} (F : clFx p s m args meth c cc nL own Ts D cy) (hB : clB D cy ad τ s σ H locs) (hdg : decode cc pc = .ok (.iastore, 1)) (ha : sgT σ a = 100) (h1 : 0 ≤ i.toInt) (h2 : i.toInt < sgN σ a) (h3 : sgN σ a < 2147483648)
    (kk : ∀ (H : Heap) (locs : List Loc), clB D cy ad τ s (sgPI σ a i.toInt.toNat x) H locs → W p l e R s m args below meth c H locs k N Q (F0 m (pc + 1) ls rest)) : W p l e R s m args below meth c H locs k N Q (F0 m pc ls (.int x :: .int i :: .ref a :: rest)) := by
  refine sg_iast F.1.1 F.1.2.1 F.2.1 hB.1 hdg ha h1 h2 h3 (fun H1 locs1 hs1 => kk H1 locs1 ⟨hs1, VT_PA (ty := 0) hB.2 ha rfl (by omega) (fun d n N b els e => ?_)⟩)
  have h9 : vK.all (fun k => match k with
    | (n + 1, 0, _, b :: _) => decide (b.2.1 = -2147483648) && decide (b.2.2 = 2147483647)
    | _ => true) = true := by decide +kernel
  have h8 := List.all_eq_true.mp h9 _ (List.mem_of_getElem? e)
  have h7 : (decide (b.2.1 = -2147483648) && decide (b.2.2 = 2147483647)) = true := h8
  rw [Bool.and_eq_true, decide_eq_true_eq, decide_eq_true_eq] at h7
  have := Int32.le_toInt x
  have := Int32.toInt_lt x
  omega
/-- a written int lies in its field's range, in all kinds of the class -/
theorem cl_rg {lo hi : Int} {x : Int32} (h : vK.all (fun q => match q with
    | (0, c, _, fs) => !(c == ci) || (match fs[k]? with
      | some b => (b.1 == 1) && (decide (b.2.1 ≤ lo) && decide (hi ≤ b.2.2))
      | none => true)
    | _ => true) = true) (hx : lo ≤ x.toInt ∧ x.toInt ≤ hi) : ∀ (d x0 : Nat) (fs : List VA) (b : VA), vK[d]? = some (0, ci, x0, fs) → fs[k]? = some b → vi_ok ad τ b (.int x) := by
  intro d x0 fs b e1 e2
  have h8 := List.all_eq_true.mp h _ (List.mem_of_getElem? e1)
  have h7 : (!(ci == ci) || (match fs[k]? with
      | some b => (b.1 == 1) && (decide (b.2.1 ≤ lo) && decide (hi ≤ b.2.2))
      | none => true)) = true := h8
  rw [e2, beq_self_eq_true, Bool.not_true, Bool.false_or] at h7
  have h7 : ((b.1 == 1) && (decide (b.2.1 ≤ lo) && decide (hi ≤ b.2.2))) = true := h7
  rw [Bool.and_eq_true, Bool.and_eq_true, beq_iff_eq, decide_eq_true_eq, decide_eq_true_eq] at h7
  obtain ⟨b1, b2, b3⟩ := b
  obtain ⟨z1, z2, z3⟩ := h7
  have z1 : b1 = 1 := z1
  have z2 : b2 ≤ lo := z2
  have z3 : hi ≤ b3 := z3
  subst z1
  exact ⟨x, rfl, by show b2 ≤ x.toInt; omega, by show x.toInt ≤ b3; omega⟩
theorem cl_full (x : Int32) : -2147483648 ≤ x.toInt ∧ x.toInt ≤ 2147483647 := by
  have := Int32.le_toInt x
  have := Int32.toInt_lt x
  omega
/-- a tag that one kind has -/
theorem cl_kd {kd : Nat} (h : VT cy ad τ σ) (ha : sgT σ a = t) (h0 : t ≠ 0) (hu : (List.range vK.length).all (fun d => !(vTag d == t) || (d == kd)) = true) : ∃ q : Nat, τ[q]? = some kd ∧ ad[q]? = some a := by
  obtain ⟨q, d, g1, g2, g3, -, kk, g5, -⟩ := VT_at h (a := a) (by omega)
  have h1 := List.all_eq_true.mp hu d (List.mem_range.mpr (List.getElem?_eq_some_iff.mp g5).1)
  rw [Bool.or_eq_true, Bool.not_eq_true', beq_eq_false_iff_ne, beq_iff_eq] at h1
  rcases h1 with h1 | h1
  · exact absurd (g3.trans ha) h1
  · exact ⟨q, by rw [← h1]; exact g2, g1⟩
theorem cl_rf {kd ci9 : Nat} {x : Option Nat} (h : vK.all (fun q => match q with
    | (0, c, _, fs) => !(c == ci9) || (match fs[k]? with
      | some b => (b.1 == 3) && (decide (b.2.1 = (kd : Int)) && !decide (b.2.2 = 0))
      | none => true)
    | _ => true) = true) (hx : ∀ b, x = some b → ∃ q : Nat, τ[q]? = some kd ∧ ad[q]? = some b) : ∀ (d x0 : Nat) (fs : List VA) (b : VA), vK[d]? = some (0, ci9, x0, fs) → fs[k]? = some b → vi_ok ad τ b (va_rf x) := by
  intro d x0 fs b e1 e2
  have h8 := List.all_eq_true.mp h _ (List.mem_of_getElem? e1)
  have h7 : (!(ci9 == ci9) || (match fs[k]? with
      | some b => (b.1 == 3) && (decide (b.2.1 = (kd : Int)) && !decide (b.2.2 = 0))
      | none => true)) = true := h8
  rw [e2, beq_self_eq_true, Bool.not_true, Bool.false_or] at h7
  have h7 : ((b.1 == 3) && (decide (b.2.1 = (kd : Int)) && !decide (b.2.2 = 0))) = true := h7
  rw [Bool.and_eq_true, Bool.and_eq_true, beq_iff_eq, decide_eq_true_eq, Bool.not_eq_true', decide_eq_false_iff_not] at h7
  obtain ⟨b1, b2, b3⟩ := b
  obtain ⟨z1, z2, z3⟩ := h7
  have z1 : b1 = 3 := z1
  have z2 : b2 = (kd : Int) := z2
  subst z1
  cases x with
  | none => exact Or.inl ⟨z3, rfl⟩
  | some b9 =>
    obtain ⟨q, g1, g2⟩ := hx b9 rfl
    exact Or.inr ⟨q, b9, by rw [z2]; exact g1, g2, rfl⟩
end CLB
