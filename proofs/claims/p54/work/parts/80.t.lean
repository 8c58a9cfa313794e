section VIT
variable {p : Program} {l : Launch} {e : Env} {R : Room} {s : State} {m : MethodId} {args : Array Value} {below : List Frame} {meth : Method} {c : Code} {Q : State → Prop} {cc bytes : ByteArray} {own C host : String}
variable {KT : List VK} {SG : List Nat} {na nL maxL : Nat} {al : List (Nat × Value)} {FT : List (Nat × Nat × Nat)} {FP : List (Nat × Nat × Nat × Nat)} {CT C2 : List (Nat × Int)} {D : va_G} {cy : Nat → ClassId} {Z : va_W → Prop} {ad τ : List Nat} {A0 : Nat → Prop} {H0 H : Heap}
variable {lo : List VA} {st : List (VA × VO)} {fa : List VF} {n pc NC fr lo9 i : Nat} {L : List (Nat × VS)} {ls : Array Slot} {w w0 w1 : va_W} {XP : List Nat} {MT : List (Nat × Bool × Nat × List VCt)} {alts : List VAlt} {av : List Value} {M : List (Nat × Nat × Nat)} {y : MethodName} {WS Ts : List Cond} {ct : VCt} {ret : Option FieldType} {E E0 : List String}
/-- the receiver, by the contract's first word -/
def vi_rcv (KT : List VK) (ct : VCt) (C : String) : Prop := ∃ (d ci x : Nat) (fs : List VA) (q9 : vw_C) (as : List VA), ct.1 = (3, (d : Int), 0) :: as ∧ KT[d]? = some (0, ci, x, fs) ∧ vwCl[ci]? = some q9 ∧ q9.1 = C
theorem vi_rcv_ok (hK : va_K D vwCl (tyL cy) s) (hP : va_P D vwCl w H) (ht : vi_tw KT cy Z ad τ w) (h : vi_rcv KT ct C) (hl : av.length = ct.1.length) (hty : ∀ (j : Nat) (a : VA) (x : Value), ct.1[j]? = some a → av[j]? = some x → vi_ok ad τ a x) :
    ∃ (b : Nat) (As : List Value), av = .ref b :: As ∧ ∃ cellB : Cell, H[b]? = some cellB ∧ cellB.vm.isStatics = false ∧ s.vm.findClass C = some cellB.cls := by
  obtain ⟨d, ci, x, fs, q9, as, h1, h2, h3, h4⟩ := h
  rw [h1] at hl hty
  cases av with
  | nil => cases hl
  | cons v As =>
    have h5 := hty 0 (3, (d : Int), 0) v rfl rfl
    obtain ⟨q, b, rfl, g1, g2⟩ := vi_nn (a := (3, (d : Int), 0)) rfl rfl h5
    obtain ⟨ee, k, e1, e2, e3⟩ := vi_tw_get ht g1 g2
    have e2 : KT[d]? = some k := e2
    cases h2.symm.trans e2
    obtain ⟨vs, rfl, -, -⟩ := e3
    exact ⟨b, As, rfl, h4 ▸ va_recv hK hP h3 e1⟩
theorem vi_crV {k : Nat} (S : CallFix p m c cc nL s args Ts own) (hM : vi_Mn l D cy KT SG y WS fr lo9 ct) (cw : CallW R s args own C i y bytes maxL ret WS { frames := fr, cells := 0, slots := 0, locals := lo9 } 0 0 k) (hk : k + 1 = ct.1.length) (hr : vi_rcv KT ct C) (hK : va_K D vwCl (tyL cy) s) (hN : NL s) (hs : vi_s1 SG τ) (hZ : ∀ w w1, Z w → vi_kept τ ct.2.2.2.1 w w1 → Z w1) (hA : ∀ q, H0.size ≤ q → A0 q) (hR : NC ≤ R.cells ∧ 6 * NC ≤ R.slots) :
    vi_Cr p l e R s m args below meth c Q cc KT nL D cy Z ad τ A0 H0 NC i false ct := by
  intro H locs n pc w ls av rest h1 h2 h3 h4 h5 h6 h7 h8 h9 h10 h11 kk
  obtain ⟨b, As, rfl, hcell⟩ := vi_rcv_ok hK h2 h5 hr h6 h7
  have hM2 := hM.2 ad τ w H.size _ hs (vi_tw_Z h5 trivial) h6 h7 h8
  have h0 := hM.1
  simp only [h0, Nat.add_zero] at kk h10
  rw [List.reverse_cons, List.append_assoc]
  have hn : As.length = k := by simp only [List.length_cons] at h6; omega
  exact vi_kk (va_runV (g := F0 m pc ls _) S hM2 cw ⟨pme_blind, hcell, vi_pv h2 h3 hK hN⟩ rfl hn h1 rfl (lv_room (vi_room h9)) h11 ⟨by omega, by omega⟩) h2 h3 h4 hA h5 (fun w1 hk1 => hZ w w1 h5.2.2.2 hk1) kk
theorem vi_crVN {k : Nat} (S : CallFix p m c cc nL s args Ts own) (hM : vi_Mn l D cy KT SG y WS fr lo9 ct) (cw : va_CN R s args own i y host bytes maxL ret WS { frames := fr, cells := 0, slots := 0, locals := lo9 } 0 0 k ∧ (Cond.instanceMethod y).before args s = true ∧ (Cond.selects C y y).before args s = true) (hk : k + 1 = ct.1.length) (hr : vi_rcv KT ct C) (hK : va_K D vwCl (tyL cy) s) (hN : NL s) (hs : vi_s1 SG τ) (hZ : ∀ w w1, Z w → vi_kept τ ct.2.2.2.1 w w1 → Z w1) (hA : ∀ q, H0.size ≤ q → A0 q) (hR : NC ≤ R.cells ∧ 6 * NC ≤ R.slots) :
    vi_Cr p l e R s m args below meth c Q cc KT nL D cy Z ad τ A0 H0 NC i false ct := by
  intro H locs n pc w ls av rest h1 h2 h3 h4 h5 h6 h7 h8 h9 h10 h11 kk
  obtain ⟨b, As, rfl, hcell⟩ := vi_rcv_ok hK h2 h5 hr h6 h7
  have hM2 := hM.2 ad τ w H.size _ hs (vi_tw_Z h5 trivial) h6 h7 h8
  have h0 := hM.1
  simp only [h0, Nat.add_zero] at kk h10
  rw [List.reverse_cons, List.append_assoc]
  have hn : As.length = k := by simp only [List.length_cons] at h6; omega
  exact vi_kk (va_runVN (g := F0 m pc ls _) S hM2 cw ⟨pme_blind, hcell, vi_pv h2 h3 hK hN⟩ rfl hn h1 rfl (lv_room (vi_room h9)) h11 ⟨by omega, by omega⟩) h2 h3 h4 hA h5 (fun w1 hk1 => hZ w w1 h5.2.2.2 hk1) kk
theorem vi_crS {k : Nat} (S : CallFix p m c cc nL s args Ts own) (hM : vi_Mn l D cy KT SG y WS fr lo9 ct) (cw : CallB R s args own i y bytes maxL ret WS { frames := fr, cells := 0, slots := 0, locals := lo9 } 0 0 k ∧ (Cond.static y).before args s = true) (hk : k = ct.1.length) (hK : va_K D vwCl (tyL cy) s) (hN : NL s) (hs : vi_s1 SG τ) (hZ : ∀ w w1, Z w → vi_kept τ ct.2.2.2.1 w w1 → Z w1) (hA : ∀ q, H0.size ≤ q → A0 q) (hR : NC ≤ R.cells ∧ 6 * NC ≤ R.slots) :
    vi_Cr p l e R s m args below meth c Q cc KT nL D cy Z ad τ A0 H0 NC i true ct := by
  intro H locs n pc w ls av rest h1 h2 h3 h4 h5 h6 h7 h8 h9 h10 h11 kk
  have hM2 := hM.2 ad τ w H.size _ hs (vi_tw_Z h5 trivial) h6 h7 h8
  have h0 := hM.1
  simp only [h0, Nat.add_zero] at kk h10
  exact vi_kk (va_runS (g := F0 m pc ls _) S hM2 cw ⟨pme_blind, vi_pv h2 h3 hK hN⟩ rfl (h6.trans hk.symm) h1 rfl (lv_room (vi_room h9)) h11 ⟨by omega, by omega⟩) h2 h3 h4 hA h5 (fun w1 hk1 => hZ w w1 h5.2.2.2 hk1) kk
/-- behind a callee that may throw -/
theorem vi_kx {st0 rest : List Value} {a : Array Value} {locs : List Loc} {cells slots mc ms mc9 ms9 : Nat} {Qc : Array Value → State → Outcome → State → Prop} (hr : vx_Run p l e R s m args below meth c H locs cells slots mc ms (F0 m pc ls st0) rest (vi_Qr D KT cy ad τ w H.size av ct a) (vi_Xq D KT cy ad τ ct.2.2.2.1 w H.size E) (va_A w H.size)) (hD : va_D (va_A w0 s.heap.size) w) (hS : va_S (va_A w0 s.heap.size) s.heap H locs) (ht : vi_tw KT cy Z ad τ w) (hZ : ∀ w1, vi_kept τ ct.2.2.2.1 w w1 → Z w1) (hZ0 : ∀ w9, Z w9 → vi_kept τ M w0 w9) (hE : ∀ x ∈ E, x ∈ E0) (hout : ∀ x ∈ c.exceptionTable.toList, False) (hlocks : meth.locks = false) (hc : cells + mc ≤ mc9) (hs9 : slots + ms ≤ ms9)
    (kk : ∀ alt ∈ ct.2.2.1, ∀ (H1 : Heap) (locs1 : List Loc) (w1 : va_W) (v : Option Value), va_P D vwCl w1 H1 → va_D (va_A w0 s.heap.size) w1 → va_S (va_A w0 s.heap.size) s.heap H1 locs1 → vi_tw KT cy Z ad τ w1 → vi_kept τ ct.2.2.2.1 w w1 → vi_alt ad τ av w1 alt v → W p l e R s m args below meth c H1 locs1 (cells + mc) (slots + ms) (vx_MQ below Qc (vi_Xq D KT cy ad τ M w0 s.heap.size E0) args s mc9 ms9 (va_A w0 s.heap.size)) (F0 m (pc + 3) ls (v.toList ++ rest))) :
    W p l e R s m args below meth c H locs cells slots (vx_MQ below Qc (vi_Xq D KT cy ad τ M w0 s.heap.size E0) args s mc9 ms9 (va_A w0 s.heap.size)) (F0 m pc ls st0) := by
  intro T hT X
  have hsub := vi_A (sz := H.size) hD (fun q hq => Or.inr (Nat.le_trans hS.1 hq))
  rcases hr T hT X with ⟨v', st₀, t, T', L, h0, X', hL, e1, e2, ⟨⟨v, w1, alt, halt, hv, q1, q2, q3, q4⟩, hF⟩, st⟩ | ⟨q, st₀, t, T', L, E', ce, h0, X', hL, e1, e2, ⟨hE', ⟨w1, x1, x2, x3⟩, hF⟩, hce, hcv, hcl, st⟩
  · cases hv
    obtain ⟨k1, k2, k3⟩ := vx_keep h0 e1 hS (fun q _ z => hsub q z) hsub hL hF
    obtain ⟨t2, a1, b1⟩ := kk alt halt T'.heap (locs ++ L) w1 v' (by rw [e1]; exact q1) (vi_D hD ht q2) k3 (vi_tw_Z q2 (hZ w1 q3)) q3 q4 T' rfl X'
    exact ⟨t2, st t2 a1, b1⟩
  · obtain ⟨k1, k2, k3⟩ := vx_keep h0 e1 hS (fun q _ z => hsub q z) hsub hL hF
    obtain ⟨t2, a1, b1⟩ := vx_out (Qc := Qc) (XC := vi_Xq D KT cy ad τ M w0 s.heap.size E0) (rest := rest) (ls := ls) (pc := pc) (free := va_A w0 s.heap.size) (mc := mc9) (ms := ms9) (H := T'.heap) (locs := locs ++ L) (cells := cells + mc) (slots := slots + ms) (fun x hx => (hout x hx).elim) hlocks (by rw [e1]; exact hce) hcv hcl
      (fun t9 ht9 _ => ⟨hE _ hE', ⟨w1, by rw [ht9, e1]; exact x1, x2, hZ0 w1 (hZ w1 x3)⟩, k3.F ht9⟩) k3.2.2 hc hs9 T' rfl X'
    exact ⟨t2, st.trans a1, b1⟩
end VIT
