section VIU
variable {p : Program} {l : Launch} {e : Env} {R : Room} {s : State} {m : MethodId} {args : Array Value} {below : List Frame} {meth : Method} {c : Code} {Q : State → Prop} {cc bytes : ByteArray} {own C host : String}
variable {KT : List VK} {SG : List Nat} {na nL maxL : Nat} {al : List (Nat × Value)} {FT : List (Nat × Nat × Nat)} {FP : List (Nat × Nat × Nat × Nat)} {CT C2 : List (Nat × Int)} {D : va_G} {cy : Nat → ClassId} {Z : va_W → Prop} {ad τ : List Nat} {A0 : Nat → Prop} {H0 H : Heap}
variable {lo : List VA} {st : List (VA × VO)} {fa : List VF} {n pc NC fr lo9 i : Nat} {L : List (Nat × VS)} {ls : Array Slot} {w w0 w1 : va_W} {XP : List Nat} {MT : List (Nat × Bool × Nat × List VCt)} {alts : List VAlt} {av : List Value} {M : List (Nat × Nat × Nat)} {y : MethodName} {WS Ts : List Cond} {ct ct0 : VCt} {ret : Option FieldType} {E E0 : List String}
theorem vi_crX {k mc9 : Nat} {Qc : Array Value → State → Outcome → State → Prop} (S : CallFix p m c cc nL s args Ts own) (hM : vi_Mx l D cy KT SG y WS fr lo9 ct E) (cw : CallW R s args own C i y bytes maxL ret WS { frames := fr, cells := ct.2.2.2.2, slots := 6 * ct.2.2.2.2, locals := lo9 } ct.2.2.2.2 (6 * ct.2.2.2.2) k) (hk : k + 1 = ct.1.length) (hr : vi_rcv KT ct C) (hK : va_K D vwCl (tyL cy) s) (hN : NL s) (hs : vi_s1 SG τ) (hT : vi_ST (va_A w0 s.heap.size) s) (hZ : ∀ w w1, Z w → vi_kept τ ct.2.2.2.1 w w1 → Z w1) (hZ0 : ∀ w9, Z w9 → vi_kept τ M w0 w9) (hR : NC ≤ R.cells ∧ 6 * NC ≤ R.slots) (hE : ∀ x ∈ E, x ∈ E0) (hout : ∀ x ∈ c.exceptionTable.toList, False) (hlocks : meth.locks = false) (hmc : NC ≤ mc9) :
    vi_Cr p l e R s m args below meth c (vx_MQ below Qc (vi_Xq D KT cy ad τ M w0 s.heap.size E0) args s mc9 (6 * mc9) (va_A w0 s.heap.size)) cc KT nL D cy Z ad τ (va_A w0 s.heap.size) s.heap NC i false ct := by
  intro H locs n pc w ls av rest h1 h2 h3 h4 h5 h6 h7 h8 h9 h10 h11 kk
  obtain ⟨b, As, rfl, hcell⟩ := vi_rcv_ok hK h2 h5 hr h6 h7
  have hM2 := hM ad τ w H.size _ hs (vi_tw_Z h5 trivial) h6 h7 h8
  simp only [Nat.mul_add] at kk
  rw [List.reverse_cons, List.append_assoc]
  have hn : As.length = k := by simp only [List.length_cons] at h6; omega
  exact vi_kx (vx_runV (g := F0 m pc ls _) S hM2 cw ⟨vi_px_blind, hcell, vi_px h2 h3 hK hN hT h4 (fun q hq => Or.inr hq)⟩ rfl hn h1 rfl (lv_room (vi_room h9)) h11 ⟨by omega, by omega⟩) h3 h4 h5 (fun w1 hk1 => hZ w w1 h5.2.2.2 hk1) hZ0 hE hout hlocks (by omega) (by omega) kk
theorem vi_crXS {k mc9 : Nat} {Qc : Array Value → State → Outcome → State → Prop} (S : CallFix p m c cc nL s args Ts own) (hM : vi_Mx l D cy KT SG y WS fr lo9 ct E) (cw : CallB R s args own i y bytes maxL ret WS { frames := fr, cells := ct.2.2.2.2, slots := 6 * ct.2.2.2.2, locals := lo9 } ct.2.2.2.2 (6 * ct.2.2.2.2) k ∧ (Cond.static y).before args s = true) (hk : k = ct.1.length) (hK : va_K D vwCl (tyL cy) s) (hN : NL s) (hs : vi_s1 SG τ) (hT : vi_ST (va_A w0 s.heap.size) s) (hZ : ∀ w w1, Z w → vi_kept τ ct.2.2.2.1 w w1 → Z w1) (hZ0 : ∀ w9, Z w9 → vi_kept τ M w0 w9) (hR : NC ≤ R.cells ∧ 6 * NC ≤ R.slots) (hE : ∀ x ∈ E, x ∈ E0) (hout : ∀ x ∈ c.exceptionTable.toList, False) (hlocks : meth.locks = false) (hmc : NC ≤ mc9) :
    vi_Cr p l e R s m args below meth c (vx_MQ below Qc (vi_Xq D KT cy ad τ M w0 s.heap.size E0) args s mc9 (6 * mc9) (va_A w0 s.heap.size)) cc KT nL D cy Z ad τ (va_A w0 s.heap.size) s.heap NC i true ct := by
  intro H locs n pc w ls av rest h1 h2 h3 h4 h5 h6 h7 h8 h9 h10 h11 kk
  have hM2 := hM ad τ w H.size _ hs (vi_tw_Z h5 trivial) h6 h7 h8
  simp only [Nat.mul_add] at kk
  exact vi_kx (vx_runS (g := F0 m pc ls _) S hM2 cw ⟨vi_px_blind, vi_px h2 h3 hK hN hT h4 (fun q hq => Or.inr hq)⟩ rfl (h6.trans hk.symm) h1 rfl (lv_room (vi_room h9)) h11 ⟨by omega, by omega⟩) h3 h4 h5 (fun w1 hk1 => hZ w w1 h5.2.2.2 hk1) hZ0 hE hout hlocks (by omega) (by omega) kk
/-- the type of an answer, and its ends -/
def vi_rtc (ret : Option FieldType) (alts : List VAlt) : Bool :=
  match ret with
  | none => alts.all fun a => a.1.isEmpty
  | some .int => alts.all fun a => match a.1 with | b :: _ => b.1 == 1 | [] => false
  | some .char => alts.all fun a => match a.1 with | b :: _ => (b.1 == 1) && decide (0 ≤ b.2.1) && decide (b.2.2 ≤ 65535) | [] => false
  | some .boolean => alts.all fun a => match a.1 with | b :: _ => (b.1 == 1) && decide (0 ≤ b.2.1) && decide (b.2.2 ≤ 1) | [] => false
  | some .long => alts.all fun a => match a.1 with | b :: _ => b.1 == 4 | [] => false
  | some (.object _) => alts.all fun a => match a.1 with | b :: _ => (b.1 == 2) || (b.1 == 3) | [] => false
  | _ => false
theorem vi_nbool {x : Int32} (h0 : 0 ≤ x.toInt) (h1 : x.toInt ≤ 1) : narrow .boolean (.int x) = .int x := by
  obtain ⟨j, hj, e1, e2⟩ := vi_ofNat h0
  have : j = 0 ∨ j = 1 := by omega
  rcases this with rfl | rfl <;> (rw [e1]; rfl)
theorem vi_nchar {x : Int32} (h0 : 0 ≤ x.toInt) (h1 : x.toInt ≤ 65535) : narrow .char (.int x) = .int x := by
  obtain ⟨j, hj, e1, e2⟩ := vi_ofNat h0
  rw [e1]
  exact (pk_charN (q := j) (by omega)).1
/-- the ends of a body, in any of the two forms -/
theorem vi_Rt_of {ms : Nat} {Qc : Array Value → State → Outcome → State → Prop} {free : Addr → Prop} (hx : p.tables.exec = Jvm.exec) (hb : c.code = cc) (hr : meth.sig.returnType = ret) (hlocks : meth.locks = false) (hrt : vi_rtc ret alts = true) (hms : 6 * NC ≤ ms) (hA : ∀ q, A0 q → free q)
    (hq : ∀ (H : Heap) (locs : List Loc) (w : va_W) (v : Option Value) (t : State), va_P D vwCl w H → va_S A0 H0 H locs → vi_tw KT cy Z ad τ w → (∃ alt ∈ alts, vi_alt ad τ av w alt v) → t.heap = H → Qc args s (.returned v) t) :
    vi_Rt p l e R s m args below meth c (MQ below Qc args s NC ms free) cc KT D cy Z ad τ A0 H0 NC av alts := by
  intro H locs n pc w ls v ins h1 h2 h3 h4 h5 h6 h7 h8
  have hQ : ∀ t : State, t.heap = H → s.WarmedH t.vm → Qc args s (.returned v) t := fun t ht _ => hq H locs w v t h1 h3 h4 h6 ht
  have hF : ∀ q ∈ locs, free q.base := fun q hql => hA _ (h3.2.2 q hql)
  refine W.widen h5 (Nat.le_trans (Nat.mul_le_mul_left 6 h5) hms) ?_
  obtain ⟨alt, halt, ha⟩ := h6
  obtain ⟨hv, -, -⟩ := ha
  obtain ⟨ar, a2, a3, a4⟩ := alt
  rcases h8 with ⟨rfl, rfl⟩ | ⟨rfl, x, rfl⟩ | ⟨rfl, hv2⟩ | ⟨rfl, x, rfl⟩
  · rcases ar with _ | ⟨b, ar⟩
    · cases ret with
      | none => exact W.vret hx hb hr hQ hF h7 hlocks
      | some ty => cases ty <;> (simp only [vi_rtc, List.all_eq_true] at hrt; first | exact absurd (hrt _ halt) (by simp) | cases hrt)
    · obtain ⟨z, hz, -⟩ := hv; cases hz
  · rcases ar with _ | ⟨b, ar⟩
    · cases hv
    · obtain ⟨z, hz, hz2, -⟩ := hv
      cases hz
      cases ret with
      | none => simp only [vi_rtc, List.all_eq_true] at hrt; exact absurd (hrt _ halt) (by simp)
      | some ty =>
        cases ty with
        | int => exact W.iret hx hb hr hQ hF h7 hlocks
        | char =>
          simp only [vi_rtc, List.all_eq_true] at hrt
          have := hrt _ halt
          simp only [Bool.and_eq_true, beq_iff_eq, decide_eq_true_eq] at this
          obtain ⟨y, ey, y1, y2⟩ := vi_i this.1.1 hz2
          cases ey
          exact W.zret hx hb hr (vi_nchar (Int.le_trans this.1.2 y1) (Int.le_trans y2 this.2)) hQ hF h7 hlocks
        | boolean =>
          simp only [vi_rtc, List.all_eq_true] at hrt
          have := hrt _ halt
          simp only [Bool.and_eq_true, beq_iff_eq, decide_eq_true_eq] at this
          obtain ⟨y, ey, y1, y2⟩ := vi_i this.1.1 hz2
          cases ey
          exact W.zret hx hb hr (vi_nbool (Int.le_trans this.1.2 y1) (Int.le_trans y2 this.2)) hQ hF h7 hlocks
        | long =>
          simp only [vi_rtc, List.all_eq_true, beq_iff_eq] at hrt
          obtain ⟨y, ey⟩ := vi_l (by simpa using hrt _ halt) hz2
          cases ey
        | object n =>
          simp only [vi_rtc, List.all_eq_true, Bool.or_eq_true, beq_iff_eq] at hrt
          rcases vi_r (by simpa using hrt _ halt) hz2 with h | ⟨y, h⟩ <;> cases h
        | _ => cases hrt
  · rcases ar with _ | ⟨b, ar⟩
    · have hv : v = none := hv
      subst hv
      rcases hv2 with h | ⟨y, h⟩ <;> cases h
    · obtain ⟨z, rfl, hz2, -⟩ := hv
      have hz3 : z = .null ∨ ∃ y, z = .ref y := by
        rcases hv2 with h | ⟨y, h⟩
        · exact Or.inl (Option.some.inj h)
        · exact Or.inr ⟨y, Option.some.inj h⟩
      cases ret with
      | none => simp only [vi_rtc, List.all_eq_true] at hrt; exact absurd (hrt _ halt) (by simp)
      | some ty =>
        cases ty with
        | object n => exact W.aret hx hb hr (Or.inl ⟨_, rfl⟩) hz3 hQ hF h7 hlocks
        | int =>
          simp only [vi_rtc, List.all_eq_true, beq_iff_eq] at hrt
          obtain ⟨y, rfl, -⟩ := vi_i (by simpa using hrt _ halt) hz2
          rcases hz3 with h | ⟨y, h⟩ <;> cases h
        | char =>
          simp only [vi_rtc, List.all_eq_true] at hrt
          have := hrt _ halt
          simp only [Bool.and_eq_true, beq_iff_eq, decide_eq_true_eq] at this
          obtain ⟨y, rfl, -⟩ := vi_i this.1.1 hz2
          rcases hz3 with h | ⟨y, h⟩ <;> cases h
        | boolean =>
          simp only [vi_rtc, List.all_eq_true] at hrt
          have := hrt _ halt
          simp only [Bool.and_eq_true, beq_iff_eq, decide_eq_true_eq] at this
          obtain ⟨y, rfl, -⟩ := vi_i this.1.1 hz2
          rcases hz3 with h | ⟨y, h⟩ <;> cases h
        | long =>
          simp only [vi_rtc, List.all_eq_true, beq_iff_eq] at hrt
          obtain ⟨y, rfl⟩ := vi_l (by simpa using hrt _ halt) hz2
          rcases hz3 with h | ⟨y, h⟩ <;> cases h
        | _ => cases hrt
  · rcases ar with _ | ⟨b, ar⟩
    · cases hv
    · obtain ⟨z, hz, hz2, -⟩ := hv
      cases hz
      cases ret with
      | none => simp only [vi_rtc, List.all_eq_true] at hrt; exact absurd (hrt _ halt) (by simp)
      | some ty =>
        cases ty with
        | long => exact W.lret hx hb hr hQ hF h7 hlocks
        | int =>
          simp only [vi_rtc, List.all_eq_true, beq_iff_eq] at hrt
          obtain ⟨y, h, -⟩ := vi_i (by simpa using hrt _ halt) hz2
          cases h
        | char =>
          simp only [vi_rtc, List.all_eq_true] at hrt
          have := hrt _ halt
          simp only [Bool.and_eq_true, beq_iff_eq, decide_eq_true_eq] at this
          obtain ⟨y, h, -⟩ := vi_i this.1.1 hz2
          cases h
        | boolean =>
          simp only [vi_rtc, List.all_eq_true] at hrt
          have := hrt _ halt
          simp only [Bool.and_eq_true, beq_iff_eq, decide_eq_true_eq] at this
          obtain ⟨y, h, -⟩ := vi_i this.1.1 hz2
          cases h
        | object n =>
          simp only [vi_rtc, List.all_eq_true, Bool.or_eq_true, beq_iff_eq] at hrt
          rcases vi_r (by simpa using hrt _ halt) hz2 with h | ⟨y, h⟩ <;> cases h
        | _ => cases hrt
theorem vi_Rt_x {XC : String → State → State → Prop} {mc ms : Nat} {Qc : Array Value → State → Outcome → State → Prop} {free : Addr → Prop} (h : vi_Rt p l e R s m args below meth c (MQ below Qc args s mc ms free) cc KT D cy Z ad τ A0 H0 NC av alts) : vi_Rt p l e R s m args below meth c (vx_MQ below Qc XC args s mc ms free) cc KT D cy Z ad τ A0 H0 NC av alts :=
  fun H locs n pc w ls v ins h1 h2 h3 h4 h5 h6 h7 h8 => vx_ret (h H locs n pc w ls v ins h1 h2 h3 h4 h5 h6 h7 h8)
end VIU
