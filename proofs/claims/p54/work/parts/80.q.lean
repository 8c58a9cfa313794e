section VIQ
variable {p : Program} {l : Launch} {e : Env} {R : Room} {s : State} {m : MethodId} {args : Array Value} {below : List Frame} {meth : Method} {c : Code} {Q : State → Prop} {cc : ByteArray} {own : String}
variable {KT : List VK} {SG : List Nat} {na nL : Nat} {al : List (Nat × Value)} {FT : List (Nat × Nat × Nat)} {FP : List (Nat × Nat × Nat × Nat)} {CT C2 : List (Nat × Int)} {D : va_G} {cy : Nat → ClassId} {Z : va_W → Prop} {ad τ : List Nat} {A0 : Nat → Prop} {H0 : Heap}
variable {lo : List VA} {st : List (VA × VO)} {fa : List VF} {n pc NC : Nat} {L : List (Nat × VS)} {ls : Array Slot} {w : va_W} {XP : List Nat} {MT : List (Nat × Bool × Nat × List VCt)} {alts : List VAlt} {av : List Value}
/-- the arguments as the locals hold them -/
def vi_al (av : List Value) : List (Nat × Value) := (List.range av.length).filterMap fun j => (av[j]?).map fun v => (j, v)
theorem vi_al_at {nL : Nat} (h : lv_has ls nL (vi_al av)) {j : Nat} {v : Value} (hv : av[j]? = some v) : ls[j]? = some (.val v) := h.2.2 (j, v) (List.mem_filterMap.mpr ⟨j, List.mem_range.mpr (List.getElem?_eq_some_iff.mp hv).1, by rw [hv]; rfl⟩)
/-- a path that begins at an argument, of the argument itself -/
theorem vi_path_av {nL : Nat} (h : lv_has ls nL (vi_al av)) {o : VO} {x : Value} (ho : o.1 = 3 ∨ (o.1 = 2 ∧ o.2.1 < av.length)) (hp : vi_path τ ls w o x) : vi_path τ (vi_av av) w o x := by
  obtain ⟨t, j, ci, k⟩ := o
  rcases ho with ho | ⟨ho, hj⟩
  · have ho : t = 3 := ho
    subst ho; exact hp
  · have ho : t = 2 := ho
    subst ho
    obtain ⟨q, a, vs, e1, e2, e3⟩ := hp
    have hj : j < av.length := hj
    have hv : av[j]? = some av[j] := List.getElem?_eq_getElem hj
    have e := e1.symm.trans (vi_al_at h hv)
    have e5 := Option.some.inj e
    injection e5 with e6
    exact ⟨q, a, vs, vi_av_at.mpr (by rw [hv, e6]), e2, e3⟩
theorem vi_end_ok {alts : List VAlt} {ret : Option (VA × VO)} {v : Option Value} {H : Heap} {locs : List Loc} {vs : List Value} (hna : na = av.length) (h : vi_end alts ret na lo fa = true) (g : vi_G KT D cy Z ad τ nL (vi_al av) A0 H0 (lo, st, fa, n) H locs ls vs w)
    (hr : match ret, v with | none, none => True | some b, some x => vi_ok ad τ b.1 x ∧ vi_path τ ls w b.2 x | _, _ => False) : ∃ alt ∈ alts, vi_alt ad τ av w alt v := by
  simp only [vi_end, List.any_eq_true, Bool.and_eq_true] at h
  obtain ⟨alt, h0, ⟨h1, h2⟩, h3⟩ := h
  refine ⟨alt, h0, ?_, fun j a x ha hx => ?_, fun f hf => ?_⟩
  · obtain ⟨ret0, ra, rf, rr⟩ := alt
    rcases ret0 with _ | ⟨a, ret0⟩
    · cases ret with
      | none => cases v with
        | none => rfl
        | some x => exact hr.elim
      | some b => exact absurd h1 (by simp)
    · cases ret with
      | none => exact absurd h1 (by simp)
      | some b => cases v with
        | none => exact hr.elim
        | some x =>
          simp only [Bool.and_eq_true, List.all_eq_true, beq_iff_eq, Bool.not_eq_true', beq_eq_false_iff_ne] at h1
          refine ⟨x, rfl, vi_le_ok h1.1 hr.1, fun f hf => ?_⟩
          obtain ⟨⟨z1, z2⟩, z3⟩ := h1.2 f hf
          obtain ⟨-, y, y1, y2⟩ := vi_has_ok z3 g.2.2.2.2.2.2.2
          refine ⟨y, ?_, y2⟩
          obtain ⟨⟨t, j, ci, k⟩, fv⟩ := f
          unfold vi_ab at z2 y1
          by_cases c3 : t = 2 ∧ j = 0
          · obtain ⟨rfl, rfl⟩ := c3
            rw [if_pos ⟨rfl, rfl⟩] at y1
            obtain ⟨q9, a9, vs9, w1, w2, w3⟩ := y1
            have hp := hr.2
            obtain ⟨b1, t2, i2, x1, x2⟩ := b
            have z1 : t2 = 1 := z1
            subst z1
            have e := Option.some.inj (w1.symm.trans hp)
            injection e with e6
            exact ⟨q9, a9, vs9, vi_av_at.mpr (by rw [← e6]; rfl), w2, w3⟩
          · rw [if_neg c3] at z2
            exact absurd rfl z2
  · have hj := (List.getElem?_eq_some_iff.mp ha).1
    have h2j := List.all_eq_true.mp h2 j (List.mem_range.mpr hj)
    rw [ha] at h2j
    have hls := vi_al_at g.2.2.2.2.1 hx
    cases hb : lo[j]? with
    | none =>
      rw [hb] at h2j
      have : a.1 = 0 := by simpa using h2j
      obtain ⟨t, a1, a2⟩ := a
      have this : t = 0 := this
      subst this; exact trivial
    | some b =>
      rw [hb] at h2j
      simp only [Bool.or_eq_true, Bool.and_eq_true, beq_iff_eq, decide_eq_true_eq] at h2j
      rcases h2j with h4 | ⟨h4, -⟩
      · obtain ⟨t, a1, a2⟩ := a
        have h4 : t = 0 := h4
        subst h4; exact trivial
      · by_cases hb0 : b.1 = 0
        · have : a.1 = 0 := by
            obtain ⟨t, a1, a2⟩ := a
            obtain ⟨t2, b1, b2⟩ := b
            have hb0 : t2 = 0 := hb0
            subst hb0
            simp only [vi_le, Bool.or_eq_true, Bool.and_eq_true, beq_iff_eq, Nat.ble_eq] at h4
            show t = 0
            omega
          obtain ⟨t, a1, a2⟩ := a
          have this : t = 0 := this
          subst this; exact trivial
        · obtain ⟨y, e1, e2⟩ := g.2.2.2.2.2.1 j b hb hb0
          have e := Option.some.inj (e1.symm.trans hls)
          injection e with e6
          rw [← e6]
          exact vi_le_ok h4 e2
  · have h3f := List.all_eq_true.mp h3 f hf
    simp only [Bool.and_eq_true, Bool.or_eq_true, beq_iff_eq, decide_eq_true_eq] at h3f
    obtain ⟨-, y, y1, y2⟩ := vi_has_ok h3f.1 g.2.2.2.2.2.2.2
    exact ⟨y, vi_path_av g.2.2.2.2.1 (by rw [← hna]; exact h3f.2) y1, y2⟩
theorem vi_fin_ok (hna : na = av.length) (hR : vi_Rt p l e R s m args below meth c Q cc KT D cy Z ad τ A0 H0 NC av alts) {ins : Instr} (hd : decode cc pc = .ok (ins, 1)) (hn : n ≤ NC) (h : vi_fin alts na ins lo st fa = true) : vi_W p l e R s m args below meth c Q KT nL (vi_al av) D cy Z ad τ A0 H0 pc (lo, st, fa, n) := by
  intro H locs ls vs w g
  unfold vi_fin at h
  split at h
  · have hv := vi_stk_len g.2.2.2.2.2.2.1
    cases vs with
    | nil => exact hR H locs n pc w ls none _ g.1 g.2.1 g.2.2.1 g.2.2.2.1 hn (vi_end_ok hna h g trivial) hd (Or.inl ⟨rfl, rfl⟩)
    | cons x vs => cases hv
  · rename_i a
    simp only [Bool.and_eq_true, beq_iff_eq] at h
    obtain ⟨v, vs1, rfl, e1, e2, e3⟩ := vi_stk_c g.2.2.2.2.2.2.1
    have hv := vi_stk_len e3
    cases vs1 with
    | cons x vs => cases hv
    | nil =>
      obtain ⟨x, rfl, -⟩ := vi_i h.1 e1
      exact hR H locs n pc w ls (some (.int x)) _ g.1 g.2.1 g.2.2.1 g.2.2.2.1 hn (vi_end_ok hna h.2 g ⟨e1, e2⟩) hd (Or.inr (Or.inl ⟨rfl, x, rfl⟩))
  · rename_i a
    simp only [Bool.and_eq_true, Bool.or_eq_true, beq_iff_eq] at h
    obtain ⟨v, vs1, rfl, e1, e2, e3⟩ := vi_stk_c g.2.2.2.2.2.2.1
    have hv := vi_stk_len e3
    cases vs1 with
    | cons x vs => cases hv
    | nil =>
      have hr := vi_r h.1 e1
      exact hR H locs n pc w ls (some v) _ g.1 g.2.1 g.2.2.1 g.2.2.2.1 hn (vi_end_ok hna h.2 g ⟨e1, e2⟩) hd (Or.inr (Or.inr (Or.inl ⟨rfl, by rcases hr with rfl | ⟨b, rfl⟩; exact Or.inl rfl; exact Or.inr ⟨b, rfl⟩⟩)))
  · rename_i a
    simp only [Bool.and_eq_true, beq_iff_eq] at h
    obtain ⟨v, vs1, rfl, e1, e2, e3⟩ := vi_stk_c g.2.2.2.2.2.2.1
    have hv := vi_stk_len e3
    cases vs1 with
    | cons x vs => cases hv
    | nil =>
      obtain ⟨x, rfl⟩ := vi_l h.1 e1
      exact hR H locs n pc w ls (some (.long x)) _ g.1 g.2.1 g.2.2.1 g.2.2.2.1 hn (vi_end_ok hna h.2 g ⟨e1, e2⟩) hd (Or.inr (Or.inr (Or.inr ⟨rfl, x, rfl⟩)))
  · cases h
/-- all that a body's walk rests on -/
def vi_All (p : Program) (l : Launch) (e : Env) (R : Room) (s : State) (m : MethodId) (args : Array Value) (below : List Frame) (meth : Method) (c : Code) (Q : State → Prop) (own : String) (KT : List VK) (SG : List Nat) (nL NC : Nat) (FT : List (Nat × Nat × Nat)) (FP : List (Nat × Nat × Nat × Nat)) (CT C2 : List (Nat × Int)) (XP : List Nat) (MT : List (Nat × Bool × Nat × List VCt)) (cc : ByteArray) (D : va_G) (cy : Nat → ClassId) (Z : va_W → Prop) (ad τ : List Nat) (A0 : Nat → Prop) (H0 : Heap) (av : List Value) (alts : List VAlt) : Prop :=
  (∀ v ∈ av, v.category = 1) ∧ p.tables.exec = Jvm.exec ∧ c.code = cc ∧ s.vm.findClass own = some m.cls ∧ va_K D vwCl (tyL cy) s ∧ vi_sg SG τ ∧ vi_Zp FP τ Z ∧ vi_Za FP τ Z ∧
  (∀ (i ci k : Nat), (i, ci, k) ∈ FT → vi_Fg p l e R s m args below meth c Q cc D i ci k) ∧
  (∀ (i ci k d9 : Nat), (i, ci, k, d9) ∈ FP → ∀ (d x : Nat) (fs : List VA) (b : VA) (v : Value), KT[d]? = some (0, ci, x, fs) → fs[k]? = some b → vi_ok ad τ b v → vi_Fp p l e R s m args below meth c Q cc D A0 H0 i ci k v) ∧
  (∀ (i : Nat) (v : Int), (i, v) ∈ CT → (Jvm.Cond.constant own i (Int32.ofInt v)).before args s = true) ∧ (∀ (i : Nat) (v : Int), (i, v) ∈ C2 → ∃ x : Int64, (Jvm.Cond.constantLong own i x).before args s = true) ∧
  (∀ (d ti N : Nat) (els : List VA), KT[d]? = some (2, ti, N, els) → ∃ C, (tyL cy)[ti]? = some (cy ti, .object C)) ∧
  (∀ (i : Nat) (sta : Bool) (k : Nat) (cts : List VCt), (i, sta, k, cts) ∈ MT → ∀ ct ∈ cts, ct.1.length = k ∧ vi_Cr p l e R s m args below meth c Q cc KT nL D cy Z ad τ A0 H0 NC i sta ct) ∧
  (∀ pc ∈ XP, vi_Xr p l e R s m args below meth c Q KT nL D cy Z ad τ A0 H0 NC pc) ∧ vi_Rt p l e R s m args below meth c Q cc KT D cy Z ad τ A0 H0 NC av alts
theorem vi_exec_ok {J : List Nat} {pts : List (Nat × VS)} (hA : vi_All p l e R s m args below meth c Q own KT SG nL NC FT FP CT C2 XP MT cc D cy Z ad τ A0 H0 av alts) (hna : na = av.length) (hp : ∀ t ∈ pts, vi_W p l e R s m args below meth c Q KT nL (vi_al av) D cy Z ad τ A0 H0 t.1 t.2) :
    ∀ (f pc : Nat) (A : VS), vi_exec KT SG na nL NC FT FP CT C2 XP MT alts cc J pts f pc A = true → vi_W p l e R s m args below meth c Q KT nL (vi_al av) D cy Z ad τ A0 H0 pc A := by
  obtain ⟨hcat, hx, hb, hown, hK, hSG, hZp, hZa, hFg, hFp, hCT, hC2, hty, hM, hXP, hRt⟩ := hA
  have hal : ∀ q ∈ vi_al av, q.1 < na ∧ q.2.category = 1 := by
    intro q hq
    obtain ⟨j, h1, h2⟩ := List.mem_filterMap.mp hq
    cases hv : av[j]? with
    | none => rw [hv] at h2; cases h2
    | some v =>
      rw [hv] at h2
      cases h2
      exact ⟨by rw [hna]; exact (List.getElem?_eq_some_iff.mp hv).1, hcat v (List.mem_of_getElem? hv)⟩
  intro f
  induction f with
  | zero => intro pc A h; cases h
  | succ f ih =>
    intro pc A h
    obtain ⟨lo, st, fa, n⟩ := A
    unfold vi_exec at h
    cases hd : decode cc pc with
    | error x => rw [hd] at h; cases h
    | ok il =>
      obtain ⟨ins, len⟩ := il
      rw [hd] at h
      dsimp only at h
      by_cases c0 : XP.contains pc = true
      · rw [if_pos c0] at h
        simp only [Bool.and_eq_true, Nat.ble_eq] at h
        intro H locs ls vs w g
        exact hXP pc (by simpa using c0) H locs n w ls vs g.1 g.2.1 g.2.2.1 g.2.2.2.1 h.1 (by rw [← vi_stk_len g.2.2.2.2.2.2.1]; exact h.2) g.2.2.2.2.1.1
      · rw [if_neg c0] at h
        have hall : ∀ {L : List (Nat × VS)}, (L.all fun q => if J.contains q.1 then pts.any (fun t => (t.1 == q.1) && vi_sub q.2 t.2) else vi_exec KT SG na nL NC FT FP CT C2 XP MT alts cc J pts f q.1 q.2) = true → vi_K p l e R s m args below meth c Q KT nL (vi_al av) D cy Z ad τ A0 H0 L := by
          intro L hL q hq
          have h1 := List.all_eq_true.mp hL q hq
          by_cases c2 : J.contains q.1 = true
          · rw [if_pos c2] at h1
            obtain ⟨t, t1, t2⟩ := List.any_eq_true.mp h1
            simp only [Bool.and_eq_true, beq_iff_eq] at t2
            have h3 := hp t t1
            rw [t2.1] at h3
            exact vi_sub_ok t2.2 h3
          · rw [if_neg c2] at h1
            exact ih q.1 q.2 h1
        cases hi : vi_ins KT SG na nL FT FP CT C2 pc ins len lo st fa n with
        | some L =>
          rw [hi] at h
          dsimp only at h
          exact vi_ins_ok hZp hZa hal hx hb hown hK hSG hFg hFp hCT hC2 hty hd hi (hall h)
        | none =>
          rw [hi] at h
          dsimp only at h
          split at h
          · rename_i L hL
            split at hL
            · rename_i i
              by_cases c3 : len = 3
              · rw [if_pos c3] at hL
                subst c3
                exact vi_call_ok (sta := false) hal hx hb hM hd hL (hall h)
              · rw [if_neg c3] at hL; cases hL
            · rename_i i
              by_cases c3 : len = 3
              · rw [if_pos c3] at hL
                subst c3
                exact vi_call_ok (sta := true) hal hx hb hM hd hL (hall h)
              · rw [if_neg c3] at hL; cases hL
            · cases hL
          · simp only [Bool.and_eq_true, beq_iff_eq, Nat.ble_eq] at h
            obtain ⟨⟨rfl, h2⟩, h3⟩ := h
            exact vi_fin_ok hna hRt hd h2 h3
/-- all points, each by those behind it -/
def vi_pts (KT : List VK) (SG : List Nat) (na nL NC : Nat) (FT : List (Nat × Nat × Nat)) (FP : List (Nat × Nat × Nat × Nat)) (CT C2 : List (Nat × Int)) (XP : List Nat) (MT : List (Nat × Bool × Nat × List VCt)) (alts : List VAlt) (cc : ByteArray) (J : List Nat) (f : Nat) : List (Nat × VS) → Bool
  | [] => true
  | t :: r => vi_exec KT SG na nL NC FT FP CT C2 XP MT alts cc J r f t.1 t.2 && vi_pts KT SG na nL NC FT FP CT C2 XP MT alts cc J f r
theorem vi_pts_ok {J : List Nat} {f : Nat} (hA : vi_All p l e R s m args below meth c Q own KT SG nL NC FT FP CT C2 XP MT cc D cy Z ad τ A0 H0 av alts) (hna : na = av.length) : ∀ {pts : List (Nat × VS)}, vi_pts KT SG na nL NC FT FP CT C2 XP MT alts cc J f pts = true → ∀ t ∈ pts, vi_W p l e R s m args below meth c Q KT nL (vi_al av) D cy Z ad τ A0 H0 t.1 t.2
  | [], _, t, ht => by cases ht
  | t0 :: r, h, t, ht => by
    simp only [vi_pts, Bool.and_eq_true] at h
    have hr := vi_pts_ok hA hna h.2
    rcases List.mem_cons.mp ht with rfl | ht
    · exact vi_exec_ok hA hna hr f _ _ h.1
    · exact hr t ht
/-- the points of a, with those of b behind them -/
def vi_ptc (KT : List VK) (SG : List Nat) (na nL NC : Nat) (FT : List (Nat × Nat × Nat)) (FP : List (Nat × Nat × Nat × Nat)) (CT C2 : List (Nat × Int)) (XP : List Nat) (MT : List (Nat × Bool × Nat × List VCt)) (alts : List VAlt) (cc : ByteArray) (J : List Nat) (f : Nat) (b : List (Nat × VS)) : List (Nat × VS) → Bool
  | [] => true
  | t :: r => vi_exec KT SG na nL NC FT FP CT C2 XP MT alts cc J (r ++ b) f t.1 t.2 && vi_ptc KT SG na nL NC FT FP CT C2 XP MT alts cc J f b r
theorem vi_ptc_ok {J : List Nat} {f : Nat} {b : List (Nat × VS)} (hb : vi_pts KT SG na nL NC FT FP CT C2 XP MT alts cc J f b = true) : ∀ {a : List (Nat × VS)}, vi_ptc KT SG na nL NC FT FP CT C2 XP MT alts cc J f b a = true → vi_pts KT SG na nL NC FT FP CT C2 XP MT alts cc J f (a ++ b) = true
  | [], _ => hb
  | t :: r, h => by
    simp only [vi_ptc, Bool.and_eq_true] at h
    show (_ && _) = true
    rw [Bool.and_eq_true]
    exact ⟨h.1, vi_ptc_ok hb h.2⟩
end VIQ
