section VIO
variable {p : Program} {l : Launch} {e : Env} {R : Room} {s : State} {m : MethodId} {args : Array Value} {below : List Frame} {meth : Method} {c : Code} {Q : State → Prop} {cc : ByteArray} {own : String}
variable {KT : List VK} {SG : List Nat} {na nL : Nat} {al : List (Nat × Value)} {FT : List (Nat × Nat × Nat)} {FP : List (Nat × Nat × Nat × Nat)} {CT C2 : List (Nat × Int)} {D : va_G} {cy : Nat → ClassId} {Z : va_W → Prop} {ad τ : List Nat} {A0 : Nat → Prop} {H0 : Heap}
variable {lo : List VA} {st : List (VA × VO)} {fa : List VF} {n pc NC : Nat} {L : List (Nat × VS)} {ls : Array Slot} {w : va_W} {XP : List Nat} {MT : List (Nat × Bool × Nat × List VCt)} {alts : List VAlt}
/-- a call: the first contract that suits, all its ends -/
def vi_call (cc : ByteArray) (na nL NC : Nat) (MT : List (Nat × Bool × Nat × List VCt)) (pc i : Nat) (sta : Bool) (lo : List VA) (st : List (VA × VO)) (fa : List VF) (n : Nat) : Option (List (Nat × VS)) :=
  match vi_find MT i with
  | some (sta2, k, cts) => if sta = sta2 ∧ k ≤ st.length ∧ (st.drop k).length ≤ 4 then
      (match cts.find? (fun ct => vi_pre ct (st.take k).reverse fa) with
      | some ct => if n + ct.2.2.2.2 ≤ NC then ct.2.2.1.mapM (fun alt => vi_res cc na nL pc alt (vi_aft ct alt (st.take k).reverse (st.drop k) lo fa n)) else none
      | none => none) else none
  | none => none
/-- may the body end here? -/
def vi_fin (alts : List VAlt) (na : Nat) (ins : Instr) (lo : List VA) (st : List (VA × VO)) (fa : List VF) : Bool :=
  match ins, st with
  | .return_, [] => vi_end alts none na lo fa
  | .ireturn, [a] => (a.1.1 == 1) && vi_end alts (some a) na lo fa
  | .areturn, [a] => ((a.1.1 == 2) || (a.1.1 == 3)) && vi_end alts (some a) na lo fa
  | .lreturn, [a] => (a.1.1 == 4) && vi_end alts (some a) na lo fa
  | _, _ => false
def vi_exec (KT : List VK) (SG : List Nat) (na nL NC : Nat) (FT : List (Nat × Nat × Nat)) (FP : List (Nat × Nat × Nat × Nat)) (CT C2 : List (Nat × Int)) (XP : List Nat) (MT : List (Nat × Bool × Nat × List VCt)) (alts : List VAlt) (cc : ByteArray) (J : List Nat) (pts : List (Nat × VS)) : Nat → Nat → VS → Bool
  | 0, _, _ => false
  | f + 1, pc, A => match decode cc pc with
    | .error _ => false
    | .ok (ins, len) => if XP.contains pc then Nat.ble (A.2.2.2 + 1) NC && Nat.ble A.2.1.length 4 else
      match (match vi_ins KT SG na nL FT FP CT C2 pc ins len A.1 A.2.1 A.2.2.1 A.2.2.2 with
        | some L => some L
        | none => match ins with
          | .invokevirtual i => if len = 3 then vi_call cc na nL NC MT pc i false A.1 A.2.1 A.2.2.1 A.2.2.2 else none
          | .invokestatic i => if len = 3 then vi_call cc na nL NC MT pc i true A.1 A.2.1 A.2.2.1 A.2.2.2 else none
          | _ => none) with
      | some L => L.all fun q => if J.contains q.1 then pts.any (fun t => (t.1 == q.1) && vi_sub q.2 t.2) else vi_exec KT SG na nL NC FT FP CT C2 XP MT alts cc J pts f q.1 q.2
      | none => (len == 1) && Nat.ble A.2.2.2 NC && vi_fin alts na ins A.1 A.2.1 A.2.2.1
/-- the body's ends -/
def vi_Rt (p : Program) (l : Launch) (e : Env) (R : Room) (s : State) (m : MethodId) (args : Array Value) (below : List Frame) (meth : Method) (c : Code) (Q : State → Prop) (cc : ByteArray) (KT : List VK) (D : va_G) (cy : Nat → ClassId) (Z : va_W → Prop) (ad τ : List Nat) (A0 : Nat → Prop) (H0 : Heap) (NC : Nat) (av : List Value) (alts : List VAlt) : Prop :=
  ∀ (H : Heap) (locs : List Loc) (n pc : Nat) (w : va_W) (ls : Array Slot) (v : Option Value) (ins : Instr), va_P D vwCl w H → va_D A0 w → va_S A0 H0 H locs → vi_tw KT cy Z ad τ w → n ≤ NC → (∃ alt ∈ alts, vi_alt ad τ av w alt v) → decode cc pc = .ok (ins, 1) →
    ((ins = .return_ ∧ v = none) ∨ (ins = .ireturn ∧ ∃ x, v = some (.int x)) ∨ (ins = .areturn ∧ (v = some .null ∨ ∃ b, v = some (.ref b))) ∨ (ins = .lreturn ∧ ∃ x, v = some (.long x))) → W p l e R s m args below meth c H locs n (6 * n) Q (F0 m pc ls v.toList)
/-- the places where it throws -/
def vi_Xr (p : Program) (l : Launch) (e : Env) (R : Room) (s : State) (m : MethodId) (args : Array Value) (below : List Frame) (meth : Method) (c : Code) (Q : State → Prop) (KT : List VK) (nL : Nat) (D : va_G) (cy : Nat → ClassId) (Z : va_W → Prop) (ad τ : List Nat) (A0 : Nat → Prop) (H0 : Heap) (NC pc : Nat) : Prop :=
  ∀ (H : Heap) (locs : List Loc) (n : Nat) (w : va_W) (ls : Array Slot) (st : List Value), va_P D vwCl w H → va_D A0 w → va_S A0 H0 H locs → vi_tw KT cy Z ad τ w → n + 1 ≤ NC → st.length ≤ 4 → ls.size = nL → W p l e R s m args below meth c H locs n (6 * n) Q (F0 m pc ls st)
theorem vi_mapM_all {α β : Type} {f : α → Option β} : ∀ {l : List α} {r : List β}, l.mapM f = some r → ∀ a ∈ l, ∃ b ∈ r, f a = some b
  | [], r, _, a, ha => by cases ha
  | x :: l, r, h, a, ha => by
    rw [List.mapM_cons] at h
    cases hx : f x with
    | none => rw [hx] at h; cases h
    | some b =>
      rw [hx] at h
      cases hl : l.mapM f with
      | none => rw [hl] at h; cases h
      | some bs =>
        rw [hl] at h
        cases h
        rcases List.mem_cons.mp ha with rfl | ha
        · exact ⟨b, List.mem_cons_self, hx⟩
        · obtain ⟨b2, h1, h2⟩ := vi_mapM_all hl a ha
          exact ⟨b2, List.mem_cons_of_mem _ h1, h2⟩
theorem vi_call_ok (hal : ∀ q ∈ al, q.1 < na ∧ q.2.category = 1) (hx : p.tables.exec = Jvm.exec) (hb : c.code = cc) (hM : ∀ (i : Nat) (sta : Bool) (k : Nat) (cts : List VCt), (i, sta, k, cts) ∈ MT → ∀ ct ∈ cts, ct.1.length = k ∧ vi_Cr p l e R s m args below meth c Q cc KT nL D cy Z ad τ A0 H0 NC i sta ct)
    {i : Nat} {sta : Bool} (hd : decode cc pc = .ok (if sta = true then .invokestatic i else .invokevirtual i, 3)) (h : vi_call cc na nL NC MT pc i sta lo st fa n = some L) (k : vi_K p l e R s m args below meth c Q KT nL al D cy Z ad τ A0 H0 L) : vi_W p l e R s m args below meth c Q KT nL al D cy Z ad τ A0 H0 pc (lo, st, fa, n) := by
  unfold vi_call at h
  cases hf : vi_find MT i with
  | none => rw [hf] at h; cases h
  | some x =>
    obtain ⟨sta2, kk, cts⟩ := x
    rw [hf] at h
    dsimp only at h
    by_cases c1 : sta = sta2 ∧ kk ≤ st.length ∧ (st.drop kk).length ≤ 4
    · rw [if_pos c1] at h
      obtain ⟨rfl, c2, c3⟩ := c1
      cases hc : cts.find? (fun ct => vi_pre ct (st.take kk).reverse fa) with
      | none => rw [hc] at h; cases h
      | some ct =>
        rw [hc] at h
        dsimp only at h
        by_cases c4 : n + ct.2.2.2.2 ≤ NC
        · rw [if_pos c4] at h
          have hpre := List.find?_some hc
          obtain ⟨hlen, hrow⟩ := hM i sta kk cts (vi_find_mem hf) ct (List.mem_of_find?_eq_some hc)
          intro H locs ls vs w g
          have g0 := g.2.2.2.2.2.2.1
          rw [show (lo, st, fa, n).2.1 = st.take kk ++ st.drop kk from (List.take_append_drop kk st).symm] at g0
          obtain ⟨v1, v2, rfl, s1, s2⟩ := vi_stk_app g0
          have l1 := vi_stk_len s1
          have l2 := vi_stk_len s2
          have g2 : vi_G KT D cy Z ad τ nL al A0 H0 (lo, st.drop kk, fa, n) H locs ls v2 w := ⟨g.1, g.2.1, g.2.2.1, g.2.2.2.1, g.2.2.2.2.1, g.2.2.2.2.2.1, s2, g.2.2.2.2.2.2.2⟩
          have hat : ∀ (j : Nat) (q : VA × VO) (x : Value), (st.take kk).reverse[j]? = some q → v1.reverse[j]? = some x → vi_ok ad τ q.1 x ∧ vi_path τ ls w q.2 x := by
            intro j q x hq hx
            have hj : j < (st.take kk).length := by
              have := (List.getElem?_eq_some_iff.mp hq).1
              simpa using this
            rw [List.getElem?_reverse hj] at hq
            rw [List.getElem?_reverse (by omega), ← l1] at hx
            exact vi_stk_at s1 _ q x hq hx
          have hll : (st.take kk).reverse.length = v1.reverse.length := by simp [l1]
          simp only [vi_pre, Bool.and_eq_true] at hpre
          obtain ⟨a1, a2⟩ := vi_all2_ok hpre.1
          have hpath : ∀ (j : Nat) (q : VA × VO) (x : Value), (st.take kk).reverse[j]? = some q → v1.reverse[j]? = some x → vi_path τ ls w q.2 x := fun j q x h1 h2 => (hat j q x h1 h2).2
          have hrow2 := hrow H locs n pc w ls v1.reverse v2 g.2.2.2.2.1.1 g.1 g.2.1 g.2.2.1 g.2.2.2.1 (by rw [← hll]; exact a1.symm) (fun j a x ha hx => by
            have hj : j < (st.take kk).reverse.length := by rw [hll]; exact (List.getElem?_eq_some_iff.mp hx).1
            have hq : (st.take kk).reverse[j]? = some (st.take kk).reverse[j] := List.getElem?_eq_getElem hj
            exact vi_le_ok (a2 j a _ ha hq) (hat j _ x hq hx).1) (fun f hf => by
            obtain ⟨z0, y, z1, z2⟩ := vi_has_ok (List.all_eq_true.mp hpre.2 f hf) g.2.2.2.2.2.2.2
            exact ⟨y, vi_tr_of hpath hll z0 z1, z2⟩) (by rw [← l2]; exact c3) c4 hd (fun alt halt H1 locs1 w1 v p1 p2 p3 p4 hk ha => by
            obtain ⟨q, hq1, hq2⟩ := vi_mapM_all h alt halt
            have ga := vi_aft_ok (ct := ct) g2 hpath hll p1 p2 p3 p4 hk ha
            have hn : (vi_aft ct alt (st.take kk).reverse (st.drop kk) lo fa n).2.2.2 = n + ct.2.2.2.2 := vi_ra_n
            have := vi_res_ok hal hx hb hq2 ga ha (k q hq1)
            rw [hn] at this
            exact this)
          rw [List.reverse_reverse] at hrow2
          exact hrow2
        · rw [if_neg c4] at h; cases h
    · rw [if_neg c1] at h; cases h
end VIO
