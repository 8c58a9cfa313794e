section VIM
variable {p : Program} {l : Launch} {e : Env} {R : Room} {s : State} {m : MethodId} {args : Array Value} {below : List Frame} {meth : Method} {c : Code} {Q : State → Prop} {cc : ByteArray} {own : String}
variable {KT : List VK} {SG : List Nat} {na nL : Nat} {al : List (Nat × Value)} {FT : List (Nat × Nat × Nat)} {FP : List (Nat × Nat × Nat × Nat)} {CT C2 : List (Nat × Int)} {D : va_G} {cy : Nat → ClassId} {Z : va_W → Prop} {ad τ : List Nat} {A0 : Nat → Prop} {H0 : Heap}
variable {lo : List VA} {st : List (VA × VO)} {fa : List VF} {n pc : Nat} {L : List (Nat × VS)} {ls : Array Slot} {w : va_W}
theorem vi_has_ok {o : VO} {a : VA} (h : vi_has fa o a = true) (hf : ∀ f ∈ fa, vi_fact ad τ ls w f) : o.1 ≠ 0 ∧ vi_fact ad τ ls w (o, a) := by
  simp only [vi_has, Bool.and_eq_true, Bool.not_eq_true', beq_eq_false_iff_ne, List.any_eq_true, beq_iff_eq] at h
  obtain ⟨h0, g, hg, e1, e2⟩ := h
  obtain ⟨v, p1, p2⟩ := hf g hg
  exact ⟨h0, v, e1 ▸ p1, vi_le_ok e2 p2⟩
theorem vi_all2_ok : ∀ {as : List VA} {bs : List (VA × VO)}, vi_all2 as bs = true → as.length = bs.length ∧ ∀ (j : Nat) (a : VA) (b : VA × VO), as[j]? = some a → bs[j]? = some b → vi_le b.1 a = true
  | [], [], _ => ⟨rfl, fun j a b h => by cases h⟩
  | a :: as, b :: bs, h => by
    simp only [vi_all2, Bool.and_eq_true] at h
    obtain ⟨h1, h2⟩ := vi_all2_ok h.2
    refine ⟨by simp [h1], fun j x y hx hy => ?_⟩
    cases j with
    | zero => cases hx; cases hy; exact h.1
    | succ j => exact h2 j x y hx hy
  | [], _ :: _, h => by cases h
  | _ :: _, [], h => by cases h
theorem vi_stk_le : ∀ {as bs : List (VA × VO)} {vs : List Value}, as.length = bs.length → ((as.zip bs).all fun q => vi_le q.1.1 q.2.1 && ((q.2.2.1 == 0) || (q.2.2 == q.1.2))) = true → vi_stk ad τ ls w as vs → vi_stk ad τ ls w bs vs
  | [], [], _, _, _, h => h
  | a :: as, b :: bs, [], _, _, h => h.elim
  | a :: as, b :: bs, v :: vs, hl, h, ⟨h1, h2, h3⟩ => by
    simp only [List.zip_cons_cons, List.all_cons, Bool.and_eq_true, Bool.or_eq_true, beq_iff_eq] at h
    refine ⟨vi_le_ok h.1.1 h1, ?_, vi_stk_le (by simpa using hl) (by simpa using h.2) h3⟩
    rcases h.1.2 with e | e
    · obtain ⟨b1, t, x⟩ := b
      have e : t = 0 := e
      subst e
      exact trivial
    · rw [e]; exact h2
  | [], _ :: _, _, hl, _, _ => by cases hl
  | _ :: _, [], _, hl, _, _ => by cases hl
theorem vi_sub_ok {A B : VS} (h : vi_sub A B = true) (k : vi_W p l e R s m args below meth c Q KT nL al D cy Z ad τ A0 H0 pc B) : vi_W p l e R s m args below meth c Q KT nL al D cy Z ad τ A0 H0 pc A := by
  simp only [vi_sub, Bool.and_eq_true, beq_iff_eq] at h
  obtain ⟨⟨⟨⟨⟨h1, h2⟩, h3⟩, h4⟩, h5⟩, h6⟩ := h
  intro H locs ls vs w g
  rw [h1]
  refine k H locs ls vs w ⟨g.1, g.2.1, g.2.2.1, g.2.2.2.1, g.2.2.2.2.1, fun i b hb h0 => ?_, vi_stk_le h4 h5 g.2.2.2.2.2.2.1, fun f hf => ?_⟩
  · have hi : i < A.1.length := by rw [h2]; exact (List.getElem?_eq_some_iff.mp hb).1
    have ha : A.1[i]? = some A.1[i] := List.getElem?_eq_getElem hi
    have hle := (vi_all2_ok h3).2 i b (A.1[i], vi_o0) hb (by rw [List.getElem?_map, ha]; rfl)
    have ha0 : (A.1[i]).1 ≠ 0 := fun z => by
      have : vi_le A.1[i] b = true := hle
      obtain ⟨t, x, y⟩ := b
      generalize A.1[i] = q at this z
      obtain ⟨t2, x2, y2⟩ := q
      have z : t2 = 0 := z
      subst z
      simp only [vi_le, Bool.or_eq_true, Bool.and_eq_true, beq_iff_eq, Nat.ble_eq] at this
      have h0 : ¬ t = 0 := h0
      omega
    obtain ⟨v, e1, e2⟩ := g.2.2.2.2.2.1 i _ ha ha0
    exact ⟨v, e1, vi_le_ok hle e2⟩
  · exact (vi_has_ok (List.all_eq_true.mp h6 f hf) g.2.2.2.2.2.2.2).2
theorem vi_stk_app : ∀ {as bs : List (VA × VO)} {vs : List Value}, vi_stk ad τ ls w (as ++ bs) vs → ∃ v1 v2, vs = v1 ++ v2 ∧ vi_stk ad τ ls w as v1 ∧ vi_stk ad τ ls w bs v2
  | [], bs, vs, h => ⟨[], vs, rfl, trivial, h⟩
  | a :: as, bs, [], h => h.elim
  | a :: as, bs, v :: vs, ⟨h1, h2, h3⟩ => by
    obtain ⟨v1, v2, rfl, q1, q2⟩ := vi_stk_app h3
    exact ⟨v :: v1, v2, rfl, ⟨h1, h2, q1⟩, q2⟩
theorem vi_stk_len : ∀ {as : List (VA × VO)} {vs : List Value}, vi_stk ad τ ls w as vs → as.length = vs.length
  | [], [], _ => rfl
  | _ :: _, _ :: _, ⟨_, _, h⟩ => by simp [vi_stk_len h]
  | [], _ :: _, h => h.elim
  | _ :: _, [], h => h.elim
theorem vi_stk_at : ∀ {as : List (VA × VO)} {vs : List Value}, vi_stk ad τ ls w as vs → ∀ (j : Nat) (a : VA × VO) (v : Value), as[j]? = some a → vs[j]? = some v → vi_ok ad τ a.1 v ∧ vi_path τ ls w a.2 v
  | [], [], _, j, a, v, h, _ => by cases h
  | a :: as, v :: vs, ⟨h1, h2, h3⟩, j, b, x, hb, hx => by
    cases j with
    | zero => cases hb; cases hx; exact ⟨h1, h2⟩
    | succ j => exact vi_stk_at h3 j b x hb hx
  | [], _ :: _, h, _, _, _, _, _ => h.elim
  | _ :: _, [], h, _, _, _, _, _ => h.elim
theorem vi_av_at {av : List Value} {j : Nat} {v : Value} : (vi_av av)[j]? = some (.val v) ↔ av[j]? = some v := by
  unfold vi_av
  rw [List.getElem?_toArray, List.getElem?_map]
  cases av[j]? with
  | none => simp
  | some x => simp
/-- the caller's words and the callee's -/
theorem vi_tr_of {as : List (VA × VO)} {av : List Value} (h : ∀ (j : Nat) (a : VA × VO) (v : Value), as[j]? = some a → av[j]? = some v → vi_path τ ls w a.2 v) (hl : as.length = av.length) {o : VO} {x : Value} (h0 : (vi_tr as o).1 ≠ 0) (hp : vi_path τ ls w (vi_tr as o) x) : vi_path τ (vi_av av) w o x := by
  obtain ⟨t, j, ci, k⟩ := o
  unfold vi_tr at h0 hp
  by_cases c1 : t = 3
  · subst c1
    exact hp
  · rw [if_neg c1] at h0 hp
    by_cases c2 : t = 2
    · subst c2
      rw [if_pos rfl] at h0 hp
      cases hj : as[j]? with
      | none => simp only [hj] at h0; exact absurd rfl h0
      | some q =>
        simp only [hj] at h0 hp
        by_cases c3 : q.2.1 = 1
        · rw [if_pos c3] at hp
          obtain ⟨qq, a, vs, e1, e2, e3⟩ := hp
          have hjl : j < av.length := by rw [← hl]; exact (List.getElem?_eq_some_iff.mp hj).1
          have hv : av[j]? = some av[j] := List.getElem?_eq_getElem hjl
          have hq := h j q _ hj hv
          obtain ⟨q1, t, i, x1, x2⟩ := q
          have c3 : t = 1 := c3
          subst c3
          have e := e1.symm.trans hq
          have e4 : av[j] = .ref a := by
            have e5 := Option.some.inj e
            injection e5 with e6
            exact e6.symm
          exact ⟨qq, a, vs, vi_av_at.mpr (by rw [hv, e4]), e2, e3⟩
        · rw [if_neg c3] at h0; exact absurd rfl h0
    · rw [if_neg c2] at h0; exact absurd rfl h0
theorem vi_tr_to {as : List (VA × VO)} {av : List Value} (h : ∀ (j : Nat) (a : VA × VO) (v : Value), as[j]? = some a → av[j]? = some v → a.2.1 = 1 → vi_path τ ls w a.2 v) {o : VO} {x : Value} (hp : vi_path τ (vi_av av) w o x) : vi_path τ ls w (vi_tr as o) x := by
  obtain ⟨t, j, ci, k⟩ := o
  unfold vi_tr
  by_cases c1 : t = 3
  · subst c1
    exact hp
  · rw [if_neg c1]
    by_cases c2 : t = 2
    · subst c2
      rw [if_pos rfl]
      cases hj : as[j]? with
      | none => simp only [hj]; exact trivial
      | some q =>
        simp only [hj]
        by_cases c3 : q.2.1 = 1
        · rw [if_pos c3]
          obtain ⟨qq, a, vs, e1, e2, e3⟩ := hp
          have hq := h j q _ hj (vi_av_at.mp e1) c3
          obtain ⟨q1, t, i, x1, x2⟩ := q
          have c3 : t = 1 := c3
          subst c3
          exact ⟨qq, a, vs, hq, e2, e3⟩
        · rw [if_neg c3]; exact trivial
    · rw [if_neg c2]; exact trivial
end VIM
