section VIE
variable {p : Program} {l : Launch} {e : Env} {R : Room} {s : State} {m : MethodId} {args : Array Value} {below : List Frame} {meth : Method} {c : Code} {Q : State → Prop} {cc : ByteArray} {own : String}
variable {KT : List VK} {SG : List Nat} {na nL : Nat} {al : List (Nat × Value)} {FT : List (Nat × Nat × Nat)} {FP : List (Nat × Nat × Nat × Nat)} {CT C2 : List (Nat × Int)} {D : va_G} {cy : Nat → ClassId} {Z : va_W → Prop} {ad τ : List Nat} {A0 : Nat → Prop} {H0 : Heap}
/-- a walk from pc, in every state that A says -/
def vi_W (p : Program) (l : Launch) (e : Env) (R : Room) (s : State) (m : MethodId) (args : Array Value) (below : List Frame) (meth : Method) (c : Code) (Q : State → Prop) (KT : List VK) (nL : Nat) (al : List (Nat × Value)) (D : va_G) (cy : Nat → ClassId) (Z : va_W → Prop) (ad τ : List Nat) (A0 : Nat → Prop) (H0 : Heap) (pc : Nat) (A : VS) : Prop :=
  ∀ (H : Heap) (locs : List Loc) (ls : Array Slot) (st : List Value) (w : va_W), vi_G KT D cy Z ad τ nL al A0 H0 A H locs ls st w → W p l e R s m args below meth c H locs A.2.2.2 (6 * A.2.2.2) Q (F0 m pc ls st)
def vi_Fg (p : Program) (l : Launch) (e : Env) (R : Room) (s : State) (m : MethodId) (args : Array Value) (below : List Frame) (meth : Method) (c : Code) (Q : State → Prop) (cc : ByteArray) (D : va_G) (i ci k : Nat) : Prop :=
  ∀ (H : Heap) (locs : List Loc) (cells slots : Nat) (w : va_W) (q0 a pc : Nat) (fs rest : List Value) (v : Value) (ls : Array Slot), va_P D vwCl w H → w[q0]? = some (a, .inr (ci, fs)) → fs[k]? = some v → decode cc pc = .ok (.getfield i, 3) →
    W p l e R s m args below meth c H locs cells slots Q (F0 m (pc + 3) ls (v :: rest)) → W p l e R s m args below meth c H locs cells slots Q (F0 m pc ls (.ref a :: rest))
def vi_Fp (p : Program) (l : Launch) (e : Env) (R : Room) (s : State) (m : MethodId) (args : Array Value) (below : List Frame) (meth : Method) (c : Code) (Q : State → Prop) (cc : ByteArray) (D : va_G) (A0 : Nat → Prop) (H0 : Heap) (i ci k : Nat) (v : Value) : Prop :=
  ∀ (H : Heap) (locs : List Loc) (cells slots : Nat) (w : va_W) (q0 a pc : Nat) (fs rest : List Value) (ls : Array Slot), va_P D vwCl w H → va_D A0 w → va_S A0 H0 H locs → w[q0]? = some (a, .inr (ci, fs)) → k < fs.length → decode cc pc = .ok (.putfield i, 3) →
    (∀ (H1 : Heap) (locs1 : List Loc), va_P D vwCl (w.set q0 (a, .inr (ci, fs.set k v))) H1 → va_D A0 (w.set q0 (a, .inr (ci, fs.set k v))) → va_S A0 H0 H1 locs1 → W p l e R s m args below meth c H1 locs1 cells slots Q (F0 m (pc + 3) ls rest)) → W p l e R s m args below meth c H locs cells slots Q (F0 m pc ls (v :: .ref a :: rest))
/-- what is behind a better known value -/
theorem vi_G_upd {lo : List VA} {st : List (VA × VO)} {fa : List VF} {n : Nat} {H : Heap} {locs : List Loc} {ls : Array Slot} {vs : List Value} {w : va_W} (h : vi_G KT D cy Z ad τ nL al A0 H0 (lo, st, fa, n) H locs ls vs w) {o : VO} {a : VA} {v : Value} (hp : vi_path τ ls w o v) (ha : vi_ok ad τ a v) : vi_G KT D cy Z ad τ nL al A0 H0 (vi_upd o a lo st fa n) H locs ls vs w := by
  obtain ⟨g1, g2, g3, g4, g5, g6, g7, g8⟩ := h
  unfold vi_upd
  by_cases c1 : o.1 = 1
  · rw [if_pos c1]
    refine ⟨g1, g2, g3, g4, g5, fun i b hi hb => ?_, g7, g8⟩
    by_cases hj : i = o.2.1
    · subst hj
      have hlt : o.2.1 < lo.length := by
        have := (List.getElem?_eq_some_iff.mp hi).1
        simpa using this
      rw [show (lo.set o.2.1 a, st, fa, n).1 = lo.set o.2.1 a from rfl, List.getElem?_set_self hlt] at hi
      cases hi
      obtain ⟨t, j, ci, k⟩ := o
      have c1 : t = 1 := c1
      subst c1
      exact ⟨v, hp, ha⟩
    · rw [show (lo.set o.2.1 a, st, fa, n).1 = lo.set o.2.1 a from rfl, List.getElem?_set_ne (Ne.symm hj)] at hi
      exact g6 i b hi hb
  · rw [if_neg c1]
    by_cases c2 : o.1 = 2 ∨ o.1 = 3
    · rw [if_pos c2]
      refine ⟨g1, g2, g3, g4, g5, g6, g7, fun f hf => ?_⟩
      rcases List.mem_cons.mp hf with rfl | hf
      · exact ⟨v, hp, ha⟩
      · exact g8 f (List.mem_filter.mp hf).1
    · rw [if_neg c2]
      exact ⟨g1, g2, g3, g4, g5, g6, g7, g8⟩
theorem vi_upd_n {o : VO} {a : VA} {lo : List VA} {st : List (VA × VO)} {fa : List VF} {n : Nat} : (vi_upd o a lo st fa n).2.2.2 = n := by
  unfold vi_upd
  split
  · rfl
  · split <;> rfl
theorem vi_upd_eta {o : VO} {a : VA} {A : VS} : vi_upd o a A.1 A.2.1 A.2.2.1 A.2.2.2 = vi_upd o a A.1 A.2.1 A.2.2.1 A.2.2.2 := rfl
/-- a comparison's roads -/
theorem vi_br_ok {cd : ClassFile.Cond} {a b : VA} {oa ob : VO} {t f : Nat} {lo : List VA} {st : List (VA × VO)} {fa : List VF} {n : Nat} {H : Heap} {locs : List Loc} {ls : Array Slot} {vs : List Value} {w : va_W} {x y : Int32}
    (h : vi_G KT D cy Z ad τ nL al A0 H0 (lo, st, fa, n) H locs ls vs w) (ha1 : a.1 = 1) (hb1 : b.1 = 1) (ha : vi_ok ad τ a (.int x)) (hb : vi_ok ad τ b (.int y)) (pa : vi_path τ ls w oa (.int x)) (pb : vi_path τ ls w ob (.int y))
    (k : ∀ q ∈ vi_br cd a b oa ob t f lo st fa n, vi_W p l e R s m args below meth c Q KT nL al D cy Z ad τ A0 H0 q.1 q.2) :
    (vi_says cd x.toInt y.toInt → W p l e R s m args below meth c H locs n (6 * n) Q (F0 m t ls vs)) ∧ (vi_says (vi_neg cd) x.toInt y.toInt → W p l e R s m args below meth c H locs n (6 * n) Q (F0 m f ls vs)) := by
  obtain ⟨ta, la, ua⟩ := a
  obtain ⟨tb, lb, ub⟩ := b
  have ha1 : ta = 1 := ha1
  have hb1 : tb = 1 := hb1
  subst ha1; subst hb1
  obtain ⟨x', ex, x1, x2⟩ := ha
  obtain ⟨y', ey, y1, y2⟩ := hb
  cases ex; cases ey
  have key : ∀ (cd : ClassFile.Cond) (t : Nat), vi_says cd x.toInt y.toInt →
      (∀ q ∈ (if (vi_cmp cd (1, la, ua) (1, lb, ub)).1.2.1 ≤ (vi_cmp cd (1, la, ua) (1, lb, ub)).1.2.2 ∧ (vi_cmp cd (1, la, ua) (1, lb, ub)).2.2.1 ≤ (vi_cmp cd (1, la, ua) (1, lb, ub)).2.2.2 then
        [(t, vi_upd ob (vi_cmp cd (1, la, ua) (1, lb, ub)).2 (vi_upd oa (vi_cmp cd (1, la, ua) (1, lb, ub)).1 lo st fa n).1 (vi_upd oa (vi_cmp cd (1, la, ua) (1, lb, ub)).1 lo st fa n).2.1 (vi_upd oa (vi_cmp cd (1, la, ua) (1, lb, ub)).1 lo st fa n).2.2.1 (vi_upd oa (vi_cmp cd (1, la, ua) (1, lb, ub)).1 lo st fa n).2.2.2)] else []), vi_W p l e R s m args below meth c Q KT nL al D cy Z ad τ A0 H0 q.1 q.2) →
      W p l e R s m args below meth c H locs n (6 * n) Q (F0 m t ls vs) := by
    intro cd t hs hk
    obtain ⟨k1, k2⟩ := vi_cmp_ok (ad := ad) (τ := τ) hs x1 x2 y1 y2
    have tag : (vi_cmp cd (1, la, ua) (1, lb, ub)).1.1 = 1 ∧ (vi_cmp cd (1, la, ua) (1, lb, ub)).2.1 = 1 := by cases cd <;> exact ⟨rfl, rfl⟩
    generalize vi_cmp cd (1, la, ua) (1, lb, ub) = r at hk k1 k2 tag
    obtain ⟨⟨r1, r2, r3⟩, ⟨r4, r5, r6⟩⟩ := r
    obtain ⟨e1, e2⟩ := tag
    have e1 : r1 = 1 := e1
    have e2 : r4 = 1 := e2
    subst e1; subst e2
    have g1 := vi_G_upd h pa k1
    have g2 := vi_G_upd (lo := (vi_upd oa (1, r2, r3) lo st fa n).1) (st := (vi_upd oa (1, r2, r3) lo st fa n).2.1) (fa := (vi_upd oa (1, r2, r3) lo st fa n).2.2.1) (n := (vi_upd oa (1, r2, r3) lo st fa n).2.2.2) g1 pb k2
    obtain ⟨z1, f1, b1, b2⟩ := k1
    cases f1
    obtain ⟨z2, f2, b3, b4⟩ := k2
    cases f2
    rw [if_pos ⟨Int.le_trans b1 b2, Int.le_trans b3 b4⟩] at hk
    have := hk _ (List.mem_singleton.mpr rfl) H locs ls vs w g2
    simp only [vi_upd_n] at this
    exact this
  unfold vi_br at k
  exact ⟨fun hs => key cd t hs (fun q hq => k q (List.mem_append_left _ hq)), fun hs => key (vi_neg cd) f hs (fun q hq => k q (List.mem_append_right _ hq))⟩
theorem vi_says_neg {cd : ClassFile.Cond} {x y : Int} (h : ¬ vi_says cd x y) : vi_says (vi_neg cd) x y := by
  cases cd <;> simp only [vi_says, vi_neg] at h ⊢ <;> omega
end VIE
