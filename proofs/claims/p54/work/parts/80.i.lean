section VII
variable {p : Program} {l : Launch} {e : Env} {R : Room} {s : State} {m : MethodId} {args : Array Value} {below : List Frame} {meth : Method} {c : Code} {Q : State → Prop} {cc : ByteArray} {own : String}
variable {KT : List VK} {SG : List Nat} {na nL : Nat} {al : List (Nat × Value)} {FT : List (Nat × Nat × Nat)} {FP : List (Nat × Nat × Nat × Nat)} {CT C2 : List (Nat × Int)} {D : va_G} {cy : Nat → ClassId} {Z : va_W → Prop} {ad τ : List Nat} {A0 : Nat → Prop} {H0 : Heap}
variable {lo : List VA} {st : List (VA × VO)} {fa : List VF} {n pc : Nat} {L : List (Nat × VS)} {ls : Array Slot} {w : va_W}
theorem vi_idx {i : Int32} {lo hi : Int} {N : Nat} (h0 : 0 ≤ lo) (h1 : lo ≤ i.toInt) (h2 : i.toInt ≤ hi) (h3 : hi < N) (hN : N < 2147483648) : vp_in i N ∧ i.toNatClampNeg < N := by
  obtain ⟨j, hj, e1, e2⟩ := vi_ofNat (x := i) (by omega)
  have hlt : j < N := by omega
  rw [e1]
  exact ⟨vp_in_nI hlt (by omega), by rw [nI_clamp hj]; exact hlt⟩
theorem vr_iald (hx : p.tables.exec = Jvm.exec) (hb : c.code = cc) (hK : va_K D vwCl (tyL cy) s) (hd : decode cc pc = .ok (.iaload, 1)) {a b : VA} {oa ob : VO} {N : Nat} {el : VA} (h1 : a.1 = 3) (h0 : a.2.2 = 0) (h2 : b.1 = 1) (h3 : 0 ≤ b.2.1) (hk : KT[a.2.1.toNat]? = some (1, 0, N, [el])) (h4 : b.2.2 < N) (hN : N < 2147483648)
    (k : vi_W p l e R s m args below meth c Q KT nL al D cy Z ad τ A0 H0 (pc + 1) (lo, (el, vi_o0) :: st, fa, n)) : vi_W p l e R s m args below meth c Q KT nL al D cy Z ad τ A0 H0 pc (lo, (b, ob) :: (a, oa) :: st, fa, n) := by
  intro H locs ls vs w g
  obtain ⟨v, vs1, rfl, e1, e2, e3⟩ := vi_stk_c g.2.2.2.2.2.2.1
  obtain ⟨v2, vs2, rfl, d1, d2, d3⟩ := vi_stk_c e3
  have g2 := vi_G_pop (vi_G_pop g)
  obtain ⟨q, ab, ee, kd, rfl, f1, f2, f3, f4⟩ := vi_obj h1 h0 d1 g.2.2.2.1
  cases hk.symm.trans f3
  obtain ⟨f, rfl, l2⟩ := f4
  obtain ⟨x, rfl, x1, x2⟩ := vi_i h2 e1
  obtain ⟨i1, i2⟩ := vi_idx h3 x1 x2 h4 hN
  obtain ⟨t1, l3⟩ := l2 el rfl
  obtain ⟨te, u, z⟩ := el
  have t1 : te = 1 := t1
  subst t1
  have hj := l3 _ i2
  exact va_iald hx hb hK g.1 q 0 f2 rfl i1 hd (k H locs ls _ w (vi_G_push g2 (vi_ok_int hj.1 hj.2) trivial))
theorem vr_cald (hx : p.tables.exec = Jvm.exec) (hb : c.code = cc) (hK : va_K D vwCl (tyL cy) s) (hd : decode cc pc = .ok (.caload, 1)) {a b : VA} {oa ob : VO} {N : Nat} {el : VA} (h1 : a.1 = 3) (h0 : a.2.2 = 0) (h2 : b.1 = 1) (h3 : 0 ≤ b.2.1) (hk : KT[a.2.1.toNat]? = some (1, 1, N, [el])) (h4 : b.2.2 < N) (hN : N < 2147483648)
    (k : vi_W p l e R s m args below meth c Q KT nL al D cy Z ad τ A0 H0 (pc + 1) (lo, (el, vi_o0) :: st, fa, n)) : vi_W p l e R s m args below meth c Q KT nL al D cy Z ad τ A0 H0 pc (lo, (b, ob) :: (a, oa) :: st, fa, n) := by
  intro H locs ls vs w g
  obtain ⟨v, vs1, rfl, e1, e2, e3⟩ := vi_stk_c g.2.2.2.2.2.2.1
  obtain ⟨v2, vs2, rfl, d1, d2, d3⟩ := vi_stk_c e3
  have g2 := vi_G_pop (vi_G_pop g)
  obtain ⟨q, ab, ee, kd, rfl, f1, f2, f3, f4⟩ := vi_obj h1 h0 d1 g.2.2.2.1
  cases hk.symm.trans f3
  obtain ⟨f, rfl, l2⟩ := f4
  obtain ⟨x, rfl, x1, x2⟩ := vi_i h2 e1
  obtain ⟨i1, i2⟩ := vi_idx h3 x1 x2 h4 hN
  obtain ⟨t1, l3⟩ := l2 el rfl
  obtain ⟨te, u, z⟩ := el
  have t1 : te = 1 := t1
  subst t1
  have hj := l3 _ i2
  exact va_cald hx hb hK g.1 q 1 f2 rfl i1 hd (k H locs ls _ w (vi_G_push g2 (vi_ok_int hj.1 hj.2) trivial))
theorem vr_aald (hx : p.tables.exec = Jvm.exec) (hb : c.code = cc) (hK : va_K D vwCl (tyL cy) s) (hd : decode cc pc = .ok (.aaload, 1)) {a b : VA} {oa ob : VO} {N ti : Nat} {el : VA} (hty : ∃ C, (tyL cy)[ti]? = some (cy ti, .object C)) (h1 : a.1 = 3) (h0 : a.2.2 = 0) (h2 : b.1 = 1) (h3 : 0 ≤ b.2.1) (hk : KT[a.2.1.toNat]? = some (2, ti, N, [el])) (h4 : b.2.2 < N) (hN : N < 2147483648)
    (k : vi_W p l e R s m args below meth c Q KT nL al D cy Z ad τ A0 H0 (pc + 1) (lo, (el, vi_o0) :: st, fa, n)) : vi_W p l e R s m args below meth c Q KT nL al D cy Z ad τ A0 H0 pc (lo, (b, ob) :: (a, oa) :: st, fa, n) := by
  intro H locs ls vs w g
  obtain ⟨v, vs1, rfl, e1, e2, e3⟩ := vi_stk_c g.2.2.2.2.2.2.1
  obtain ⟨v2, vs2, rfl, d1, d2, d3⟩ := vi_stk_c e3
  have g2 := vi_G_pop (vi_G_pop g)
  obtain ⟨q, ab, ee, kd, rfl, f1, f2, f3, f4⟩ := vi_obj h1 h0 d1 g.2.2.2.1
  cases hk.symm.trans f3
  obtain ⟨f, rfl, l2⟩ := f4
  obtain ⟨x, rfl, x1, x2⟩ := vi_i h2 e1
  obtain ⟨i1, i2⟩ := vi_idx h3 x1 x2 h4 hN
  obtain ⟨C, hC⟩ := hty
  exact va_aldq hx hb hK g.1 q ti f2 hC i1 hd (k H locs ls _ w (vi_G_push g2 (l2 el rfl _ i2) trivial))
theorem vi_stk_id {ls2 : Array Slot} {w2 : va_W} (hp : ∀ (o : VO) (x : Value), vi_path τ ls w o x → vi_path τ ls2 w2 o x) : ∀ {st : List (VA × VO)} {vs : List Value}, vi_stk ad τ ls w st vs → vi_stk ad τ ls2 w2 st vs
  | [], [], _ => trivial
  | _ :: _, _ :: _, ⟨h1, h2, h3⟩ => ⟨h1, hp _ _ h2, vi_stk_id hp h3⟩
theorem vi_arr_set {f : Nat → Int32} {N : Nat} {u z : Int} {i : Nat} {x : Int32} (h : ∀ j : Nat, j < N → u ≤ (f j).toInt ∧ (f j).toInt ≤ z) (h1 : u ≤ x.toInt) (h2 : x.toInt ≤ z) : ∀ j : Nat, j < N → u ≤ ((upd f i x) j).toInt ∧ ((upd f i x) j).toInt ≤ z := by
  intro j hj
  by_cases e : j = i
  · subst e
    rw [pk_us]
    exact ⟨h1, h2⟩
  · rw [pk_un e]
    exact h j hj
theorem vr_iast (hZa : vi_Za FP τ Z) (hx : p.tables.exec = Jvm.exec) (hb : c.code = cc) (hK : va_K D vwCl (tyL cy) s) (hd : decode cc pc = .ok (.iastore, 1)) {a b y : VA} {oa ob oy : VO} {N : Nat} {el : VA} (h1 : a.1 = 3) (h0 : a.2.2 = 0) (h2 : b.1 = 1) (h3 : 0 ≤ b.2.1) (hy : y.1 = 1) (hk : KT[a.2.1.toNat]? = some (1, 0, N, [el])) (h4 : b.2.2 < N) (hN : N < 2147483648) (hv : vi_le y el = true) (hel : el.1 = 1) (hw9 : vi_aw FP a.2.1.toNat = true)
    (k : vi_W p l e R s m args below meth c Q KT nL al D cy Z ad τ A0 H0 (pc + 1) (lo, st, fa, n)) : vi_W p l e R s m args below meth c Q KT nL al D cy Z ad τ A0 H0 pc (lo, (y, oy) :: (b, ob) :: (a, oa) :: st, fa, n) := by
  intro H locs ls vs w g
  obtain ⟨v0, vs0, rfl, c1, c2, c3⟩ := vi_stk_c g.2.2.2.2.2.2.1
  obtain ⟨v, vs1, rfl, e1, e2, e3⟩ := vi_stk_c c3
  obtain ⟨v2, vs2, rfl, d1, d2, d3⟩ := vi_stk_c e3
  have g2 := vi_G_pop (vi_G_pop (vi_G_pop g))
  obtain ⟨q, ab, ee, kd, rfl, f1, f2, f3, f4⟩ := vi_obj h1 h0 d1 g.2.2.2.1
  cases hk.symm.trans f3
  obtain ⟨f, rfl, l2⟩ := f4
  obtain ⟨x, rfl, x1, x2⟩ := vi_i h2 e1
  obtain ⟨i1, i2⟩ := vi_idx h3 x1 x2 h4 hN
  have hyo := vi_le_ok hv c1
  obtain ⟨y', rfl, -⟩ := vi_i hy c1
  obtain ⟨t1, l3⟩ := l2 el rfl
  obtain ⟨te, u, z⟩ := el
  have t1 : te = 1 := t1
  subst t1
  obtain ⟨y2, ey, y3, y4⟩ := hyo
  cases ey
  refine va_iast hx hb hK g.1 g.2.1 g.2.2.1 q 0 f2 rfl i1 hd (fun H1 locs1 p1 p2 p3 => k H1 locs1 ls vs2 _ ⟨p1, p2, p3, vi_tw_set g2.2.2.2.1 f1 f2 f3 ⟨_, rfl, fun a ha => ?_⟩ (hZa _ hw9 _ _ _ _ _ _ _ f1 f2 g2.2.2.2.1.2.2.2), g2.2.2.2.2.1, g2.2.2.2.2.2.1, ?_, ?_⟩)
  · cases ha
    exact ⟨rfl, vi_arr_set l3 y3 y4⟩
  · exact vi_stk_id (fun o2 x2 hp => vi_path_arr f2 hp) g2.2.2.2.2.2.2.1
  · exact fun f9 hf9 => by
      obtain ⟨v9, q1, q2⟩ := g2.2.2.2.2.2.2.2 f9 hf9
      exact ⟨v9, vi_path_arr f2 q1, q2⟩
end VII
