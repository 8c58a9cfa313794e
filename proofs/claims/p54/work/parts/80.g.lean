section VIG
variable {p : Program} {l : Launch} {e : Env} {R : Room} {s : State} {m : MethodId} {args : Array Value} {below : List Frame} {meth : Method} {c : Code} {Q : State → Prop} {cc : ByteArray} {own : String}
variable {KT : List VK} {SG : List Nat} {na nL : Nat} {al : List (Nat × Value)} {FT : List (Nat × Nat × Nat)} {FP : List (Nat × Nat × Nat × Nat)} {CT C2 : List (Nat × Int)} {D : va_G} {cy : Nat → ClassId} {Z : va_W → Prop} {ad τ : List Nat} {A0 : Nat → Prop} {H0 : Heap}
variable {lo : List VA} {st : List (VA × VO)} {fa : List VF} {n pc : Nat} {L : List (Nat × VS)} {ls : Array Slot} {w : va_W}
theorem vi_cst (x : Int32) {v : Int} (h : x.toInt = v) : vi_ok ad τ (1, v, v) (.int x) := ⟨x, rfl, Int.le_of_eq h.symm, Int.le_of_eq h⟩
/-- an arithmetic row -/
theorem vi_bin_ok {f : Int → Int → Int → Int → Option VA} {q : Nat} (h : vi_bin q f lo st fa n = some L) : ∃ (a b : VA) (oa ob : VO) (st2 : List (VA × VO)) (r : VA), st = (b, ob) :: (a, oa) :: st2 ∧ a.1 = 1 ∧ b.1 = 1 ∧ f a.2.1 a.2.2 b.2.1 b.2.2 = some r ∧ L = [(q, lo, (r, vi_o0) :: st2, fa, n)] := by
  unfold vi_bin at h
  match st, h with
  | [], h => cases h
  | [_], h => cases h
  | (b, ob) :: (a, oa) :: st2, h =>
    dsimp only at h
    by_cases c1 : a.1 = 1 ∧ b.1 = 1
    · rw [if_pos c1] at h
      obtain ⟨r, h1, h2⟩ := vi_map1 h
      exact ⟨a, b, oa, ob, st2, r, rfl, c1.1, c1.2, h1, h2.symm⟩
    · rw [if_neg c1] at h; cases h
/-- two ints on top -/
theorem vi_G_2 {a b : VA} {oa ob : VO} {H : Heap} {locs : List Loc} {vs : List Value} (ha : a.1 = 1) (hb : b.1 = 1) (g : vi_G KT D cy Z ad τ nL al A0 H0 (lo, (b, ob) :: (a, oa) :: st, fa, n) H locs ls vs w) : ∃ (x y : Int32) (vs2 : List Value), vs = .int y :: .int x :: vs2 ∧ a.2.1 ≤ x.toInt ∧ x.toInt ≤ a.2.2 ∧ b.2.1 ≤ y.toInt ∧ y.toInt ≤ b.2.2 ∧ vi_path τ ls w oa (.int x) ∧ vi_path τ ls w ob (.int y) ∧ vi_G KT D cy Z ad τ nL al A0 H0 (lo, st, fa, n) H locs ls vs2 w := by
  obtain ⟨v, vs1, rfl, e1, e2, e3⟩ := vi_stk_c g.2.2.2.2.2.2.1
  obtain ⟨v2, vs2, rfl, f1, f2, f3⟩ := vi_stk_c e3
  obtain ⟨y, rfl, y1, y2⟩ := vi_i hb e1
  obtain ⟨x, rfl, x1, x2⟩ := vi_i ha f1
  exact ⟨x, y, vs2, rfl, x1, x2, y1, y2, f2, e2, vi_G_pop (vi_G_pop g)⟩
abbrev vi_K (p : Program) (l : Launch) (e : Env) (R : Room) (s : State) (m : MethodId) (args : Array Value) (below : List Frame) (meth : Method) (c : Code) (Q : State → Prop) (KT : List VK) (nL : Nat) (al : List (Nat × Value)) (D : va_G) (cy : Nat → ClassId) (Z : va_W → Prop) (ad τ : List Nat) (A0 : Nat → Prop) (H0 : Heap) (L : List (Nat × VS)) : Prop := ∀ q ∈ L, vi_W p l e R s m args below meth c Q KT nL al D cy Z ad τ A0 H0 q.1 q.2
theorem vr_iadd (hx : p.tables.exec = Jvm.exec) (hb : c.code = cc) (hd : decode cc pc = .ok (.iadd, 1)) (h : vi_bin (pc + 1) (fun a b c d => some (vi_I (a + c) (b + d))) lo st fa n = some L) (k : vi_K p l e R s m args below meth c Q KT nL al D cy Z ad τ A0 H0 L) : vi_W p l e R s m args below meth c Q KT nL al D cy Z ad τ A0 H0 pc (lo, st, fa, n) := by
  obtain ⟨a, b, oa, ob, st2, r, rfl, h1, h2, h3, rfl⟩ := vi_bin_ok h
  intro H locs ls vs w g
  obtain ⟨x, y, vs2, rfl, x1, x2, y1, y2, -, -, g2⟩ := vi_G_2 h1 h2 g
  cases h3
  exact lv_iadd hx hb hd (vi_one k H locs ls _ w (vi_G_push g2 (vi_n_add x1 x2 y1 y2) trivial))
theorem vr_isub (hx : p.tables.exec = Jvm.exec) (hb : c.code = cc) (hd : decode cc pc = .ok (.isub, 1)) (h : vi_bin (pc + 1) (fun a b c d => some (vi_I (a - d) (b - c))) lo st fa n = some L) (k : vi_K p l e R s m args below meth c Q KT nL al D cy Z ad τ A0 H0 L) : vi_W p l e R s m args below meth c Q KT nL al D cy Z ad τ A0 H0 pc (lo, st, fa, n) := by
  obtain ⟨a, b, oa, ob, st2, r, rfl, h1, h2, h3, rfl⟩ := vi_bin_ok h
  intro H locs ls vs w g
  obtain ⟨x, y, vs2, rfl, x1, x2, y1, y2, -, -, g2⟩ := vi_G_2 h1 h2 g
  cases h3
  exact lv_isub hx hb hd (vi_one k H locs ls _ w (vi_G_push g2 (vi_n_sub x1 x2 y1 y2) trivial))
theorem vr_imul (hx : p.tables.exec = Jvm.exec) (hb : c.code = cc) (hd : decode cc pc = .ok (.imul, 1)) (h : vi_bin (pc + 1) (fun a b c d => some (vi_mul a b c d)) lo st fa n = some L) (k : vi_K p l e R s m args below meth c Q KT nL al D cy Z ad τ A0 H0 L) : vi_W p l e R s m args below meth c Q KT nL al D cy Z ad τ A0 H0 pc (lo, st, fa, n) := by
  obtain ⟨a, b, oa, ob, st2, r, rfl, h1, h2, h3, rfl⟩ := vi_bin_ok h
  intro H locs ls vs w g
  obtain ⟨x, y, vs2, rfl, x1, x2, y1, y2, -, -, g2⟩ := vi_G_2 h1 h2 g
  cases h3
  exact lv_imul hx hb hd (vi_one k H locs ls _ w (vi_G_push g2 (vi_n_mul x1 x2 y1 y2) trivial))
theorem vr_iand (hx : p.tables.exec = Jvm.exec) (hb : c.code = cc) (hd : decode cc pc = .ok (.iand, 1)) (h : vi_bin (pc + 1) (fun a b c d => some (vi_and a b c d)) lo st fa n = some L) (k : vi_K p l e R s m args below meth c Q KT nL al D cy Z ad τ A0 H0 L) : vi_W p l e R s m args below meth c Q KT nL al D cy Z ad τ A0 H0 pc (lo, st, fa, n) := by
  obtain ⟨a, b, oa, ob, st2, r, rfl, h1, h2, h3, rfl⟩ := vi_bin_ok h
  intro H locs ls vs w g
  obtain ⟨x, y, vs2, rfl, x1, x2, y1, y2, -, -, g2⟩ := vi_G_2 h1 h2 g
  cases h3
  exact lv_iand hx hb hd (vi_one k H locs ls _ w (vi_G_push g2 (vi_n_and x1 x2 y1 y2) trivial))
theorem vr_ixor (hx : p.tables.exec = Jvm.exec) (hb : c.code = cc) (hd : decode cc pc = .ok (.ixor, 1)) (h : vi_bin (pc + 1) (fun _ _ _ _ => some vi_top) lo st fa n = some L) (k : vi_K p l e R s m args below meth c Q KT nL al D cy Z ad τ A0 H0 L) : vi_W p l e R s m args below meth c Q KT nL al D cy Z ad τ A0 H0 pc (lo, st, fa, n) := by
  obtain ⟨a, b, oa, ob, st2, r, rfl, h1, h2, h3, rfl⟩ := vi_bin_ok h
  intro H locs ls vs w g
  obtain ⟨x, y, vs2, rfl, x1, x2, y1, y2, -, -, g2⟩ := vi_G_2 h1 h2 g
  cases h3
  exact lv_ixor hx hb hd (vi_one k H locs ls _ w (vi_G_push g2 (vi_ok_top _) trivial))
theorem vr_ishl (hx : p.tables.exec = Jvm.exec) (hb : c.code = cc) (hd : decode cc pc = .ok (.ishl, 1)) (h : vi_bin (pc + 1) (fun _ _ _ _ => some vi_top) lo st fa n = some L) (k : vi_K p l e R s m args below meth c Q KT nL al D cy Z ad τ A0 H0 L) : vi_W p l e R s m args below meth c Q KT nL al D cy Z ad τ A0 H0 pc (lo, st, fa, n) := by
  obtain ⟨a, b, oa, ob, st2, r, rfl, h1, h2, h3, rfl⟩ := vi_bin_ok h
  intro H locs ls vs w g
  obtain ⟨x, y, vs2, rfl, x1, x2, y1, y2, -, -, g2⟩ := vi_G_2 h1 h2 g
  cases h3
  exact lv_ishl hx hb hd (vi_one k H locs ls _ w (vi_G_push g2 (vi_ok_top _) trivial))
theorem vr_ishr (hx : p.tables.exec = Jvm.exec) (hb : c.code = cc) (hd : decode cc pc = .ok (.ishr, 1)) (h : vi_bin (pc + 1) (fun _ _ _ _ => some vi_top) lo st fa n = some L) (k : vi_K p l e R s m args below meth c Q KT nL al D cy Z ad τ A0 H0 L) : vi_W p l e R s m args below meth c Q KT nL al D cy Z ad τ A0 H0 pc (lo, st, fa, n) := by
  obtain ⟨a, b, oa, ob, st2, r, rfl, h1, h2, h3, rfl⟩ := vi_bin_ok h
  intro H locs ls vs w g
  obtain ⟨x, y, vs2, rfl, x1, x2, y1, y2, -, -, g2⟩ := vi_G_2 h1 h2 g
  cases h3
  exact lv_ishr hx hb hd (vi_one k H locs ls _ w (vi_G_push g2 (vi_ok_top _) trivial))
theorem vr_idiv (hx : p.tables.exec = Jvm.exec) (hb : c.code = cc) (hd : decode cc pc = .ok (.idiv, 1)) (h : vi_bin (pc + 1) vi_div lo st fa n = some L) (k : vi_K p l e R s m args below meth c Q KT nL al D cy Z ad τ A0 H0 L) : vi_W p l e R s m args below meth c Q KT nL al D cy Z ad τ A0 H0 pc (lo, st, fa, n) := by
  obtain ⟨a, b, oa, ob, st2, r, rfl, h1, h2, h3, rfl⟩ := vi_bin_ok h
  intro H locs ls vs w g
  obtain ⟨x, y, vs2, rfl, x1, x2, y1, y2, -, -, g2⟩ := vi_G_2 h1 h2 g
  have hq := vi_n_div (ad := ad) (τ := τ) x1 x2 y1 y2 h3
  exact lv_idiv hx hb hd hq.1 (vi_one k H locs ls _ w (vi_G_push g2 hq.2 trivial))
theorem vr_irem (hx : p.tables.exec = Jvm.exec) (hb : c.code = cc) (hd : decode cc pc = .ok (.irem, 1)) (h : vi_bin (pc + 1) vi_rem lo st fa n = some L) (k : vi_K p l e R s m args below meth c Q KT nL al D cy Z ad τ A0 H0 L) : vi_W p l e R s m args below meth c Q KT nL al D cy Z ad τ A0 H0 pc (lo, st, fa, n) := by
  obtain ⟨a, b, oa, ob, st2, r, rfl, h1, h2, h3, rfl⟩ := vi_bin_ok h
  intro H locs ls vs w g
  obtain ⟨x, y, vs2, rfl, x1, x2, y1, y2, -, -, g2⟩ := vi_G_2 h1 h2 g
  have hq := vi_n_rem (ad := ad) (τ := τ) x1 x2 y1 y2 h3
  exact lv_irem hx hb hd hq.1 (vi_one k H locs ls _ w (vi_G_push g2 hq.2 trivial))
theorem vr_icmp (hx : p.tables.exec = Jvm.exec) (hb : c.code = cc) {cd : ClassFile.Cond} {off : Int} (hd : decode cc pc = .ok (.if_icmp cd off, 3)) {a b : VA} {oa ob : VO} (h1 : a.1 = 1) (h2 : b.1 = 1) (ht : vi_tok pc off = true) (k : vi_K p l e R s m args below meth c Q KT nL al D cy Z ad τ A0 H0 (vi_br cd a b oa ob (vi_tgt pc off) (pc + 3) lo st fa n)) : vi_W p l e R s m args below meth c Q KT nL al D cy Z ad τ A0 H0 pc (lo, (b, ob) :: (a, oa) :: st, fa, n) := by
  intro H locs ls vs w g
  have g0 := g.2.2.2.2.2.2.1
  obtain ⟨x, y, vs2, rfl, x1, x2, y1, y2, pa, pb, g2⟩ := vi_G_2 h1 h2 g
  have ok := vi_br_ok g2 h1 h2 g0.2.2.1 g0.1 pa pb k
  have hn := fun (q : ¬ vi_says cd x.toInt y.toInt) => ok.2 (vi_says_neg q)
  have ht := vi_tgt_ok ht
  cases cd
  · exact lv_icmp_eq hx hb hd ht (fun q => ok.1 (by rw [q]; rfl)) (fun q => hn (fun z => q (Int32.toInt_inj.mp z)))
  · exact lv_icmp_ne hx hb hd ht (fun q => ok.1 (fun z => q (Int32.toInt_inj.mp z))) (fun q => hn (fun z => z (by rw [q])))
  · exact lv_icmp_lt hx hb hd ht (fun q => ok.1 (Int32.lt_iff_toInt_lt.mp q)) (fun q => hn (fun z => q (Int32.lt_iff_toInt_lt.mpr z)))
  · exact lv_icmp_ge hx hb hd ht (fun q => ok.1 (Int32.le_iff_toInt_le.mp q)) (fun q => hn (fun z => q (Int32.le_iff_toInt_le.mpr z)))
  · exact lv_icmp_gt hx hb hd ht (fun q => ok.1 (Int32.lt_iff_toInt_lt.mp q)) (fun q => hn (fun z => q (Int32.lt_iff_toInt_lt.mpr z)))
  · exact lv_icmp_le hx hb hd ht (fun q => ok.1 (Int32.le_iff_toInt_le.mp q)) (fun q => hn (fun z => q (Int32.le_iff_toInt_le.mpr z)))
theorem vr_if (hx : p.tables.exec = Jvm.exec) (hb : c.code = cc) {cd : ClassFile.Cond} {off : Int} (hd : decode cc pc = .ok (.ifCond cd off, 3)) {a : VA} {oa : VO} (h1 : a.1 = 1) (ht : vi_tok pc off = true) (k : vi_K p l e R s m args below meth c Q KT nL al D cy Z ad τ A0 H0 (vi_br cd a (1, 0, 0) oa vi_o0 (vi_tgt pc off) (pc + 3) lo st fa n)) : vi_W p l e R s m args below meth c Q KT nL al D cy Z ad τ A0 H0 pc (lo, (a, oa) :: st, fa, n) := by
  intro H locs ls vs w g
  obtain ⟨v, vs2, rfl, e1, e2, e3⟩ := vi_stk_c g.2.2.2.2.2.2.1
  have g2 := vi_G_pop g
  have ho : vi_ok ad τ a v := e1
  obtain ⟨x, rfl, x1, x2⟩ := vi_i h1 e1
  have ok := vi_br_ok (ob := vi_o0) (y := 0) g2 h1 rfl ho (vi_cst 0 Int32.toInt_zero) e2 trivial k
  rw [Int32.toInt_zero] at ok
  have hn := fun (q : ¬ vi_says cd x.toInt 0) => ok.2 (vi_says_neg q)
  have ht := vi_tgt_ok ht
  have z0 : (0 : Int32).toInt = 0 := Int32.toInt_zero
  cases cd
  · exact lv_if_eq hx hb hd ht (fun q => ok.1 (by rw [q]; exact z0)) (fun q => hn (fun z => q (Int32.toInt_inj.mp (z.trans z0.symm))))
  · exact lv_if_ne hx hb hd ht (fun q => ok.1 (fun z => q (Int32.toInt_inj.mp (z.trans z0.symm)))) (fun q => hn (fun z => z (by rw [q]; exact z0)))
  · exact lv_if_lt hx hb hd ht (fun q => ok.1 (z0 ▸ Int32.lt_iff_toInt_lt.mp q)) (fun q => hn (fun z => q (Int32.lt_iff_toInt_lt.mpr (z0.symm ▸ z))))
  · exact lv_if_ge hx hb hd ht (fun q => ok.1 (z0 ▸ Int32.le_iff_toInt_le.mp q)) (fun q => hn (fun z => q (Int32.le_iff_toInt_le.mpr (z0.symm ▸ z))))
  · exact lv_if_gt hx hb hd ht (fun q => ok.1 (z0 ▸ Int32.lt_iff_toInt_lt.mp q)) (fun q => hn (fun z => q (Int32.lt_iff_toInt_lt.mpr (z0.symm ▸ z))))
  · exact lv_if_le hx hb hd ht (fun q => ok.1 (z0 ▸ Int32.le_iff_toInt_le.mp q)) (fun q => hn (fun z => q (Int32.le_iff_toInt_le.mpr (z0.symm ▸ z))))
end VIG
