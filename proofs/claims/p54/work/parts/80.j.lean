section VIJ
variable {p : Program} {l : Launch} {e : Env} {R : Room} {s : State} {m : MethodId} {args : Array Value} {below : List Frame} {meth : Method} {c : Code} {Q : State → Prop} {cc : ByteArray} {own : String}
variable {KT : List VK} {SG : List Nat} {na nL : Nat} {al : List (Nat × Value)} {FT : List (Nat × Nat × Nat)} {FP : List (Nat × Nat × Nat × Nat)} {CT C2 : List (Nat × Int)} {D : va_G} {cy : Nat → ClassId} {Z : va_W → Prop} {ad τ : List Nat} {A0 : Nat → Prop} {H0 : Heap}
variable {lo : List VA} {st : List (VA × VO)} {fa : List VF} {n pc : Nat} {L : List (Nat × VS)} {ls : Array Slot} {w : va_W}
theorem vi_narc {x : Int32} (h0 : 0 ≤ x.toInt) (h1 : x.toInt ≤ 65535) : vp_nar .char x = x := by
  obtain ⟨j, hj, e1, e2⟩ := vi_ofNat h0
  rw [e1]
  unfold vp_nar
  rw [(pk_charN (q := j) (by omega)).1]
theorem vr_cast (hZa : vi_Za FP τ Z) (hx : p.tables.exec = Jvm.exec) (hb : c.code = cc) (hK : va_K D vwCl (tyL cy) s) (hd : decode cc pc = .ok (.castore, 1)) {a b y : VA} {oa ob oy : VO} {N : Nat} {el : VA} (h1 : a.1 = 3) (h0 : a.2.2 = 0) (h2 : b.1 = 1) (h3 : 0 ≤ b.2.1) (hy : y.1 = 1) (hk : KT[a.2.1.toNat]? = some (1, 1, N, [el])) (h4 : b.2.2 < N) (hN : N < 2147483648) (hv : vi_le y el = true) (hel : el.1 = 1) (hc0 : 0 ≤ el.2.1) (hc1 : el.2.2 ≤ 65535) (hw9 : vi_aw FP a.2.1.toNat = true)
    (k : vi_W p l e R s m args below meth c Q KT nL al D cy Z ad τ A0 H0 (pc + 1) (lo, st, fa, n)) : vi_W p l e R s m args below meth c Q KT nL al D cy Z ad τ A0 H0 pc (lo, (y, oy) :: (b, ob) :: (a, oa) :: st, fa, n) := by
  intro H locs ls vs w g
  obtain ⟨v0, vs0, rfl, c1, c2, c3⟩ := vi_stk_c g.2.2.2.2.2.2.1
  obtain ⟨v, vs1, rfl, e1, e2, e3⟩ := vi_stk_c c3
  obtain ⟨v2, vs2, rfl, d1, d2, d3⟩ := vi_stk_c e3
  have g2 := vi_G_pop (vi_G_pop (vi_G_pop g))
  obtain ⟨q, ab, ee, kd, rfl, f1, f2, f3, f4⟩ := vi_obj h1 h0 d1 g.2.2.2.1
  cases hk.symm.trans f3
  obtain ⟨f, rfl, l2⟩ := f4
  obtain ⟨x, rfl, x1, x2⟩ := vi_i h2 e1
  obtain ⟨i1, i2⟩ := vi_idx h3 x1 x2 h4 hN
  have hyo := vi_le_ok hv c1
  obtain ⟨y', rfl, -⟩ := vi_i hy c1
  obtain ⟨t1, l3⟩ := l2 el rfl
  obtain ⟨te, u, z⟩ := el
  have t1 : te = 1 := t1
  subst t1
  obtain ⟨y2, ey, y3, y4⟩ := hyo
  cases ey
  refine va_cast hx hb hK g.1 g.2.1 g.2.2.1 q 1 f2 rfl i1 hd (fun H1 locs1 p1 p2 p3 => k H1 locs1 ls vs2 _ ⟨p1, p2, p3, vi_tw_set g2.2.2.2.1 f1 f2 f3 ⟨_, rfl, fun a ha => ?_⟩ (hZa _ hw9 _ _ _ _ _ _ _ f1 f2 g2.2.2.2.1.2.2.2), g2.2.2.2.2.1, g2.2.2.2.2.2.1, ?_, ?_⟩)
  · cases ha
    rw [vi_narc (Int.le_trans hc0 y3) (Int.le_trans y4 hc1)]
    exact ⟨rfl, vi_arr_set l3 y3 y4⟩
  · exact vi_stk_id (fun o2 x2 hp => vi_path_arr f2 hp) g2.2.2.2.2.2.2.1
  · exact fun f9 hf9 => by
      obtain ⟨v9, q1, q2⟩ := g2.2.2.2.2.2.2.2 f9 hf9
      exact ⟨v9, vi_path_arr f2 q1, q2⟩
theorem vi_i8 {v : Int} (h1 : -128 ≤ v) (h2 : v ≤ 127) : ((Int8.ofInt v).toInt32).toInt = v := by
  rw [Int8.toInt_toInt32, Int8.toInt_ofInt]
  have e : Int8.size = 256 := rfl
  exact Int.bmod_eq_of_le (by omega) (by omega)
theorem vi_i16 {v : Int} (h1 : -32768 ≤ v) (h2 : v ≤ 32767) : ((Int16.ofInt v).toInt32).toInt = v := by
  rw [Int16.toInt_toInt32, Int16.toInt_ofInt]
  have e : Int16.size = 65536 := rfl
  exact Int.bmod_eq_of_le (by omega) (by omega)
set_option maxHeartbeats 4000000 in
theorem vi_ins_ok (hZp : vi_Zp FP τ Z) (hZa : vi_Za FP τ Z) (hal : ∀ q ∈ al, q.1 < na ∧ q.2.category = 1) (hx : p.tables.exec = Jvm.exec) (hb : c.code = cc) (hown : s.vm.findClass own = some m.cls) (hK : va_K D vwCl (tyL cy) s) (hSG : vi_sg SG τ) (hFg : ∀ (i ci k : Nat), (i, ci, k) ∈ FT → vi_Fg p l e R s m args below meth c Q cc D i ci k) (hFp : ∀ (i ci k d9 : Nat), (i, ci, k, d9) ∈ FP → ∀ (d x : Nat) (fs : List VA) (b : VA) (v : Value), KT[d]? = some (0, ci, x, fs) → fs[k]? = some b → vi_ok ad τ b v → vi_Fp p l e R s m args below meth c Q cc D A0 H0 i ci k v)
    (hCT : ∀ (i : Nat) (v : Int), (i, v) ∈ CT → (Jvm.Cond.constant own i (Int32.ofInt v)).before args s = true) (hC2 : ∀ (i : Nat) (v : Int), (i, v) ∈ C2 → ∃ x : Int64, (Jvm.Cond.constantLong own i x).before args s = true) (hty : ∀ (d ti N : Nat) (els : List VA), KT[d]? = some (2, ti, N, els) → ∃ C, (tyL cy)[ti]? = some (cy ti, .object C))
    {ins : Instr} {len : Nat} (hd : decode cc pc = .ok (ins, len)) (h : vi_ins KT SG na nL FT FP CT C2 pc ins len lo st fa n = some L) (k : vi_K p l e R s m args below meth c Q KT nL al D cy Z ad τ A0 H0 L) : vi_W p l e R s m args below meth c Q KT nL al D cy Z ad τ A0 H0 pc (lo, st, fa, n) := by
  cases ins
  case iconst v =>
    dsimp only [vi_ins] at h
    by_cases c1 : len = 1 ∧ -128 ≤ v ∧ v ≤ 127
    · rw [if_pos c1] at h
      obtain ⟨rfl, v1, v2⟩ := c1
      cases h
      intro H locs ls vs w g
      exact lv_iconst hx hb hd rfl (vi_one k H locs ls _ w (vi_G_push g (vi_cst _ (by rw [Int32.toInt_ofInt, vi_bmod (by omega) (by omega)])) trivial))
    · rw [if_neg c1] at h; cases h
  case bipush v =>
    dsimp only [vi_ins] at h
    by_cases c1 : len = 2 ∧ -128 ≤ v ∧ v ≤ 127
    · rw [if_pos c1] at h
      obtain ⟨rfl, v1, v2⟩ := c1
      cases h
      intro H locs ls vs w g
      exact lv_bipush hx hb hd rfl (vi_one k H locs ls _ w (vi_G_push g (vi_cst _ (vi_i8 v1 v2)) trivial))
    · rw [if_neg c1] at h; cases h
  case sipush v =>
    dsimp only [vi_ins] at h
    by_cases c1 : len = 3 ∧ -32768 ≤ v ∧ v ≤ 32767
    · rw [if_pos c1] at h
      obtain ⟨rfl, v1, v2⟩ := c1
      cases h
      intro H locs ls vs w g
      exact lv_sipush hx hb hd rfl (vi_one k H locs ls _ w (vi_G_push g (vi_cst _ (vi_i16 v1 v2)) trivial))
    · rw [if_neg c1] at h; cases h
  case ldc i =>
    dsimp only [vi_ins] at h
    by_cases c1 : len = 2
    · rw [if_pos c1] at h
      subst c1
      cases hv : vi_find CT i with
      | none => rw [hv] at h; cases h
      | some v =>
        rw [hv] at h
        dsimp only [Option.bind] at h
        by_cases c2 : -2147483648 ≤ v ∧ v ≤ 2147483647
        · rw [if_pos c2] at h
          cases h
          intro H locs ls vs w g
          exact lv_ldc hx hb hown (hCT i v (vi_find_mem hv)) hd (vi_one k H locs ls _ w (vi_G_push g (vi_cst _ (by rw [Int32.toInt_ofInt, vi_bmod (by omega) (by omega)])) trivial))
        · rw [if_neg c2] at h; cases h
    · rw [if_neg c1] at h; cases h
  case ldc_w i =>
    dsimp only [vi_ins] at h
    by_cases c1 : len = 3
    · rw [if_pos c1] at h
      subst c1
      cases hv : vi_find CT i with
      | none => rw [hv] at h; cases h
      | some v =>
        rw [hv] at h
        dsimp only [Option.bind] at h
        by_cases c2 : -2147483648 ≤ v ∧ v ≤ 2147483647
        · rw [if_pos c2] at h
          cases h
          intro H locs ls vs w g
          exact lv_ldcw hx hb hown (hCT i v (vi_find_mem hv)) hd (vi_one k H locs ls _ w (vi_G_push g (vi_cst _ (by rw [Int32.toInt_ofInt, vi_bmod (by omega) (by omega)])) trivial))
        · rw [if_neg c2] at h; cases h
    · rw [if_neg c1] at h; cases h
  case ldc2_w i =>
    dsimp only [vi_ins] at h
    by_cases c1 : len = 3
    · rw [if_pos c1] at h
      subst c1
      obtain ⟨v, hv, rfl⟩ := vi_map1 h
      intro H locs ls vs w g
      obtain ⟨x, hc⟩ := hC2 i v (vi_find_mem hv)
      exact lv_ldc2 hx hb hown hc hd (vi_one k H locs ls _ w (vi_G_push g ⟨x, rfl⟩ trivial))
    · rw [if_neg c1] at h; cases h
  case aconst_null =>
    dsimp only [vi_ins] at h
    by_cases c1 : len = 1
    · rw [if_pos c1] at h
      subst c1
      cases h
      intro H locs ls vs w g
      exact lv_null hx hb hd (vi_one k H locs ls _ w (vi_G_push g (a := ((2, 0, 0), vi_o0)) rfl trivial))
    · rw [if_neg c1] at h; cases h
  case iload_n i =>
    dsimp only [vi_ins] at h
    by_cases c1 : len = 1
    · rw [if_pos c1] at h
      subst c1
      exact vr_iload_n hx hb hd h k
    · rw [if_neg c1] at h; cases h
  case iload i =>
    dsimp only [vi_ins] at h
    by_cases c1 : len = 2
    · rw [if_pos c1] at h
      subst c1
      exact vr_iload hx hb hd h k
    · rw [if_neg c1] at h; cases h
  case aload_n i =>
    dsimp only [vi_ins] at h
    by_cases c1 : len = 1
    · rw [if_pos c1] at h
      subst c1
      exact vr_aload_n hx hb hd h k
    · rw [if_neg c1] at h; cases h
  case aload i =>
    dsimp only [vi_ins] at h
    by_cases c1 : len = 2
    · rw [if_pos c1] at h
      subst c1
      exact vr_aload hx hb hd h k
    · rw [if_neg c1] at h; cases h
  case lload_n i =>
    dsimp only [vi_ins] at h
    by_cases c1 : len = 1
    · rw [if_pos c1] at h
      subst c1
      exact vr_lload_n hx hb hd h k
    · rw [if_neg c1] at h; cases h
  case lstore_n i =>
    dsimp only [vi_ins] at h
    rcases st with _ | ⟨⟨a, o⟩, st⟩
    · cases h
    dsimp only at h
    by_cases c1 : len = 1 ∧ a.1 = 4
    · rw [if_pos c1] at h
      obtain ⟨rfl, c1⟩ := c1
      obtain ⟨A, h1, rfl⟩ := vi_map1 h
      exact vr_lstore_n hal hx hb hd c1 h1 (vi_one k)
    · rw [if_neg c1] at h; cases h
  case istore_n i =>
    dsimp only [vi_ins] at h
    rcases st with _ | ⟨⟨a, o⟩, st⟩
    · cases h
    dsimp only at h
    by_cases c1 : len = 1 ∧ a.1 = 1
    · rw [if_pos c1] at h
      obtain ⟨rfl, c1⟩ := c1
      obtain ⟨A, h1, rfl⟩ := vi_map1 h
      exact vr_istore_n hal hx hb hd c1 h1 (vi_one k)
    · rw [if_neg c1] at h; cases h
  case istore i =>
    dsimp only [vi_ins] at h
    rcases st with _ | ⟨⟨a, o⟩, st⟩
    · cases h
    dsimp only at h
    by_cases c1 : len = 2 ∧ a.1 = 1
    · rw [if_pos c1] at h
      obtain ⟨rfl, c1⟩ := c1
      obtain ⟨A, h1, rfl⟩ := vi_map1 h
      exact vr_istore hal hx hb hd c1 h1 (vi_one k)
    · rw [if_neg c1] at h; cases h
  case astore_n i =>
    dsimp only [vi_ins] at h
    rcases st with _ | ⟨⟨a, o⟩, st⟩
    · cases h
    dsimp only at h
    by_cases c1 : len = 1 ∧ (a.1 = 2 ∨ a.1 = 3)
    · rw [if_pos c1] at h
      obtain ⟨rfl, c1⟩ := c1
      obtain ⟨A, h1, rfl⟩ := vi_map1 h
      exact vr_astore_n hal hx hb hd c1 h1 (vi_one k)
    · rw [if_neg c1] at h; cases h
  case astore i =>
    dsimp only [vi_ins] at h
    rcases st with _ | ⟨⟨a, o⟩, st⟩
    · cases h
    dsimp only at h
    by_cases c1 : len = 2 ∧ (a.1 = 2 ∨ a.1 = 3)
    · rw [if_pos c1] at h
      obtain ⟨rfl, c1⟩ := c1
      obtain ⟨A, h1, rfl⟩ := vi_map1 h
      exact vr_astore hal hx hb hd c1 h1 (vi_one k)
    · rw [if_neg c1] at h; cases h
  case iinc i v =>
    dsimp only [vi_ins] at h
    cases ha : lo[i]? with
    | none => rw [ha] at h; cases h
    | some a =>
      rw [ha] at h
      dsimp only at h
      by_cases c1 : len = 3 ∧ a.1 = 1 ∧ -32768 ≤ v ∧ v ≤ 32767
      · rw [if_pos c1] at h
        obtain ⟨rfl, c1, c2⟩ := c1
        obtain ⟨A, h1, rfl⟩ := vi_map1 h
        exact vr_iinc hal hx hb hd ha c1 c2 h1 (vi_one k)
      · rw [if_neg c1] at h; cases h
  case pop =>
    dsimp only [vi_ins] at h
    rcases st with _ | ⟨⟨a, o⟩, st⟩
    · cases h
    dsimp only at h
    by_cases c1 : len = 1 ∧ a.1 ≠ 0 ∧ a.1 < 4
    · rw [if_pos c1] at h
      obtain ⟨rfl, z1, z2⟩ := c1
      cases h
      intro H locs ls vs w g
      obtain ⟨v, vs2, rfl, e1, e2, e3⟩ := vi_stk_c g.2.2.2.2.2.2.1
      exact lv_pop hx hb hd (vi_cat e1 z1 (Nat.not_le.mpr z2)) (vi_one k H locs ls _ w (vi_G_pop g))
    · rw [if_neg c1] at h; cases h
  case dup =>
    dsimp only [vi_ins] at h
    rcases st with _ | ⟨a, st⟩
    · cases h
    dsimp only at h
    by_cases c1 : len = 1 ∧ a.1.1 ≠ 0 ∧ a.1.1 < 4
    · rw [if_pos c1] at h
      obtain ⟨rfl, z1, z2⟩ := c1
      cases h
      intro H locs ls vs w g
      obtain ⟨v, vs2, rfl, e1, e2, e3⟩ := vi_stk_c g.2.2.2.2.2.2.1
      exact lv_dup hx hb hd (vi_cat e1 z1 (Nat.not_le.mpr z2)) (vi_one k H locs ls _ w (vi_G_push g e1 e2))
    · rw [if_neg c1] at h; cases h
  case dup2 =>
    dsimp only [vi_ins] at h
    rcases st with _ | ⟨a, _ | ⟨b, st⟩⟩
    · cases h
    · cases h
    dsimp only at h
    by_cases c1 : len = 1 ∧ a.1.1 ≠ 0 ∧ a.1.1 < 4 ∧ b.1.1 ≠ 0 ∧ b.1.1 < 4
    · rw [if_pos c1] at h
      obtain ⟨rfl, z1, z2, z3, z4⟩ := c1
      cases h
      intro H locs ls vs w g
      obtain ⟨v, vs1, rfl, e1, e2, e3⟩ := vi_stk_c g.2.2.2.2.2.2.1
      obtain ⟨v2, vs2, rfl, f1, f2, f3⟩ := vi_stk_c e3
      exact lv_dup2_11 hx hb hd (vi_cat e1 z1 (Nat.not_le.mpr z2)) (vi_cat f1 z3 (Nat.not_le.mpr z4)) (vi_one k H locs ls _ w (vi_G_push (vi_G_push g f1 f2) e1 e2))
    · rw [if_neg c1] at h; cases h
  case iadd =>
    dsimp only [vi_ins] at h
    by_cases c1 : len = 1
    · rw [if_pos c1] at h
      subst c1
      exact vr_iadd hx hb hd h k
    · rw [if_neg c1] at h; cases h
  case isub =>
    dsimp only [vi_ins] at h
    by_cases c1 : len = 1
    · rw [if_pos c1] at h
      subst c1
      exact vr_isub hx hb hd h k
    · rw [if_neg c1] at h; cases h
  case imul =>
    dsimp only [vi_ins] at h
    by_cases c1 : len = 1
    · rw [if_pos c1] at h
      subst c1
      exact vr_imul hx hb hd h k
    · rw [if_neg c1] at h; cases h
  case iand =>
    dsimp only [vi_ins] at h
    by_cases c1 : len = 1
    · rw [if_pos c1] at h
      subst c1
      exact vr_iand hx hb hd h k
    · rw [if_neg c1] at h; cases h
  case ixor =>
    dsimp only [vi_ins] at h
    by_cases c1 : len = 1
    · rw [if_pos c1] at h
      subst c1
      exact vr_ixor hx hb hd h k
    · rw [if_neg c1] at h; cases h
  case ishl =>
    dsimp only [vi_ins] at h
    by_cases c1 : len = 1
    · rw [if_pos c1] at h
      subst c1
      exact vr_ishl hx hb hd h k
    · rw [if_neg c1] at h; cases h
  case ishr =>
    dsimp only [vi_ins] at h
    by_cases c1 : len = 1
    · rw [if_pos c1] at h
      subst c1
      exact vr_ishr hx hb hd h k
    · rw [if_neg c1] at h; cases h
  case idiv =>
    dsimp only [vi_ins] at h
    by_cases c1 : len = 1
    · rw [if_pos c1] at h
      subst c1
      exact vr_idiv hx hb hd h k
    · rw [if_neg c1] at h; cases h
  case irem =>
    dsimp only [vi_ins] at h
    by_cases c1 : len = 1
    · rw [if_pos c1] at h
      subst c1
      exact vr_irem hx hb hd h k
    · rw [if_neg c1] at h; cases h
  case i2l =>
    dsimp only [vi_ins] at h
    rcases st with _ | ⟨⟨a, o⟩, st⟩
    · cases h
    dsimp only at h
    by_cases c1 : len = 1 ∧ a.1 = 1
    · rw [if_pos c1] at h
      obtain ⟨rfl, z1⟩ := c1
      cases h
      intro H locs ls vs w g
      obtain ⟨v, vs2, rfl, e1, e2, e3⟩ := vi_stk_c g.2.2.2.2.2.2.1
      obtain ⟨x, rfl, -⟩ := vi_i z1 e1
      exact lv_i2l hx hb hd rfl (vi_one k H locs ls _ w (vi_G_push (vi_G_pop g) ⟨_, rfl⟩ trivial))
    · rw [if_neg c1] at h; cases h
  case ladd =>
    dsimp only [vi_ins] at h
    rcases st with _ | ⟨⟨a, oa⟩, _ | ⟨⟨b, ob⟩, st⟩⟩
    · cases h
    · cases h
    dsimp only at h
    by_cases c1 : len = 1 ∧ a.1 = 4 ∧ b.1 = 4
    · rw [if_pos c1] at h
      obtain ⟨rfl, z1, z2⟩ := c1
      cases h
      intro H locs ls vs w g
      obtain ⟨v, vs1, rfl, e1, e2, e3⟩ := vi_stk_c g.2.2.2.2.2.2.1
      obtain ⟨v2, vs2, rfl, f1, f2, f3⟩ := vi_stk_c e3
      obtain ⟨x, rfl⟩ := vi_l z1 e1
      obtain ⟨y, rfl⟩ := vi_l z2 f1
      exact lv_ladd hx hb hd (vi_one k H locs ls _ w (vi_G_push (vi_G_pop (vi_G_pop g)) ⟨_, rfl⟩ trivial))
    · rw [if_neg c1] at h; cases h
  case lmul =>
    dsimp only [vi_ins] at h
    rcases st with _ | ⟨⟨a, oa⟩, _ | ⟨⟨b, ob⟩, st⟩⟩
    · cases h
    · cases h
    dsimp only at h
    by_cases c1 : len = 1 ∧ a.1 = 4 ∧ b.1 = 4
    · rw [if_pos c1] at h
      obtain ⟨rfl, z1, z2⟩ := c1
      cases h
      intro H locs ls vs w g
      obtain ⟨v, vs1, rfl, e1, e2, e3⟩ := vi_stk_c g.2.2.2.2.2.2.1
      obtain ⟨v2, vs2, rfl, f1, f2, f3⟩ := vi_stk_c e3
      obtain ⟨x, rfl⟩ := vi_l z1 e1
      obtain ⟨y, rfl⟩ := vi_l z2 f1
      exact lv_lmul hx hb hd (vi_one k H locs ls _ w (vi_G_push (vi_G_pop (vi_G_pop g)) ⟨_, rfl⟩ trivial))
    · rw [if_neg c1] at h; cases h
  case goto off =>
    dsimp only [vi_ins] at h
    by_cases c1 : len = 3 ∧ vi_tok pc off = true
    · rw [if_pos c1] at h
      obtain ⟨rfl, z1⟩ := c1
      cases h
      intro H locs ls vs w g
      exact lv_goto hx hb hd (vi_tgt_ok z1) (vi_one k H locs ls _ w g)
    · rw [if_neg c1] at h; cases h
  case if_icmp cd off =>
    dsimp only [vi_ins] at h
    rcases st with _ | ⟨⟨b, ob⟩, _ | ⟨⟨a, oa⟩, st⟩⟩
    · cases h
    · cases h
    dsimp only at h
    by_cases c1 : len = 3 ∧ vi_tok pc off = true ∧ a.1 = 1 ∧ b.1 = 1
    · rw [if_pos c1] at h
      obtain ⟨rfl, z1, z2, z3⟩ := c1
      cases h
      exact vr_icmp hx hb hd z2 z3 z1 k
    · rw [if_neg c1] at h; cases h
  case ifCond cd off =>
    dsimp only [vi_ins] at h
    rcases st with _ | ⟨⟨a, o⟩, st⟩
    · cases h
    dsimp only at h
    by_cases c1 : len = 3 ∧ vi_tok pc off = true ∧ a.1 = 1
    · rw [if_pos c1] at h
      obtain ⟨rfl, z1, z2⟩ := c1
      cases h
      exact vr_if hx hb hd z2 z1 k
    · rw [if_neg c1] at h; cases h
  case ifnull off =>
    dsimp only [vi_ins] at h
    rcases st with _ | ⟨⟨a, o⟩, st⟩
    · cases h
    dsimp only at h
    by_cases c1 : len = 3 ∧ vi_tok pc off = true
    · rw [if_pos c1] at h
      obtain ⟨rfl, z1⟩ := c1
      exact vr_ifnull hx hb hd z1 h k
    · rw [if_neg c1] at h; cases h
  case ifnonnull off =>
    dsimp only [vi_ins] at h
    rcases st with _ | ⟨⟨a, o⟩, st⟩
    · cases h
    dsimp only at h
    by_cases c1 : len = 3 ∧ vi_tok pc off = true
    · rw [if_pos c1] at h
      obtain ⟨rfl, z1⟩ := c1
      exact vr_ifnonnull hx hb hd z1 h k
    · rw [if_neg c1] at h; cases h
  case if_acmp cd off =>
    dsimp only [vi_ins] at h
    rcases st with _ | ⟨⟨a, oa⟩, _ | ⟨⟨b, ob⟩, st⟩⟩
    · cases h
    · cases h
    dsimp only at h
    by_cases c1 : len = 3 ∧ vi_tok pc off = true ∧ (a.1 = 2 ∨ a.1 = 3) ∧ (b.1 = 2 ∨ b.1 = 3)
    · rw [if_pos c1] at h
      obtain ⟨rfl, z1, z2, z3⟩ := c1
      cases h
      exact vr_acmp hx hb hd z2 z3 z1 k
    · rw [if_neg c1] at h; cases h
  case getfield i =>
    dsimp only [vi_ins] at h
    rcases st with _ | ⟨⟨a, o⟩, st⟩
    · cases h
    dsimp only at h
    by_cases c1 : len = 3 ∧ a.1 = 3 ∧ a.2.2 = 0
    · rw [if_pos c1] at h
      obtain ⟨rfl, z1, z2⟩ := c1
      cases hq : vi_find FT i with
      | none => rw [hq] at h; cases h
      | some cik =>
        obtain ⟨ci, kk⟩ := cik
        rw [hq] at h
        cases hz : KT[a.2.1.toNat]? with
        | none => rw [hz] at h; cases h
        | some kd =>
          rw [hz] at h
          obtain ⟨t0, ci2, x, fs⟩ := kd
          rcases t0 with _ | t0
          · replace h : (if ci = ci2 then _ else none) = some L := h
            by_cases c2 : ci = ci2
            · rw [if_pos c2] at h
              subst c2
              cases hb0 : fs[kk]? with
              | none => rw [hb0] at h; cases h
              | some b0 =>
                rw [hb0] at h
                cases h
                exact vr_getfield hx hb hd hSG hFg z1 z2 hq hz hb0 (vi_one k)
            · rw [if_neg c2] at h; cases h
          · cases h
    · rw [if_neg c1] at h; cases h
  case putfield i =>
    dsimp only [vi_ins] at h
    rcases st with _ | ⟨⟨b, ob⟩, _ | ⟨⟨a, o⟩, st⟩⟩
    · cases h
    · cases h
    dsimp only at h
    by_cases c1 : len = 3 ∧ a.1 = 3 ∧ a.2.2 = 0
    · rw [if_pos c1] at h
      obtain ⟨rfl, z1, z2⟩ := c1
      cases hq : vi_find FP i with
      | none => rw [hq] at h; cases h
      | some cik =>
        obtain ⟨ci, kk, d9⟩ := cik
        rw [hq] at h
        cases hz : KT[a.2.1.toNat]? with
        | none => rw [hz] at h; cases h
        | some kd =>
          rw [hz] at h
          obtain ⟨t0, ci2, x, fs⟩ := kd
          rcases t0 with _ | t0
          · replace h : (if ci = ci2 ∧ d9 = a.2.1.toNat then _ else none) = some L := h
            by_cases c2 : ci = ci2 ∧ d9 = a.2.1.toNat
            · rw [if_pos c2] at h
              obtain ⟨rfl, rfl⟩ := c2
              cases hb0 : fs[kk]? with
              | none => rw [hb0] at h; cases h
              | some b0 =>
                rw [hb0] at h
                try dsimp only at h
                by_cases c3 : vi_le b b0 = true
                · rw [if_pos c3] at h
                  cases h
                  exact vr_putfield hZp hx hb hd hFp z1 z2 hq hz hb0 c3 (vi_one k)
                · rw [if_neg c3] at h; cases h
            · rw [if_neg c2] at h; cases h
          · cases h
    · rw [if_neg c1] at h; cases h
  case iaload =>
    dsimp only [vi_ins] at h
    rcases st with _ | ⟨⟨b, ob⟩, _ | ⟨⟨a, o⟩, st⟩⟩
    · cases h
    · cases h
    dsimp only at h
    by_cases c1 : len = 1 ∧ a.1 = 3 ∧ a.2.2 = 0 ∧ b.1 = 1 ∧ 0 ≤ b.2.1
    · rw [if_pos c1] at h
      obtain ⟨rfl, z1, z2, z3, z4⟩ := c1
      cases hz : KT[a.2.1.toNat]? with
      | none => rw [hz] at h; cases h
      | some kd =>
        rw [hz] at h
        obtain ⟨t0, ti, N, els⟩ := kd
        rcases t0 with _ | _ | t0
        · cases h
        · rcases ti with _ | ti
          · rcases els with _ | ⟨el, _ | ⟨e2, els⟩⟩
            · cases h
            · replace h : (if b.2.2 < N ∧ N < 2147483648 then _ else none) = some L := h
              by_cases c2 : b.2.2 < N ∧ N < 2147483648
              · rw [if_pos c2] at h
                cases h
                exact vr_iald hx hb hK hd z1 z2 z3 z4 hz c2.1 c2.2 (vi_one k)
              · rw [if_neg c2] at h; cases h
            · cases h
          · cases h
        · cases h
    · rw [if_neg c1] at h; cases h
  case caload =>
    dsimp only [vi_ins] at h
    rcases st with _ | ⟨⟨b, ob⟩, _ | ⟨⟨a, o⟩, st⟩⟩
    · cases h
    · cases h
    dsimp only at h
    by_cases c1 : len = 1 ∧ a.1 = 3 ∧ a.2.2 = 0 ∧ b.1 = 1 ∧ 0 ≤ b.2.1
    · rw [if_pos c1] at h
      obtain ⟨rfl, z1, z2, z3, z4⟩ := c1
      cases hz : KT[a.2.1.toNat]? with
      | none => rw [hz] at h; cases h
      | some kd =>
        rw [hz] at h
        obtain ⟨t0, ti, N, els⟩ := kd
        rcases t0 with _ | _ | t0
        · cases h
        · rcases ti with _ | _ | ti
          · cases h
          · rcases els with _ | ⟨el, _ | ⟨e2, els⟩⟩
            · cases h
            · replace h : (if b.2.2 < N ∧ N < 2147483648 then _ else none) = some L := h
              by_cases c2 : b.2.2 < N ∧ N < 2147483648
              · rw [if_pos c2] at h
                cases h
                exact vr_cald hx hb hK hd z1 z2 z3 z4 hz c2.1 c2.2 (vi_one k)
              · rw [if_neg c2] at h; cases h
            · cases h
          · cases h
        · cases h
    · rw [if_neg c1] at h; cases h
  case aaload =>
    dsimp only [vi_ins] at h
    rcases st with _ | ⟨⟨b, ob⟩, _ | ⟨⟨a, o⟩, st⟩⟩
    · cases h
    · cases h
    dsimp only at h
    by_cases c1 : len = 1 ∧ a.1 = 3 ∧ a.2.2 = 0 ∧ b.1 = 1 ∧ 0 ≤ b.2.1
    · rw [if_pos c1] at h
      obtain ⟨rfl, z1, z2, z3, z4⟩ := c1
      cases hz : KT[a.2.1.toNat]? with
      | none => rw [hz] at h; cases h
      | some kd =>
        rw [hz] at h
        obtain ⟨t0, ti, N, els⟩ := kd
        rcases t0 with _ | _ | _ | t0
        · cases h
        · cases h
        · rcases els with _ | ⟨el, _ | ⟨e2, els⟩⟩
          · cases h
          · replace h : (if b.2.2 < N ∧ N < 2147483648 then _ else none) = some L := h
            by_cases c2 : b.2.2 < N ∧ N < 2147483648
            · rw [if_pos c2] at h
              cases h
              exact vr_aald hx hb hK hd (hty _ _ _ _ hz) z1 z2 z3 z4 hz c2.1 c2.2 (vi_one k)
            · rw [if_neg c2] at h; cases h
          · cases h
        · cases h
    · rw [if_neg c1] at h; cases h
  case iastore =>
    dsimp only [vi_ins] at h
    rcases st with _ | ⟨⟨y, oy⟩, _ | ⟨⟨b, ob⟩, _ | ⟨⟨a, o⟩, st⟩⟩⟩
    · cases h
    · cases h
    · cases h
    dsimp only at h
    by_cases c1 : len = 1 ∧ a.1 = 3 ∧ a.2.2 = 0 ∧ b.1 = 1 ∧ 0 ≤ b.2.1 ∧ y.1 = 1
    · rw [if_pos c1] at h
      obtain ⟨rfl, z1, z2, z3, z4, z5⟩ := c1
      cases hz : KT[a.2.1.toNat]? with
      | none => rw [hz] at h; cases h
      | some kd =>
        rw [hz] at h
        obtain ⟨t0, ti, N, els⟩ := kd
        rcases t0 with _ | _ | t0
        · cases h
        · rcases ti with _ | ti
          · rcases els with _ | ⟨el, _ | ⟨e2, els⟩⟩
            · cases h
            · replace h : (if b.2.2 < N ∧ N < 2147483648 ∧ vi_le y el = true ∧ el.1 = 1 ∧ vi_aw FP a.2.1.toNat = true then _ else none) = some L := h
              by_cases c2 : b.2.2 < N ∧ N < 2147483648 ∧ vi_le y el = true ∧ el.1 = 1 ∧ vi_aw FP a.2.1.toNat = true
              · rw [if_pos c2] at h
                cases h
                exact vr_iast hZa hx hb hK hd z1 z2 z3 z4 z5 hz c2.1 c2.2.1 c2.2.2.1 c2.2.2.2.1 c2.2.2.2.2 (vi_one k)
              · rw [if_neg c2] at h; cases h
            · cases h
          · cases h
        · cases h
    · rw [if_neg c1] at h; cases h
  case castore =>
    dsimp only [vi_ins] at h
    rcases st with _ | ⟨⟨y, oy⟩, _ | ⟨⟨b, ob⟩, _ | ⟨⟨a, o⟩, st⟩⟩⟩
    · cases h
    · cases h
    · cases h
    dsimp only at h
    by_cases c1 : len = 1 ∧ a.1 = 3 ∧ a.2.2 = 0 ∧ b.1 = 1 ∧ 0 ≤ b.2.1 ∧ y.1 = 1
    · rw [if_pos c1] at h
      obtain ⟨rfl, z1, z2, z3, z4, z5⟩ := c1
      cases hz : KT[a.2.1.toNat]? with
      | none => rw [hz] at h; cases h
      | some kd =>
        rw [hz] at h
        obtain ⟨t0, ti, N, els⟩ := kd
        rcases t0 with _ | _ | t0
        · cases h
        · rcases ti with _ | _ | ti
          · cases h
          · rcases els with _ | ⟨el, _ | ⟨e2, els⟩⟩
            · cases h
            · replace h : (if b.2.2 < N ∧ N < 2147483648 ∧ vi_le y el = true ∧ el.1 = 1 ∧ 0 ≤ el.2.1 ∧ el.2.2 ≤ 65535 ∧ vi_aw FP a.2.1.toNat = true then _ else none) = some L := h
              by_cases c2 : b.2.2 < N ∧ N < 2147483648 ∧ vi_le y el = true ∧ el.1 = 1 ∧ 0 ≤ el.2.1 ∧ el.2.2 ≤ 65535 ∧ vi_aw FP a.2.1.toNat = true
              · rw [if_pos c2] at h
                cases h
                exact vr_cast hZa hx hb hK hd z1 z2 z3 z4 z5 hz c2.1 c2.2.1 c2.2.2.1 c2.2.2.2.1 c2.2.2.2.2.1 c2.2.2.2.2.2.1 c2.2.2.2.2.2.2 (vi_one k)
              · rw [if_neg c2] at h; cases h
            · cases h
          · cases h
        · cases h
    · rw [if_neg c1] at h; cases h
  all_goals (dsimp only [vi_ins] at h; cases h)
end VIJ
