section CSI5
/-! p54: rows for references that may be null, answers of the checker's contracts, rows of bytes -/
section
variable {p : Program} {l : Launch} {e : Env} {R : Room} {s : State} {m : MethodId} {args : Array Value} {below : List Frame} {meth : Method} {c : Code} {H : Heap} {locs : List Loc} {cells slots : Nat} {Q : State → Prop} {cc : ByteArray} {pc : Nat} {ls : Array Slot} {rest : List Value} {r : Option Nat}
theorem cl_aldQ4 (hx : p.tables.exec = Jvm.exec) (hb : c.code = cc) {i : Nat} (hdg : decode cc pc = .ok (.aload i, 2)) (hi : ls[i]? = some (.val (va_rf r))) (kk : W p l e R s m args below meth c H locs cells slots Q (F0 m (pc + 2) ls (va_rf r :: rest))) : W p l e R s m args below meth c H locs cells slots Q (F0 m pc ls rest) := by
  cases r with
  | none => exact lv_aloadN hx hb hdg hi kk
  | some a => exact lv_aload hx hb hdg hi kk
theorem cl_astQ (hx : p.tables.exec = Jvm.exec) (hb : c.code = cc) {k : Fin 4} {i nL : Nat} {lv lv' : List (Nat × Value)} (hdg : decode cc pc = .ok (.astore_n k, 1)) (hi : (k : Nat) = i) (h : lv_has ls nL lv) (hn : i < nL) (hl : (i, va_rf r) :: lv.filter (fun q => !(q.1 == i) && !(q.1 + 1 == i && q.2.category == 2)) = lv')
    (kk : ∀ ls' : Array Slot, lv_has ls' nL lv' → W p l e R s m args below meth c H locs cells slots Q (F0 m (pc + 1) ls' rest)) : W p l e R s m args below meth c H locs cells slots Q (F0 m pc ls (va_rf r :: rest)) := by
  cases r with
  | none => exact lv_astore_nN hx hb hdg hi h hn hl kk
  | some a => exact lv_astore_n hx hb hdg hi h hn hl kk
theorem cl_astQ4 (hx : p.tables.exec = Jvm.exec) (hb : c.code = cc) {i nL : Nat} {lv lv' : List (Nat × Value)} (hdg : decode cc pc = .ok (.astore i, 2)) (h : lv_has ls nL lv) (hn : i < nL) (hl : (i, va_rf r) :: lv.filter (fun q => !(q.1 == i) && !(q.1 + 1 == i && q.2.category == 2)) = lv')
    (kk : ∀ ls' : Array Slot, lv_has ls' nL lv' → W p l e R s m args below meth c H locs cells slots Q (F0 m (pc + 2) ls' rest)) : W p l e R s m args below meth c H locs cells slots Q (F0 m pc ls (va_rf r :: rest)) := by
  cases r with
  | none => exact lv_astoreN hx hb hdg h hn hl kk
  | some a => exact lv_astore hx hb hdg h hn hl kk
end
variable {cy : Nat → ClassId} {ad τ : List Nat} {Y : CY} {σ σ1 σ2 σ3 σ26 : SG} {B B2 : Int} {i j k h t a b e d n ci kd : Nat} {x y f g z : Int32} {M : List (Nat × Nat × Nat)}
theorem okr (h : ∃ q : Nat, τ[q]? = some kd ∧ ad[q]? = some a) : vi_ok ad τ (3, (kd : Int), 0) (.ref a) := by
  obtain ⟨q, w1, w2⟩ := h
  exact Or.inr ⟨q, a, w1, w2, rfl⟩
theorem vi_ints {alts : List VAlt} {alt : VAlt} {av : List Value} {w : va_W} {v : Option Value} (hall : (alts.all fun a => match a.1 with | b :: _ => b.1 == 1 | [] => false) = true) (ha : alt ∈ alts) (h : vi_alt ad τ av w alt v) : ∃ z : Int32, v = some (.int z) := by
  have h1 := List.all_eq_true.mp hall _ ha
  obtain ⟨ar, a2, a3, a4⟩ := alt
  rcases ar with _ | ⟨b, ar⟩
  · cases h1
  · obtain ⟨x, rfl, hx, -⟩ := h.1
    obtain ⟨y, e, -⟩ := vi_i (by simpa using h1) hx
    exact ⟨y, by rw [e]⟩
theorem vi_voids {alts : List VAlt} {alt : VAlt} {av : List Value} {w : va_W} {v : Option Value} (hall : (alts.all fun a => a.1.isEmpty) = true) (ha : alt ∈ alts) (h : vi_alt ad τ av w alt v) : v = none := by
  have h1 := List.all_eq_true.mp hall _ ha
  obtain ⟨ar, a2, a3, a4⟩ := alt
  rcases ar with _ | ⟨b, ar⟩
  · exact h.1
  · cases h1
theorem dv_T (hV : VL cy ad τ Y σ) (ha : sgT σ a = 7) (h : sgR σ a 8 = some b) : sgT σ b = 7 := (VT_rf (ci := 6) (k := 8) (kd := 4) hV.1 ha (by decide) rfl (by decide +kernel) h).1
theorem hubS (h : siT Y σ) (hi : i < 16) (hr : sgR σ (yd Y i) 8 = some b) : some b = none ∨ ∃ m, m < 16 ∧ some b = some (yd Y m) := by
  rcases SI_hub h hi with w | ⟨m, m1, m2⟩
  · rw [w] at hr; cases hr
  · exact Or.inr ⟨m, m1, hr.symm.trans m2⟩
theorem ty_T (hV : VL cy ad τ Y σ) : sgT σ (ya Y) = 6 ∧ ∃ q : Nat, τ[q]? = some 1 ∧ ad[q]? = some (ya Y) := VT_rf (ci := 14) (k := 8) (kd := 1) hV.1 hV.2.1.1 (by decide) rfl (by decide +kernel) hV.2.1.2.2.2.2.1
theorem en_row (hV : VL cy ad τ Y σ) (hi : i < 16) (hk : k < 3) : ∃ q : Nat, τ[q]? = some 3 ∧ ad[q]? = some (yr Y i k) := by
  obtain ⟨te, re, tr⟩ := hV.2.2.2.2.2.1 i k hi hk
  obtain ⟨b3, z1, -, z2⟩ := VT_nn (ci := 7) (k := 7) (kd := 3) hV.1 te (by decide) rfl (by decide +kernel)
  have e3 : b3 = yr Y i k := Option.some.inj (z1.symm.trans re)
  rw [← e3]
  exact z2
theorem VT_ink {lo hi : Int} {x0 : Nat} {fs : List VA} (h : VT cy ad τ σ) (ha : sgT σ a = ci + 1) (h1 : ci + 1 < 100) (ht : (sgC ci)[k]? = some t) (h3 : t < 3) (hq : ∃ q : Nat, τ[q]? = some kd ∧ ad[q]? = some a) (hk : vK[kd]? = some (0, ci, x0, fs)) (hf : fs[k]? = some (1, lo, hi)) : lo ≤ (sgI σ a k).toInt ∧ (sgI σ a k).toInt ≤ hi := by
  obtain ⟨q, w1, w2⟩ := hq
  obtain ⟨kk, g5, g6⟩ := h.1.2.2.1 q kd _ w1 (cwL_at (cy := cy) (σ := σ) w2)
  cases g5.symm.trans hk
  obtain ⟨vs, e5, e6, e7⟩ := g6
  have e5 : sgE cy σ a = .inr (ci, vs) := e5
  rw [sgE_ob ha h1] at e5
  have e8 : sgVs σ a 0 (sgC ci) = vs := (Prod.mk.inj (Sum.inr.inj e5)).2
  have y3 : vs[k]? = some (sgV σ a k t) := by
    rw [← e8, sgVs_at ht, Nat.zero_add]
  obtain ⟨x, z1, z2, z3⟩ := e7 k _ _ hf y3
  have z4 : sgI σ a k = x := by
    match t, h3, z1 with
    | 0, _, w1 => exact Value.int.inj w1
    | 1, _, w1 => exact Value.int.inj w1
    | 2, _, w1 => exact Value.int.inj w1
  rw [z4]
  exact ⟨z2, z3⟩
theorem ty_sz (hV : VL cy ad τ Y σ) : 0 ≤ (sgI σ (ya Y) 2).toInt ∧ (sgI σ (ya Y) 2).toInt ≤ 16 := VT_ink (ci := 5) (k := 2) (t := 0) (kd := 1) hV.1 (ty_T hV).1 (by decide) rfl (by decide) (ty_T hV).2 rfl rfl
theorem c_and15 (x : Int32) : 0 ≤ (x &&& 15).toInt ∧ (x &&& 15).toInt ≤ 15 := by
  have h := vi_and_le x 15 (by decide)
  have e : (15 : Int32).toInt = 15 := rfl
  omega
theorem c_and31 (x : Int32) : 0 ≤ (x &&& 31).toInt ∧ (x &&& 31).toInt ≤ 31 := by
  have h := vi_and_le x 31 (by decide)
  have e : (31 : Int32).toInt = 31 := rfl
  omega
/-- a write into a cell of a known kind -/
theorem VT_setk {kd : Nat} (h : VT cy ad τ σ) (hq : ∃ q : Nat, τ[q]? = some kd ∧ ad[q]? = some a) (hT : ∀ b, sgT σ2 b = sgT σ b) (hN : ∀ b, sgN σ2 b = sgN σ b) (hU : sgU σ2 = sgU σ) (hE : ∀ b, b ≠ a → sgE cy σ2 b = sgE cy σ b) (hz : ∀ b j, 100 ≤ sgT σ b → sgN σ b ≤ j → sgI σ2 b j = 0) (hc : ∀ (k : VK), vK[kd]? = some k → vi_cell ad τ cy k (sgE cy σ a) → vi_cell ad τ cy k (sgE cy σ2 a)) : VT cy ad τ σ2 := by
  refine ⟨⟨cwL_fst, h.1.2.1, fun q d e hq1 he => ?_, True.intro⟩, h.2.1, fun b hb => h.2.2.1 b (by rw [← hT]; exact hb), fun q d b hq1 hb => by rw [hT, hN]; exact h.2.2.2.1 q d b hq1 hb, fun b j h1 h2 => hz b j (by rw [← hT]; exact h1) (by rw [← hN]; exact h2), fun b hb => by rw [hU]; exact h.2.2.2.2.2 b hb⟩
  obtain ⟨x1, x2⟩ := cwL_to he
  obtain ⟨e0, e9⟩ := e
  have x2 : e9 = sgE cy σ2 e0 := x2
  have x1 : ad[q]? = some e0 := x1
  subst x2
  obtain ⟨k, y1, y2⟩ := h.1.2.2.1 q d _ hq1 (cwL_at x1)
  refine ⟨k, y1, ?_⟩
  show vi_cell ad τ cy k (sgE cy σ2 e0)
  by_cases c : e0 = a
  · subst c
    obtain ⟨q0, w1, w2⟩ := hq
    have := (List.getElem?_inj (List.getElem?_eq_some_iff.mp w2).1 h.2.1).mp (w2.trans x1.symm)
    subst this
    cases w1.symm.trans hq1
    exact hc k y1 y2
  · rw [hE e0 c]
    exact y2
theorem VT_PIk {kd x0 : Nat} {fs : List VA} (h : VT cy ad τ σ) (ha : sgT σ a = ci + 1) (h1 : ci + 1 < 100) (ht : (sgC ci)[k]? = some t) (h3 : t < 3) (hq : ∃ q : Nat, τ[q]? = some kd ∧ ad[q]? = some a) (hk : vK[kd]? = some (0, ci, x0, fs)) (hx : ∀ b : VA, fs[k]? = some b → vi_ok ad τ b (.int x)) : VT cy ad τ (sgPI σ a k x) := by
  refine VT_setk (a := a) h hq (fun _ => rfl) (fun _ => rfl) rfl (fun b hb => sgE_PI hb) (fun b j g1 g2 => ?_) (fun kd g3 g4 => ?_)
  · rw [sgI_PI, if_neg (fun z => by rw [z.1, ha] at g1; omega)]
    exact h.2.2.2.2.1 b j g1 g2
  · cases g3.symm.trans hk
    obtain ⟨vs, e5, e6, e7⟩ := g4
    rw [sgE_ob ha h1] at e5
    have e8 : sgVs σ a 0 (sgC ci) = vs := (Prod.mk.inj (Sum.inr.inj e5)).2
    have e9 : sgE cy (sgPI σ a k x) a = .inr (ci, vs.set k (.int x)) := by
      rw [sgE_ob (σ := sgPI σ a k x) ha h1, sgVs_PI (fun t2 h2 => by cases ht.symm.trans h2; omega), e8]
    refine ⟨vs.set k (.int x), e9, by rw [List.length_set]; exact e6, fun i b v y1 y2 => ?_⟩
    by_cases c : k = i
    · subst c
      have hlt : k < vs.length := by have e6 : vs.length = fs.length := e6; rw [e6]; exact (List.getElem?_eq_some_iff.mp y1).1
      rw [List.getElem?_set_self hlt] at y2
      cases y2
      exact hx b y1
    · rw [List.getElem?_set_ne c] at y2
      exact e7 i b v y1 y2
theorem pk_X0_19 {p : Program} {l : Launch} {e : Env} {R : Room} {s : State} {m : MethodId} {args : Array Value} {below : List Frame} {meth : Method} {c : Code} {H : Heap} {locs : List Loc} {Q : State → Prop} {cc : ByteArray} {pc nL k N a : Nat} {ls : Array Slot} {rest : List Value} {D : va_G} {cy : Nat → ClassId} {ad τ : List Nat} {Y : CY} {σ : SG} {W0 : Cond} {x : Int32} (F : clFx p s m args meth c cc nL RX0 (W0 :: vWall) D cy) (hB : clB D cy ad τ Y s σ H locs) (hdg : decode cc pc = .ok (.putfield 19, 3)) (ha : sgT σ a = 6) (hq : ∃ q : Nat, τ[q]? = some 3 ∧ ad[q]? = some a) (kk : ∀ (H : Heap) (locs : List Loc), clB D cy ad τ Y s (sgPI σ a 2 x) H locs → W p l e R s m args below meth c H locs k N Q (F0 m (pc + 3) ls (rest))) : W p l e R s m args below meth c H locs k N Q (F0 m (pc) ls (.int x :: .ref a :: rest)) := sg_put (T := TX0) (N := 4) (ci := 5) (k := 2) (ty0 := tyX0) (σ2 := sgPI σ a 2 x) F.1.1 F.1.2.1 F.1.2.2.2.2 (fun w h => List.mem_cons_of_mem _ (vmu_0 w h)) tyX0_ok nmX0 F.1.2.2.2.1 F.2.1 hB.1 rfl (by decide) (F.1.2.2.2.2 _ (List.mem_cons_of_mem _ (vm_0 _ (List.mem_of_getElem? (i := 8) rfl)))) (fun _ h9 => h9) rfl (by decide) (by decide) hdg ha ⟨rfl, rfl⟩ (sgW1_I hB.1.1.2 ha (by decide) rfl (by decide) trivial) (fun H1 locs1 h1 => kk H1 locs1 (clB_w h1 (VT_PIk (t := 0) hB.2.1 ha (by decide) rfl (by decide) hq rfl (fun b hb => by cases hb; exact ⟨_, rfl, cl_full _⟩)) (LY_PI hB.2.2 (Or.inl (by decide)))))
theorem flt_q {y z i2 : Int32} {a b : Nat} {r : Option Nat} : (2, Value.int y) :: List.filter (fun q => !(q.1 == 2) && !(q.1 + 1 == 2 && q.2.category == 2)) [(4, Value.int z), (3, Value.ref a), (2, Value.int i2), (1, va_rf r), (0, Value.ref b)] = [(2, Value.int y), (4, Value.int z), (3, Value.ref a), (1, va_rf r), (0, Value.ref b)] := by
  cases r <;> rfl
end CSI5
