section SGB
variable {D : va_G} {cy : Nat → ClassId} {σ σ2 : SG} {H H1 : Heap} {a q k : Nat}
theorem sgE_ob {ci : Nat} (h : sgT σ a = ci + 1) (h1 : ci + 1 < 100) : sgE cy σ a = .inr (ci, sgVs σ a 0 (sgC ci)) := by
  unfold sgE
  rw [h, if_pos h1, Nat.add_sub_cancel]
theorem sgE_ia {t : Nat} (h : sgT σ a = 100 + t) (h1 : sgIA t = true) : sgE cy σ a = .inl (cy t, sgN σ a, .inl (sgI σ a)) := by
  unfold sgE
  rw [h, if_neg (by omega), Nat.add_sub_cancel_left, if_pos h1]
theorem sgE_ra {t : Nat} (h : sgT σ a = 100 + t) (h1 : sgIA t = false) : sgE cy σ a = .inl (cy t, sgN σ a, .inr (.inr (.inr (.inr (sgR σ a))))) := by
  unfold sgE
  rw [h, if_neg (by omega), Nat.add_sub_cancel_left, if_neg (by rw [h1]; decide)]
/-- two heaps that say the same of b -/
theorem sgE_eq {b : Nat} (h1 : sgT σ2 b = sgT σ b) (h2 : ∀ j, sgI σ2 b j = sgI σ b j) (h3 : ∀ j, sgR σ2 b j = sgR σ b j) (h4 : ∀ j, sgJ σ2 b j = sgJ σ b j) (h5 : sgN σ2 b = sgN σ b) : sgE cy σ2 b = sgE cy σ b := by
  have e2 : sgI σ2 b = sgI σ b := funext h2
  have e3 : sgR σ2 b = sgR σ b := funext h3
  unfold sgE
  rw [h1, h5, e2, e3]
  congr 3
  refine sgVs_eq fun k t _ => ?_
  unfold sgV
  split
  · rw [h3]
  · rw [h4]
  · rw [h2]
theorem sgP_set (hP : sgP D cy σ H) {E : va_E} (hq : (sgL cy σ)[q]? = some (a, E)) (h1 : va_P D vwCl ((sgL cy σ).set q (a, sgE cy σ2 a)) H1) (hb : ∀ b, b ≠ a → sgT σ b ≠ 0 → sgE cy σ2 b = sgE cy σ b) (ht : ∀ b, sgT σ2 b = sgT σ b) (hO : sgOK σ2) : sgP D cy σ2 H1 := by
  refine ⟨fun b hb0 => ?_, hO⟩
  have hlt := (List.getElem?_eq_some_iff.mp hq).1
  rw [ht] at hb0
  by_cases e : b = a
  · subst e
    exact h1 q _ (List.getElem?_set_self hlt)
  · obtain ⟨j, hj⟩ := sgL_at (cy := cy) hP.2 hb0
    have hne : j ≠ q := fun z => by
      subst z
      have := hj.symm.trans hq
      cases this
      exact e rfl
    have := h1 j _ (by rw [List.getElem?_set_ne (Ne.symm hne)]; exact hj)
    rw [hb b e hb0]
    exact this
theorem sgV_PI {x : Int32} {b j t : Nat} (h : ¬ (b = a ∧ j = k)) : sgV (sgPI σ a k x) b j t = sgV σ b j t := by
  unfold sgV
  split
  · rfl
  · rfl
  · show Value.int (if b = a ∧ j = k then x else σ.2.1 b j) = _
    rw [if_neg h]; rfl
theorem sgV_PR {x : Option Nat} {b j t : Nat} (h : ¬ (b = a ∧ j = k)) : sgV (sgPR σ a k x) b j t = sgV σ b j t := by
  unfold sgV
  split
  · show va_rf (if b = a ∧ j = k then x else σ.2.2.1 b j) = _
    rw [if_neg h]; rfl
  · rfl
  · rfl
theorem sgV_PJ {x : Int64} {b j t : Nat} (h : ¬ (b = a ∧ j = k)) : sgV (sgPJ σ a k x) b j t = sgV σ b j t := by
  unfold sgV
  split
  · rfl
  · show Value.long (if b = a ∧ j = k then x else σ.2.2.2.1 b j) = _
    rw [if_neg h]; rfl
  · rfl
theorem sgI_PI {x : Int32} {b j : Nat} : sgI (sgPI σ a k x) b j = if b = a ∧ j = k then x else sgI σ b j := rfl
theorem sgR_PR {x : Option Nat} {b j : Nat} : sgR (sgPR σ a k x) b j = if b = a ∧ j = k then x else sgR σ b j := rfl
theorem sgJ_PJ {x : Int64} {b j : Nat} : sgJ (sgPJ σ a k x) b j = if b = a ∧ j = k then x else sgJ σ b j := rfl
theorem sgE_PI {x : Int32} {b : Nat} (h : b ≠ a) : sgE cy (sgPI σ a k x) b = sgE cy σ b :=
  sgE_eq rfl (fun j => by rw [sgI_PI, if_neg (fun z => h z.1)]) (fun _ => rfl) (fun _ => rfl) rfl
theorem sgE_PR {x : Option Nat} {b : Nat} (h : b ≠ a) : sgE cy (sgPR σ a k x) b = sgE cy σ b :=
  sgE_eq rfl (fun _ => rfl) (fun j => by rw [sgR_PR, if_neg (fun z => h z.1)]) (fun _ => rfl) rfl
theorem sgE_PJ {x : Int64} {b : Nat} (h : b ≠ a) : sgE cy (sgPJ σ a k x) b = sgE cy σ b :=
  sgE_eq rfl (fun _ => rfl) (fun _ => rfl) (fun j => by rw [sgJ_PJ, if_neg (fun z => h z.1)]) rfl
theorem sgVs_PI {x : Int32} {l : List Nat} (ht : ∀ t, l[k]? = some t → t ≠ 3 ∧ t ≠ 4) : sgVs (sgPI σ a k x) a 0 l = (sgVs σ a 0 l).set k (.int x) := by
  have := sgVs_set (σ := σ) (σ2 := sgPI σ a k x) (a := a) (k := k) (v := .int x) (l := l) (i := 0) (fun j t _ hne => sgV_PI (by omega)) (fun t _ h => ?_) (Nat.zero_le _)
  · rw [Nat.sub_zero] at this; exact this
  · obtain ⟨n3, n4⟩ := ht t h
    unfold sgV
    split
    · exact absurd rfl n3
    · exact absurd rfl n4
    · rw [sgI_PI, if_pos ⟨rfl, rfl⟩]
theorem sgVs_PR {x : Option Nat} {l : List Nat} (ht : ∀ t, l[k]? = some t → t = 3) : sgVs (sgPR σ a k x) a 0 l = (sgVs σ a 0 l).set k (va_rf x) := by
  have := sgVs_set (σ := σ) (σ2 := sgPR σ a k x) (a := a) (k := k) (v := va_rf x) (l := l) (i := 0) (fun j t _ hne => sgV_PR (by omega)) (fun t _ h => ?_) (Nat.zero_le _)
  · rw [Nat.sub_zero] at this; exact this
  · obtain rfl := ht t h
    show va_rf (sgR _ a k) = _
    rw [sgR_PR, if_pos ⟨rfl, rfl⟩]
theorem sgVs_PJ {x : Int64} {l : List Nat} (ht : ∀ t, l[k]? = some t → t = 4) : sgVs (sgPJ σ a k x) a 0 l = (sgVs σ a 0 l).set k (.long x) := by
  have := sgVs_set (σ := σ) (σ2 := sgPJ σ a k x) (a := a) (k := k) (v := .long x) (l := l) (i := 0) (fun j t _ hne => sgV_PJ (by omega)) (fun t _ h => ?_) (Nat.zero_le _)
  · rw [Nat.sub_zero] at this; exact this
  · obtain rfl := ht t h
    show Value.long (sgJ _ a k) = _
    rw [sgJ_PJ, if_pos ⟨rfl, rfl⟩]
theorem sgOK_PI {x : Int32} (h : sgOK σ) (hx : ∀ t : Nat, sgT σ a ≠ 0 → sgT σ a < 100 → (sgC (sgT σ a - 1))[k]? = some t → sgF t x) (h1 : sgT σ a = 101 → sgF 1 x) (h2 : sgT σ a = 111 → sgF 2 x) : sgOK (sgPI σ a k x) := by
  refine ⟨fun b j t hb hb1 ht => ?_, fun b j hb => ?_, fun b j hb => ?_, h.2.2.2⟩
  · rw [sgI_PI]
    by_cases e : b = a ∧ j = k
    · obtain ⟨rfl, rfl⟩ := e
      rw [if_pos ⟨rfl, rfl⟩]
      exact hx t hb hb1 ht
    · rw [if_neg e]; exact h.1 b j t hb hb1 ht
  · rw [sgI_PI]
    by_cases e : b = a ∧ j = k
    · obtain ⟨rfl, rfl⟩ := e
      rw [if_pos ⟨rfl, rfl⟩]; exact h1 hb
    · rw [if_neg e]; exact h.2.1 b j hb
  · rw [sgI_PI]
    by_cases e : b = a ∧ j = k
    · obtain ⟨rfl, rfl⟩ := e
      rw [if_pos ⟨rfl, rfl⟩]; exact h2 hb
    · rw [if_neg e]; exact h.2.2.1 b j hb
theorem sgOK_PR {x : Option Nat} (h : sgOK σ) : sgOK (sgPR σ a k x) := h
theorem sgOK_PJ {x : Int64} (h : sgOK σ) : sgOK (sgPJ σ a k x) := h
/-- what lies behind the start: the heap's cells, their addresses, what may be changed -/
def sgG (D : va_G) (cy : Nat → ClassId) (A0 : Nat → Prop) (H0 : Heap) (σ : SG) (H : Heap) (locs : List Loc) : Prop := sgP D cy σ H ∧ (∀ a, sgT σ a ≠ 0 → A0 a) ∧ va_S A0 H0 H locs
end SGB
section SGC
variable {p : Program} {l : Launch} {e : Env} {R : Room} {s : State} {m : MethodId} {args : Array Value} {below : List Frame} {meth : Method} {c : Code} {H : Heap} {locs : List Loc} {cells slots : Nat} {Q : State → Prop} {cc : ByteArray} {pc : Nat} {ls : Array Slot} {rest : List Value}
variable {D : va_G} {cy : Nat → ClassId} {A0 : Nat → Prop} {H0 : Heap} {σ : SG} {a k t ci N index : Nat} {own ref C host : String} {T : u_T} {Ts : List Cond}
/-- a field's value: int, reference, long -/
theorem sg_get (hexec : p.tables.exec = Jvm.exec) (hb : c.code = cc) (hts : ∀ w ∈ Ts, w.before args s = true) (hin : ∀ w ∈ u_ws C T N, w ∈ Ts) (hown : s.vm.findClass own = some m.cls) (hK : va_K D vwCl (tyL cy) s) (hG : sgG D cy A0 H0 σ H locs) (hc : vwCl[ci]? = some (C, T, N)) (hk : k < N) (hlink : (Cond.fieldLink own index ref (T k).2.1 (T k).2.2.1).before args s = true) (hsame : ∀ x, s.fieldFound? (T k).1 (T k).2.1 (T k).2.2.1 = some x → s.fieldFound? ref (T k).2.1 (T k).2.2.1 = some x) (ht : (sgC ci)[k]? = some t) (h100 : ci + 1 < 100) (hdg : decode cc pc = .ok (.getfield index, 3)) (ha : sgT σ a = ci + 1)
    (kk : W p l e R s m args below meth c H locs cells slots Q (F0 m (pc + 3) ls (sgV σ a k t :: rest))) : W p l e R s m args below meth c H locs cells slots Q (F0 m pc ls (.ref a :: rest)) := by
  obtain ⟨q, hq⟩ := sgL_at (cy := cy) hG.1.2 (a := a) (by omega)
  rw [sgE_ob ha h100] at hq
  exact va_get hexec hb hts hin hown hK (sgL_P hG.1) q hq hc k hk hlink hsame (by have := sgVs_at (σ := σ) (a := a) (i := 0) ht; rw [Nat.zero_add] at this; exact this) hdg kk
theorem sg_getN (hexec : p.tables.exec = Jvm.exec) (hb : c.code = cc) (hts : ∀ w ∈ Ts, w.before args s = true) (hin : ∀ w ∈ u_ws C T N, w ∈ Ts) (hown : s.vm.findClass own = some m.cls) (hK : va_K D vwCl (tyL cy) s) (hG : sgG D cy A0 H0 σ H locs) (hc : vwCl[ci]? = some (C, T, N)) (hk : k < N) (hlink : (Cond.fieldLinkNest own index ref (T k).2.1 (T k).2.2.1 host).before args s = true) (hsame : ∀ x, s.fieldFound? (T k).1 (T k).2.1 (T k).2.2.1 = some x → s.fieldFound? ref (T k).2.1 (T k).2.2.1 = some x) (ht : (sgC ci)[k]? = some t) (h100 : ci + 1 < 100) (hdg : decode cc pc = .ok (.getfield index, 3)) (ha : sgT σ a = ci + 1)
    (kk : W p l e R s m args below meth c H locs cells slots Q (F0 m (pc + 3) ls (sgV σ a k t :: rest))) : W p l e R s m args below meth c H locs cells slots Q (F0 m pc ls (.ref a :: rest)) := by
  obtain ⟨q, hq⟩ := sgL_at (cy := cy) hG.1.2 (a := a) (by omega)
  rw [sgE_ob ha h100] at hq
  exact va_getN hexec hb hts hin hown hK (sgL_P hG.1) q hq hc k hk hlink hsame (by have := sgVs_at (σ := σ) (a := a) (i := 0) ht; rw [Nat.zero_add] at this; exact this) hdg kk
end SGC
section SGD
variable {p : Program} {l : Launch} {e : Env} {R : Room} {s : State} {m : MethodId} {args : Array Value} {below : List Frame} {meth : Method} {c : Code} {H : Heap} {locs : List Loc} {cells slots : Nat} {Q : State → Prop} {cc : ByteArray} {pc : Nat} {ls : Array Slot} {rest : List Value}
variable {D : va_G} {cy : Nat → ClassId} {A0 : Nat → Prop} {H0 : Heap} {σ σ2 : SG} {a k t ci N index : Nat} {own ref C host : String} {T : u_T} {Ts : List Cond} {ty0 : Nat → FieldType} {v : Value}
/-- a written field: what the new heap must say -/
def sgW1 (cy : Nat → ClassId) (σ σ2 : SG) (a k ci : Nat) (v : Value) : Prop := sgVs σ2 a 0 (sgC ci) = (sgVs σ a 0 (sgC ci)).set k v ∧ (∀ b, b ≠ a → sgE cy σ2 b = sgE cy σ b) ∧ (∀ b, sgT σ2 b = sgT σ b) ∧ sgOK σ2
theorem sgW1_G {q : Nat} {H1 : Heap} {locs1 : List Loc} (hG : sgG D cy A0 H0 σ H locs) (hw : sgW1 cy σ σ2 a k ci v) (ha : sgT σ a = ci + 1) (h100 : ci + 1 < 100) (hq : (sgL cy σ)[q]? = some (a, .inr (ci, sgVs σ a 0 (sgC ci)))) (h1 : va_P D vwCl ((sgL cy σ).set q (a, .inr (ci, (sgVs σ a 0 (sgC ci)).set k v))) H1) (h3 : va_S A0 H0 H1 locs1) : sgG D cy A0 H0 σ2 H1 locs1 := by
  obtain ⟨w1, w2, w3, w4⟩ := hw
  refine ⟨sgP_set (q := q) (a := a) hG.1 hq ?_ (fun b hb _ => w2 b hb) w3 w4, fun b hb => hG.2.1 b (by rw [← w3]; exact hb), h3⟩
  rw [sgE_ob (by rw [w3]; exact ha) h100, w1]
  exact h1
theorem sg_put (hexec : p.tables.exec = Jvm.exec) (hb : c.code = cc) (hts : ∀ w ∈ Ts, w.before args s = true) (hin : ∀ w ∈ u_ws C T N, w ∈ Ts) (hty : ∀ k, k < N → parseFieldDescriptor (T k).2.2.1 = some (ty0 k)) (hnm : ∀ a, a < N → ∀ b, b < N → a ≠ b → (T a).2.1 ≠ (T b).2.1) (hown : s.vm.findClass own = some m.cls) (hK : va_K D vwCl (tyL cy) s) (hG : sgG D cy A0 H0 σ H locs) (hc : vwCl[ci]? = some (C, T, N)) (hk : k < N) (hlink : (Cond.fieldLink own index ref (T k).2.1 (T k).2.2.1).before args s = true) (hsame : ∀ x, s.fieldFound? (T k).1 (T k).2.1 (T k).2.2.1 = some x → s.fieldFound? ref (T k).2.1 (T k).2.2.1 = some x) (hfin : (T k).2.2.2 = false) (hl : k < (sgC ci).length) (h100 : ci + 1 < 100) (hdg : decode cc pc = .ok (.putfield index, 3)) (ha : sgT σ a = ci + 1) (hv : narrow (ty0 k) v = v ∧ fits (ty0 k) v = true) (hw : sgW1 cy σ σ2 a k ci v)
    (kk : ∀ (H1 : Heap) (locs1 : List Loc), sgG D cy A0 H0 σ2 H1 locs1 → W p l e R s m args below meth c H1 locs1 cells slots Q (F0 m (pc + 3) ls rest)) : W p l e R s m args below meth c H locs cells slots Q (F0 m pc ls (v :: .ref a :: rest)) := by
  obtain ⟨q, hq⟩ := sgL_at (cy := cy) hG.1.2 (a := a) (by omega)
  rw [sgE_ob ha h100] at hq
  refine va_put hexec hb hts hin ty0 hty hnm hown hK (sgL_P hG.1) (sgL_D hG.2.1) hG.2.2 q hq hc k hk hlink hsame hfin (hty k hk) hv.1 hv.2 (by rw [sgVs_len]; exact hl) hdg (fun H1 locs1 h1 _ h3 => ?_)
  exact kk H1 locs1 (sgW1_G hG hw ha h100 hq h1 h3)
theorem sg_putN (hexec : p.tables.exec = Jvm.exec) (hb : c.code = cc) (hts : ∀ w ∈ Ts, w.before args s = true) (hin : ∀ w ∈ u_ws C T N, w ∈ Ts) (hty : ∀ k, k < N → parseFieldDescriptor (T k).2.2.1 = some (ty0 k)) (hnm : ∀ a, a < N → ∀ b, b < N → a ≠ b → (T a).2.1 ≠ (T b).2.1) (hown : s.vm.findClass own = some m.cls) (hK : va_K D vwCl (tyL cy) s) (hG : sgG D cy A0 H0 σ H locs) (hc : vwCl[ci]? = some (C, T, N)) (hk : k < N) (hlink : (Cond.fieldLinkNest own index ref (T k).2.1 (T k).2.2.1 host).before args s = true) (hsame : ∀ x, s.fieldFound? (T k).1 (T k).2.1 (T k).2.2.1 = some x → s.fieldFound? ref (T k).2.1 (T k).2.2.1 = some x) (hfin : (T k).2.2.2 = false) (hl : k < (sgC ci).length) (h100 : ci + 1 < 100) (hdg : decode cc pc = .ok (.putfield index, 3)) (ha : sgT σ a = ci + 1) (hv : narrow (ty0 k) v = v ∧ fits (ty0 k) v = true) (hw : sgW1 cy σ σ2 a k ci v)
    (kk : ∀ (H1 : Heap) (locs1 : List Loc), sgG D cy A0 H0 σ2 H1 locs1 → W p l e R s m args below meth c H1 locs1 cells slots Q (F0 m (pc + 3) ls rest)) : W p l e R s m args below meth c H locs cells slots Q (F0 m pc ls (v :: .ref a :: rest)) := by
  obtain ⟨q, hq⟩ := sgL_at (cy := cy) hG.1.2 (a := a) (by omega)
  rw [sgE_ob ha h100] at hq
  refine va_putN hexec hb hts hin ty0 hty hnm hown hK (sgL_P hG.1) (sgL_D hG.2.1) hG.2.2 q hq hc k hk hlink hsame hfin (hty k hk) hv.1 hv.2 (by rw [sgVs_len]; exact hl) hdg (fun H1 locs1 h1 _ h3 => ?_)
  exact kk H1 locs1 (sgW1_G hG hw ha h100 hq h1 h3)
theorem sg_putF (hexec : p.tables.exec = Jvm.exec) (hb : c.code = cc) (hts : ∀ w ∈ Ts, w.before args s = true) (hin : ∀ w ∈ u_ws C T N, w ∈ Ts) (hty : ∀ k, k < N → parseFieldDescriptor (T k).2.2.1 = some (ty0 k)) (hnm : ∀ a, a < N → ∀ b, b < N → a ≠ b → (T a).2.1 ≠ (T b).2.1) (hown : s.vm.findClass own = some m.cls) (hK : va_K D vwCl (tyL cy) s) (hG : sgG D cy A0 H0 σ H locs) (hc : vwCl[ci]? = some (C, T, N)) (hk : k < N) (hlink : (Cond.fieldLink own index ref (T k).2.1 (T k).2.2.1).before args s = true) (hsame : ∀ x, s.fieldFound? (T k).1 (T k).2.1 (T k).2.2.1 = some x → s.fieldFound? ref (T k).2.1 (T k).2.2.1 = some x) (hfin : (T k).2.2.2 = true) (hin2 : meth.name = "<init>") (hdecl : (T k).1 = own) (hl : k < (sgC ci).length) (h100 : ci + 1 < 100) (hdg : decode cc pc = .ok (.putfield index, 3)) (ha : sgT σ a = ci + 1) (hv : narrow (ty0 k) v = v ∧ fits (ty0 k) v = true) (hw : sgW1 cy σ σ2 a k ci v)
    (kk : ∀ (H1 : Heap) (locs1 : List Loc), sgG D cy A0 H0 σ2 H1 locs1 → W p l e R s m args below meth c H1 locs1 cells slots Q (F0 m (pc + 3) ls rest)) : W p l e R s m args below meth c H locs cells slots Q (F0 m pc ls (v :: .ref a :: rest)) := by
  obtain ⟨q, hq⟩ := sgL_at (cy := cy) hG.1.2 (a := a) (by omega)
  rw [sgE_ob ha h100] at hq
  refine va_putF hexec hb hts hin ty0 hty hnm hown hK (sgL_P hG.1) (sgL_D hG.2.1) hG.2.2 q hq hc k hk hlink hsame hfin hin2 hdecl (hty k hk) hv.1 hv.2 (by rw [sgVs_len]; exact hl) hdg (fun H1 locs1 h1 _ h3 => ?_)
  exact kk H1 locs1 (sgW1_G hG hw ha h100 hq h1 h3)
theorem sgW1_I {x : Int32} (hO : sgOK σ) (ha : sgT σ a = ci + 1) (h100 : ci + 1 < 100) (ht : (sgC ci)[k]? = some t) (h3 : t < 3) (hx : sgF t x) : sgW1 cy σ (sgPI σ a k x) a k ci (.int x) := by
  refine ⟨sgVs_PI (fun t2 h2 => by cases ht.symm.trans h2; omega), fun b hb => sgE_PI hb, fun _ => rfl, sgOK_PI hO (fun t2 _ _ h2 => ?_) (fun h => by omega) (fun h => by omega)⟩
  rw [ha, Nat.add_sub_cancel] at h2
  cases ht.symm.trans h2
  exact hx
theorem sgW1_R {x : Option Nat} (hO : sgOK σ) (ht : (sgC ci)[k]? = some 3) : sgW1 cy σ (sgPR σ a k x) a k ci (va_rf x) :=
  ⟨sgVs_PR (fun t2 h2 => by cases ht.symm.trans h2; rfl), fun b hb => sgE_PR hb, fun _ => rfl, sgOK_PR hO⟩
theorem sgW1_J {x : Int64} (hO : sgOK σ) (ht : (sgC ci)[k]? = some 4) : sgW1 cy σ (sgPJ σ a k x) a k ci (.long x) :=
  ⟨sgVs_PJ (fun t2 h2 => by cases ht.symm.trans h2; rfl), fun b hb => sgE_PJ hb, fun _ => rfl, sgOK_PJ hO⟩
end SGD
