section SGN
variable {p : Program} {l : Launch} {e : Env} {R : Room} {s : State} {m : MethodId} {args : Array Value} {below : List Frame} {meth : Method} {c : Code} {H : Heap} {locs : List Loc} {Q : State → Prop} {cc bytes : ByteArray} {pc : Nat} {ls : Array Slot} {rest : List Value}
variable {D : va_G} {cy : Nat → ClassId} {σ0 σ : SG} {eda ca : Nat} {ia : Nat → Nat} {Ts : List Cond} {n nL index k N a q ci t N9 sc mc : Nat} {own C : String} {T : u_T} {ty0 : Nat → FieldType} {H1 : Heap}
theorem sgNw_T {b : Nat} : sgT (sgNw σ q t n) b = if b = q then t else sgT σ b := rfl
theorem sgNw_I {b j : Nat} : sgI (sgNw σ q t n) b j = if b = q then 0 else sgI σ b j := rfl
theorem sgNw_R {b j : Nat} : sgR (sgNw σ q t n) b j = if b = q then none else sgR σ b j := rfl
theorem sgNw_J {b j : Nat} : sgJ (sgNw σ q t n) b j = if b = q then 0 else sgJ σ b j := rfl
theorem sgNw_N {b : Nat} : sgN (sgNw σ q t n) b = if b = q then n else sgN σ b := rfl
def sgD0 (t : Nat) : Value := match t with | 3 => .null | 4 => .long 0 | _ => .int 0
theorem sgV_nw {i : Nat} (t0 : Nat) : sgV (sgNw σ q t n) q i t0 = sgD0 t0 := by
  have h0 : sgI (sgNw σ q t n) q i = 0 := by rw [sgNw_I, if_pos rfl]
  have h3 : sgR (sgNw σ q t n) q i = none := by rw [sgNw_R, if_pos rfl]
  have h4 : sgJ (sgNw σ q t n) q i = 0 := by rw [sgNw_J, if_pos rfl]
  match t0 with
  | 0 => exact congrArg Value.int h0
  | 1 => exact congrArg Value.int h0
  | 2 => exact congrArg Value.int h0
  | 3 => exact congrArg va_rf h3
  | 4 => exact congrArg Value.long h4
  | n + 5 => exact congrArg Value.int h0
theorem sgVs_nw : ∀ {l : List Nat} {i : Nat}, sgVs (sgNw σ q t n) q i l = l.map sgD0
  | [], _ => rfl
  | t0 :: l, i => by
    unfold sgVs
    rw [sgVs_nw, List.map_cons, sgV_nw]
theorem sgE_nw {b : Nat} (h : b ≠ q) : sgE cy (sgNw σ q t n) b = sgE cy σ b := sgE_eq (by rw [sgNw_T, if_neg h]) (fun j => by rw [sgNw_I, if_neg h]) (fun j => by rw [sgNw_R, if_neg h]) (fun j => by rw [sgNw_J, if_neg h]) (by rw [sgNw_N, if_neg h])
theorem sgF_0 (t : Nat) : sgF t 0 := by
  have e : (0 : Int32).toInt = 0 := rfl
  unfold sgF
  split
  · rw [e]; omega
  · rw [e]; omega
  · exact trivial
theorem sgOK_nw (h : sgOK σ) : sgOK (sgNw σ q t n) := by
  refine ⟨fun b j t2 h1 h2 h3 => ?_, fun b j h1 => ?_, fun b j h1 => ?_, fun b h1 => ?_⟩
  · rw [sgNw_I]
    by_cases e : b = q
    · rw [if_pos e]; exact sgF_0 _
    · rw [if_neg e]
      rw [sgNw_T, if_neg e] at h1 h2 h3
      exact h.1 b j t2 h1 h2 h3
  · rw [sgNw_I]
    by_cases e : b = q
    · rw [if_pos e]; exact sgF_0 _
    · rw [if_neg e]
      rw [sgNw_T, if_neg e] at h1
      exact h.2.1 b j h1
  · rw [sgNw_I]
    by_cases e : b = q
    · rw [if_pos e]; exact sgF_0 _
    · rw [if_neg e]
      rw [sgNw_T, if_neg e] at h1
      exact h.2.2.1 b j h1
  · show b < max σ.2.2.2.2.2 (q + 1)
    by_cases e : b = q
    · omega
    · rw [sgNw_T, if_neg e] at h1
      have := h.2.2.2 b h1
      unfold sgU at this
      omega
/-- a new cell behind the others -/
theorem sgG_nw {A0 : Nat → Prop} {H0 : Heap} {locs1 : List Loc} {E : va_E} (hG : sgG D cy A0 H0 σ H locs) (h1 : va_P D vwCl (sgL cy σ ++ [(q, E)]) H1) (h2 : va_D A0 (sgL cy σ ++ [(q, E)])) (h3 : va_S A0 H0 H1 locs1) (hE : sgE cy (sgNw σ q t n) q = E) : sgT σ q = 0 ∧ sgG D cy A0 H0 (sgNw σ q t n) H1 locs1 := by
  have hlast : (sgL cy σ ++ [(q, E)])[(sgL cy σ).length]? = some (q, E) := by rw [List.getElem?_append_right (Nat.le_refl _), Nat.sub_self]; rfl
  have hq : sgT σ q = 0 := by
    by_cases z : sgT σ q = 0
    · exact z
    · exfalso
      obtain ⟨i, hi⟩ := sgL_at (cy := cy) hG.1.2 z
      have hlt := (List.getElem?_eq_some_iff.mp hi).1
      have := h2.1 i (sgL cy σ).length (q, sgE cy σ q) (q, E) (by rw [List.getElem?_append_left hlt]; exact hi) hlast rfl
      omega
  refine ⟨hq, ⟨fun b hb => ?_, sgOK_nw hG.1.2⟩, fun b hb => ?_, h3⟩
  · by_cases e : b = q
    · subst e
      rw [hE]
      exact h1 _ _ hlast
    · rw [sgNw_T, if_neg e] at hb
      obtain ⟨i, hi⟩ := sgL_at (cy := cy) hG.1.2 hb
      have hlt := (List.getElem?_eq_some_iff.mp hi).1
      rw [sgE_nw e]
      exact h1 i _ (by rw [List.getElem?_append_left hlt]; exact hi)
  · by_cases e : b = q
    · subst e
      exact h2.2 _ _ hlast
    · rw [sgNw_T, if_neg e] at hb
      exact hG.2.1 b hb
theorem sgPot_nw (hO : sgOK σ) (hq : sgT σ q = 0) : sgPot (sgNw σ q t n) ≤ sgPot σ := by
  have hz : ∀ b, sgPot1 (sgNw σ q t n) b ≤ sgPot1 σ b := by
    intro b
    unfold sgPot1
    rw [sgNw_T]
    by_cases e : b = q
    · subst e
      rw [if_pos rfl, hq]
      have : (sgI (sgNw σ b t n) b 2).toNatClampNeg = 0 := by rw [sgNw_I, if_pos rfl]; rfl
      rw [this]
      split <;> omega
    · rw [if_neg e]
      by_cases h5 : sgT σ b = 5
      · have hc : sgCap σ b ≤ sgCap (sgNw σ q t n) b := by
          unfold sgCap
          rw [sgNw_R, if_neg e]
          cases hr : sgR σ b 1 with
          | none => exact Nat.le_refl _
          | some r =>
            show (if sgT σ r = 110 then sgN σ r else 0) ≤ (if sgT (sgNw σ q t n) r = 110 then sgN (sgNw σ q t n) r else 0)
            rw [sgNw_T, sgNw_N]
            by_cases e2 : r = q
            · subst e2
              have g3 : (if sgT σ r = 110 then sgN σ r else 0) = 0 := if_neg (by rw [hq]; decide)
              rw [g3]
              omega
            · rw [if_neg e2, if_neg e2]; exact Nat.le_refl _
        rw [if_pos h5, if_pos h5, sgNw_I, if_neg e]
        omega
      · rw [if_neg h5, if_neg h5]; exact Nat.le_refl _
  have h0 : ∀ i, sgU σ ≤ i → sgPot1 σ i = 0 := by
    intro i hi
    unfold sgPot1
    have : sgT σ i = 0 := by
      by_cases z : sgT σ i = 0
      · exact z
      · have := hO.2.2.2 i z; omega
    rw [this, if_neg (by omega)]
  have e1 : sgSum (sgPot1 σ) (sgU (sgNw σ q t n)) = sgSum (sgPot1 σ) (sgU σ) := sgSum_more (Nat.le_max_left _ _) (fun i hi _ => h0 i hi)
  unfold sgPot
  rw [← e1]
  exact sgSum_le fun i _ => hz i
theorem sgB_nw {A0 : Nat → Prop} {E : va_E} {sz : Nat} (hB : sgB D cy s σ0 σ H locs N n) (h1 : va_P D vwCl (sgL cy σ ++ [(q, E)]) H1) (h2 : va_D (sgA σ0 s.heap.size) (sgL cy σ ++ [(q, E)])) (h3 : va_S (sgA σ0 s.heap.size) s.heap H1 locs) {n9 : Nat} (hE : sgE cy (sgNw σ q t n9) q = E) : sgT σ q = 0 ∧ s.heap.size ≤ q ∧ sgB D cy s σ0 (sgNw σ q t n9) H1 locs (N + sz) (n + sz) := by
  obtain ⟨hq, hG⟩ := sgG_nw (t := t) (n := n9) hB.1 h1 h2 h3 hE
  have hA : sgA σ0 s.heap.size q := by
    have hlast : (sgL cy σ ++ [(q, E)])[(sgL cy σ).length]? = some (q, E) := by rw [List.getElem?_append_right (Nat.le_refl _), Nat.sub_self]; rfl
    exact h2.2 _ _ hlast
  have hsz : s.heap.size ≤ q := by
    rcases hA with h | h
    · exact absurd hq (by rw [(hB.2.1.1 q h).1]; exact h)
    · exact h
  refine ⟨hq, hsz, hG, ⟨fun b hb => ?_, fun b hb => ?_⟩, ?_⟩
  · have hne : b ≠ q := fun z => by subst z; exact hb (by have := (hB.2.1.1 b hb).1; rw [hq] at this; exact this.symm)
    rw [sgNw_T, if_neg hne, sgNw_N, if_neg hne]
    exact hB.2.1.1 b hb
  · by_cases e : b = q
    · subst e; exact Or.inr hsz
    · rw [sgNw_T, if_neg e] at hb
      exact hB.2.1.2 b hb
  · have := sgPot_nw (t := t) (n := n9) hB.1.1.2 hq
    have := hB.2.2
    omega
/-- new -/
theorem sg_new {N0 : Nat} (F : sgFx p s m args meth c cc nL own Ts D cy eda ca ia σ0) (hB : sgB D cy s σ0 σ H locs N n) (hin : ∀ w ∈ u_ws C T N0, w ∈ Ts) (hty : ∀ k, k < N0 → parseFieldDescriptor (T k).2.2.1 = some (ty0 k)) (hcl : (Cond.classLink own index C).before args s = true) (hinst : (Cond.instantiable C N0).before args s = true) (hini : (Cond.initialized C).before args s = true) (hc : vwCl[ci]? = some (C, T, N0)) (h100 : ci + 1 < 100) (hfs : ∀ j, j < N0 → defaultValue (ty0 j) = vp_V ((sgC ci).map sgD0) j) (hk : k + 1 ≤ R.cells) (hs : n + N0 + sgPot σ0 ≤ R.slots) (hdg : decode cc pc = .ok (.new index, 3))
    (kk : ∀ (q : Nat) (H : Heap) (N : Nat), sgT σ q = 0 → s.heap.size ≤ q → sgB D cy s σ0 (sgNw σ q (ci + 1) 0) H locs N (n + N0) → W p l e R s m args below meth c H locs (k + 1) N Q (F0 m (pc + 3) ls (.ref q :: rest))) : W p l e R s m args below meth c H locs k N Q (F0 m pc ls rest) := by
  obtain ⟨⟨hx, hb, hml, hown, hts⟩, hK, -⟩ := F
  refine va_new (fs := (sgC ci).map sgD0) hx hb hts hin ty0 hty hown hcl hinst hini hK (sgL_P hB.1.1) (sgL_D hB.1.2.1) hB.1.2.2 sgB_A hc hfs hk (by have := hB.2.2; omega) hdg (fun q H1 h1 h2 h3 => ?_)
  obtain ⟨g1, g2, g3⟩ := sgB_nw (A0 := fun _ => True) (t := ci + 1) (n9 := 0) (sz := N0) hB h1 h2 h3 (by rw [sgE_ob (σ := sgNw σ q (ci + 1) 0) (a := q) (by rw [sgNw_T, if_pos rfl]) h100, sgVs_nw])
  exact kk q H1 (N + N0) g1 g2 g3
/-- a new array of ints, chars or booleans -/
theorem sg_newa (t : Nat) {atype : ArrayType} {ty : FieldType} {i : Int32} {N' : Nat} (F : sgFx p s m args meth c cc nL own Ts D cy eda ca ia σ0) (hB : sgB D cy s σ0 σ H locs N n) (harr : (Cond.arrayClass (newarray.typeOf atype)).before args s = true) (hty : newarray.typeOf atype = ty) (ht : (tyL cy)[t]? = some (cy t, ty)) (hpr : ∀ C : String, ty ≠ .object C) (hia : sgIA t = true) (h0 : ∀ cA : ClassId, vp_cell cA (N', .inl (fun _ => 0)) = arrV cA N' (fun _ => defaultValue ty)) (hi : ¬ i < 0) (hN : i.toNatClampNeg = N') (hbytes : N' * componentBytes ty ≤ 536870912) (hk : k + 1 ≤ R.cells) (hs : n + N' + sgPot σ0 ≤ R.slots) (hdg : decode cc pc = .ok (.newarray atype, 2))
    (kk : ∀ (q : Nat) (H : Heap) (N : Nat), sgT σ q = 0 → s.heap.size ≤ q → sgB D cy s σ0 (sgNw σ q (100 + t) N') H locs N (n + N') → W p l e R s m args below meth c H locs (k + 1) N Q (F0 m (pc + 2) ls (.ref q :: rest))) : W p l e R s m args below meth c H locs k N Q (F0 m pc ls (.int i :: rest)) := by
  obtain ⟨⟨hx, hb, hml, hown, hts⟩, hK, -⟩ := F
  refine my_newa t (k := t) (a0 := (N', .inl (fun _ => 0))) hx hb harr hty ht hpr hK (sgL_P hB.1.1) (sgL_D hB.1.2.1) hB.1.2.2 sgB_A h0 hi hN hbytes hk (by have := hB.2.2; omega) hdg (fun q H1 h1 h2 h3 => ?_)
  obtain ⟨g1, g2, g3⟩ := sgB_nw (A0 := fun _ => True) (t := 100 + t) (n9 := N') (sz := N') hB h1 h2 h3 (by
    rw [sgE_ia (σ := sgNw σ q (100 + t) N') (a := q) (t := t) (by rw [sgNw_T, if_pos rfl]) hia, sgNw_N, if_pos rfl]
    congr 4
    funext j
    rw [sgNw_I, if_pos rfl])
  exact kk q H1 (N + N') g1 g2 g3
/-- a new array of references -/
theorem sg_newq (t : Nat) {C : String} {i : Int32} {N' : Nat} (F : sgFx p s m args meth c cc nL own Ts D cy eda ca ia σ0) (hB : sgB D cy s σ0 σ H locs N n) (hcl : (Cond.classLink own index C).before args s = true) (hC : C ∈ aoL) (ht : (tyL cy)[t]? = some (cy t, .object C)) (hia : sgIA t = false) (hi : ¬ i < 0) (hN : i.toNatClampNeg = N') (hbytes : N' * 4 ≤ 536870912) (hk : k + 1 ≤ R.cells) (hs : n + N' + sgPot σ0 ≤ R.slots) (hdg : decode cc pc = .ok (.anewarray index, 3))
    (kk : ∀ (q : Nat) (H : Heap) (N : Nat), sgT σ q = 0 → s.heap.size ≤ q → sgB D cy s σ0 (sgNw σ q (100 + t) N') H locs N (n + N') → W p l e R s m args below meth c H locs (k + 1) N Q (F0 m (pc + 3) ls (.ref q :: rest))) : W p l e R s m args below meth c H locs k N Q (F0 m pc ls (.int i :: rest)) := by
  obtain ⟨⟨hx, hb, hml, hown, hts⟩, hK, hN0, -⟩ := F
  refine my_newq t (k := t) hx hb hown hcl hN0 hC ht hK (sgL_P hB.1.1) (sgL_D hB.1.2.1) hB.1.2.2 sgB_A hi hN hbytes hk (by have := hB.2.2; omega) hdg (fun q H1 h1 h2 h3 => ?_)
  obtain ⟨g1, g2, g3⟩ := sgB_nw (A0 := fun _ => True) (t := 100 + t) (n9 := N') (sz := N') hB h1 h2 h3 (by
    rw [sgE_ra (σ := sgNw σ q (100 + t) N') (a := q) (t := t) (by rw [sgNw_T, if_pos rfl]) hia, sgNw_N, if_pos rfl]
    congr 7
    funext j
    rw [sgNw_R, if_pos rfl])
  exact kk q H1 (N + N') g1 g2 g3
end SGN
