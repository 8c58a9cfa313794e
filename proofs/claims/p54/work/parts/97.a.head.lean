section HEAD
/-! the law's head: from the entry to its loop -/
def sg0 : SG := (fun _ => 0, fun _ _ => 0, fun _ _ => none, fun _ _ => 0, fun _ => 0, 0)
theorem sg0_A {sz : Nat} : ∀ a : Nat, a < sz → ¬ sgA sg0 sz a := fun a h z => (show sgT sg0 a ≠ 0 ∨ sz ≤ a from z).elim (fun y => y rfl) (fun y => absurd h (Nat.not_lt.mpr y))
theorem sg0_B {sz a : Nat} (z : sgA sg0 sz a) : sz ≤ a := (show sgT sg0 a ≠ 0 ∨ sz ≤ a from z).elim (fun y => absurd rfl y) id
theorem sgSum_z {f : Nat → Nat} (h : ∀ i, f i = 0) : ∀ n : Nat, sgSum f n = 0
  | 0 => rfl
  | n + 1 => by
    have h1 := sgSum_z h n
    have h2 := h n
    show sgSum f n + f n = 0
    omega
variable {p : Program} {l : Launch} {e : Env} {R : Room} {s : State} {m : MethodId} {args : Array Value} {below : List Frame} {meth : Method} {c : Code} {H : Heap} {locs : List Loc} {cells : Nat} {Q : State → Prop} {cc : ByteArray} {pc : Nat} {ls : Array Slot} {rest : List Value}
variable {D : va_G} {cy : Nat → ClassId} {σ0 σ : SG} {eda ca : Nat} {ia : Nat → Nat} {Ts : List Cond} {n nL N : Nat} {own : String} {W0 w : va_W}
/-- the reference's first cell, out of a world of cells -/
theorem lw_first {q2 : Nat} (hP : va_P D vwCl (w ++ [(q2, .inr (19, [.int 0, .null, .null, .null, .null, .null, .null, .int 0, .null, .int 0, .int 0, .int 0, .null, .long 0, .int 0, .int 0, .int 0, .int 0, .long 0]))]) H) (hD : va_D (sgA sg0 s.heap.size) (w ++ [(q2, .inr (19, [.int 0, .null, .null, .null, .null, .null, .null, .int 0, .null, .int 0, .int 0, .int 0, .null, .long 0, .int 0, .int 0, .int 0, .int 0, .long 0]))])) (hS : va_S (sgA sg0 s.heap.size) s.heap H locs) : (∀ N : Nat, sgB D cy s sg0 (sgNw sg0 q2 20 0) H locs N N) ∧ lwO D (sgNw sg0 q2 20 0) w H ∧ va_D (sgA sg0 s.heap.size) w := by
  have hT : ∀ a : Nat, sgT (sgNw sg0 q2 20 0) a = if a = q2 then 20 else 0 := fun a => rfl
  have hI : ∀ a k : Nat, sgI (sgNw sg0 q2 20 0) a k = 0 := fun a k => by
    show (if a = q2 then (0 : Int32) else 0) = 0
    split <;> rfl
  have hq : (w ++ [((q2, .inr (19, [.int 0, .null, .null, .null, .null, .null, .null, .int 0, .null, .int 0, .int 0, .int 0, .null, .long 0, .int 0, .int 0, .int 0, .int 0, .long 0])) : Nat × va_E)])[w.length]? = some (q2, .inr (19, [.int 0, .null, .null, .null, .null, .null, .null, .int 0, .null, .int 0, .int 0, .int 0, .null, .long 0, .int 0, .int 0, .int 0, .int 0, .long 0])) := by
    rw [List.getElem?_append_right (Nat.le_refl _), Nat.sub_self]
    rfl
  have hA2 : sgA sg0 s.heap.size q2 := hD.2 _ _ hq
  have only : ∀ a : Nat, sgT (sgNw sg0 q2 20 0) a ≠ 0 → a = q2 := fun a ha => by
    by_cases c : a = q2
    · exact c
    · exact absurd (by rw [hT, if_neg c]) ha
  have hE : sgE cy (sgNw sg0 q2 20 0) q2 = .inr (19, [.int 0, .null, .null, .null, .null, .null, .null, .int 0, .null, .int 0, .int 0, .int 0, .null, .long 0, .int 0, .int 0, .int 0, .int 0, .long 0]) := by
    rw [sgE_ob (ci := 19) (by rw [hT, if_pos rfl]) (by decide)]
    simp [sgC, sgVs, sgV, sgNw, sg0, sgI, sgR, sgJ, va_rf]
  have z : ∀ t : Nat, sgF t 0 := fun t => by
    unfold sgF
    split <;> first | decide | trivial
  have hpot : sgPot (sgNw sg0 q2 20 0) = 0 := sgSum_z (fun i => by
    unfold sgPot1
    rw [hT]
    by_cases c : i = q2
    · rw [if_pos c, if_neg (by decide)]
    · rw [if_neg c, if_neg (by decide)]) _
  refine ⟨fun N => ⟨⟨⟨fun a ha => ?_, ⟨fun a k t _ _ _ => by rw [hI]; exact z t, fun a j _ => by rw [hI]; exact z 1, fun a j _ => by rw [hI]; exact z 2, fun a ha => ?_⟩⟩, fun a ha => ?_, hS⟩, ⟨fun a ha => absurd rfl ha, fun a ha => ?_⟩, by rw [hpot]; omega⟩, ⟨hP.left, fun q hm => ?_⟩, hD.left⟩
  · obtain rfl := only a ha
    rw [hE]
    exact hP _ _ hq
  · obtain rfl := only a ha
    exact Nat.lt_of_lt_of_le (Nat.lt_succ_self _) (Nat.le_max_right _ _)
  · obtain rfl := only a ha
    exact hA2
  · obtain rfl := only a ha
    exact hA2
  · obtain ⟨j, hj⟩ := List.mem_iff_getElem?.mp hm
    have hlt := (List.getElem?_eq_some_iff.mp hj).1
    rw [hT]
    refine if_neg (fun e => ?_)
    have := hD.1 j _ q _ (by rw [List.getElem?_append_left hlt]; exact hj) hq e
    omega
/-- an array that is none of the reference's -/
theorem lw_newa (F : sgFx p s m args meth c cc nL own Ts D cy eda ca ia σ0) (hB : sgB D cy s σ0 σ H locs N n) (hO : lwO D σ W0 H) (hD : va_D (sgA σ0 s.heap.size) W0) (t0 : Nat) {atype : ArrayType} (harr : (Cond.arrayClass (newarray.typeOf atype)).before args s = true) {ty : FieldType} {k : Nat} (hty : newarray.typeOf atype = ty) (ht : (tyL cy)[t0]? = some (cy k, ty)) (hpr : ∀ C : String, ty ≠ .object C)
    {i : Int32} {N' : Nat} {a0 : vp_A} (ha : ∀ cA : ClassId, vp_cell cA a0 = arrV cA N' (fun _ => defaultValue ty)) (hn : ¬ i < 0) (hN : i.toNatClampNeg = N') (hbytes : N' * componentBytes ty ≤ 536870912) (hcells : cells + 1 ≤ R.cells) (hslots : N + N' ≤ R.slots) (hdg : decode cc pc = .ok (.newarray atype, 2))
    (kk : ∀ (q : Nat) (H1 : Heap), sgB D cy s σ0 σ H1 locs (N + N') (n + N') → lwO D σ ((q, .inl (cy k, a0)) :: W0) H1 → va_D (sgA σ0 s.heap.size) ((q, .inl (cy k, a0)) :: W0) → W p l e R s m args below meth c H1 locs (cells + 1) (N + N') Q (F0 m (pc + 2) ls (.ref q :: rest))) : W p l e R s m args below meth c H locs cells N Q (F0 m pc ls (.int i :: rest)) := by
  obtain ⟨hx, hb, -⟩ := id F.1
  have hK := F.2.1
  have hP : va_P D vwCl (W0 ++ sgL cy σ) H := fun j q hk => by
    rcases List.mem_append.mp (List.mem_of_getElem? hk) with h | h
    · obtain ⟨j, hj⟩ := List.mem_iff_getElem?.mp h
      exact hO.1 j q hj
    · obtain ⟨j, hj⟩ := List.mem_iff_getElem?.mp h
      exact sgL_P hB.1.1 j q hj
  have hL := sgL_D (cy := cy) hB.1.2.1
  have cross : ∀ x ∈ W0, ∀ y ∈ sgL cy σ, x.1 ≠ y.1 := fun x hx y hy e => (sgL_mem.mp hy).2.1 (by rw [← e]; exact hO.2 x hx)
  have hDj : va_D (sgA σ0 s.heap.size) (W0 ++ sgL cy σ) := by
    refine ⟨fun i j x y hi hj e => ?_, fun j q hk => ?_⟩
    · rcases Nat.lt_or_ge i W0.length with a | a <;> rcases Nat.lt_or_ge j W0.length with b | b
      · rw [List.getElem?_append_left a] at hi
        rw [List.getElem?_append_left b] at hj
        exact hD.1 i j x y hi hj e
      · rw [List.getElem?_append_left a] at hi
        rw [List.getElem?_append_right b] at hj
        exact absurd e (cross x (List.mem_of_getElem? hi) y (List.mem_of_getElem? hj))
      · rw [List.getElem?_append_right a] at hi
        rw [List.getElem?_append_left b] at hj
        exact absurd e.symm (cross y (List.mem_of_getElem? hj) x (List.mem_of_getElem? hi))
      · rw [List.getElem?_append_right a] at hi
        rw [List.getElem?_append_right b] at hj
        have := hL.1 _ _ x y hi hj e
        omega
    · rcases List.mem_append.mp (List.mem_of_getElem? hk) with h | h
      · obtain ⟨j, hj⟩ := List.mem_iff_getElem?.mp h
        exact hD.2 j q hj
      · obtain ⟨j, hj⟩ := List.mem_iff_getElem?.mp h
        exact hL.2 j q hj
  refine my_newa t0 hx hb harr hty ht hpr hK hP hDj hB.1.2.2 sgB_A ha hn hN hbytes hcells hslots hdg (fun q H1 hP1 hD1 hS1 => ?_)
  have hP2 := hP1.left
  have hq : ((W0 ++ sgL cy σ) ++ [((q, .inl (cy k, a0)) : Nat × va_E)])[(W0 ++ sgL cy σ).length]? = some (q, .inl (cy k, a0)) := by
    rw [List.getElem?_append_right (Nat.le_refl _), Nat.sub_self]
    rfl
  have hne : ∀ x ∈ W0 ++ sgL cy σ, x.1 ≠ q := fun x hx e => by
    obtain ⟨j, hj⟩ := List.mem_iff_getElem?.mp hx
    have hlt := (List.getElem?_eq_some_iff.mp hj).1
    have := hD1.1 j _ x _ (by rw [List.getElem?_append_left hlt]; exact hj) hq e
    omega
  have hsg : sgP D cy σ H1 := ⟨fun a ha => by
    obtain ⟨j, hj⟩ := sgL_at (cy := cy) hB.1.1.2 ha
    exact hP2.right j _ hj, hB.1.1.2⟩
  refine kk q H1 ⟨⟨hsg, hB.1.2.1, hS1⟩, hB.2.1, by have := hB.2.2; omega⟩ ⟨fun i x hi => ?_, fun x hx => ?_⟩ ⟨fun i j x y hi hj e => ?_, fun i x hi => ?_⟩
  · match i, hi with
    | 0, hi => cases hi; exact hP1.right 0 _ rfl
    | i + 1, hi => exact hP2.left i x hi
  · rcases List.mem_cons.mp hx with rfl | hx
    · by_cases z : sgT σ q = 0
      · exact z
      · obtain ⟨j, hj⟩ := sgL_at (cy := cy) hB.1.1.2 z
        exact absurd rfl (hne _ (List.mem_append_right _ (List.mem_of_getElem? hj)))
    · exact hO.2 x hx
  · match i, j, hi, hj with
    | 0, 0, _, _ => rfl
    | 0, j + 1, hi, hj =>
      cases hi
      exact absurd e.symm (hne y (List.mem_append_left _ (List.mem_of_getElem? (i := j) hj)))
    | i + 1, 0, hi, hj =>
      cases hj
      exact absurd e (hne x (List.mem_append_left _ (List.mem_of_getElem? (i := i) hi)))
    | i + 1, j + 1, hi, hj => rw [hD.1 i j x y hi hj e]
  · match i, hi with
    | 0, hi => cases hi; exact hD1.2 _ _ hq
    | i + 1, hi => exact hD.2 i x hi
end HEAD
