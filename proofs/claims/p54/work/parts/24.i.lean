section MW1
theorem sg_split {p : Program} {l : Launch} {e : Env} {R : Room} {s : State} {m : MethodId} {args : Array Value} {below : List Frame} {meth : Method} {c : Code} {H : Heap} {locs : List Loc} {k N : Nat} {Q : State → Prop} {pc : Nat} {ls : Array Slot} {rest : List Value} {r : Option Nat} (h1 : r = none → W p l e R s m args below meth c H locs k N Q (F0 m pc ls (.null :: rest))) (h2 : ∀ b, r = some b → W p l e R s m args below meth c H locs k N Q (F0 m pc ls (.ref b :: rest))) : W p l e R s m args below meth c H locs k N Q (F0 m pc ls (va_rf r :: rest)) := by
  cases r with
  | none => exact h1 rfl
  | some b => exact h2 b rfl
end MW1
section MI0
/-- a boolean answer -/
def sgb (b : Int32) (P : Prop) : Prop := (b = 1 ∧ P) ∨ (b = 0 ∧ ¬ P)
theorem sgb_n {b : Int32} {P : Prop} (h : sgb b P) : narrow .boolean (.int b) = .int b := by
  rcases h with ⟨rfl, -⟩ | ⟨rfl, -⟩ <;> rfl
theorem sgb_1 {P : Prop} (h : P) : sgb 1 P := Or.inl ⟨rfl, h⟩
theorem sgb_0 {P : Prop} (h : ¬ P) : sgb 0 P := Or.inr ⟨rfl, h⟩
theorem sgb_t {b : Int32} {P : Prop} (h : sgb b P) (hb : ¬ b = 0) : P := by
  rcases h with ⟨-, h⟩ | ⟨h, -⟩
  · exact h
  · exact absurd h hb
theorem sgb_f {b : Int32} {P : Prop} (h : sgb b P) (hb : b = 0) : ¬ P := by
  rcases h with ⟨h, -⟩ | ⟨-, h⟩
  · rw [hb] at h; exact absurd h (by decide)
  · exact h
theorem i_lt {x y : Int32} (h : x < y) : x.toInt < y.toInt := Int32.lt_iff_toInt_lt.mp h
theorem i_nlt {x y : Int32} (h : ¬ x < y) : y.toInt ≤ x.toInt := by
  have h2 : ¬ x.toInt < y.toInt := fun z => h (Int32.lt_iff_toInt_lt.mpr z)
  omega
theorem i_le {x y : Int32} (h : x ≤ y) : x.toInt ≤ y.toInt := Int32.le_iff_toInt_le.mp h
theorem i_nle {x y : Int32} (h : ¬ x ≤ y) : y.toInt < x.toInt := by
  have h2 : ¬ x.toInt ≤ y.toInt := fun z => h (Int32.le_iff_toInt_le.mpr z)
  omega
theorem i_eq {x y : Int32} : x = y ↔ x.toInt = y.toInt := ⟨fun h => by rw [h], fun h => Int32.toInt_inj.mp h⟩
theorem i_add {x y : Int32} (h1 : -2147483648 ≤ x.toInt + y.toInt) (h2 : x.toInt + y.toInt ≤ 2147483647) : (x + y).toInt = x.toInt + y.toInt := by rw [Int32.toInt_add, vi_bmod h1 h2]
theorem i_sub {x y : Int32} (h1 : -2147483648 ≤ x.toInt - y.toInt) (h2 : x.toInt - y.toInt ≤ 2147483647) : (x - y).toInt = x.toInt - y.toInt := by rw [Int32.toInt_sub, vi_bmod h1 h2]
/-- a list of sz elements, its array r -/
def sgLs (σ : SG) (l r sz : Nat) : Prop := sgT σ l = 5 ∧ sgR σ l 1 = some r ∧ sgT σ r = 110 ∧ (sgI σ l 2).toInt = sz ∧ sz ≤ sgN σ r ∧ sgN σ r < 1000000
/-- an empty list that never had an element -/
def sgLe (eda : Nat) (σ : SG) (l : Nat) : Prop := sgT σ l = 5 ∧ sgR σ l 1 = some eda ∧ (sgI σ l 2).toInt = 0
end MI0
