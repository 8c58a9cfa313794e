section SGA
/-! the reference's heap by addresses: tags (0 none; 1 + class; 100 + array type), ints, references, longs, lengths, top -/
abbrev SG : Type := (Nat → Nat) × (Nat → Nat → Int32) × (Nat → Nat → Option Nat) × (Nat → Nat → Int64) × (Nat → Nat) × Nat
def sgT (σ : SG) (a : Nat) : Nat := σ.1 a
def sgI (σ : SG) (a k : Nat) : Int32 := σ.2.1 a k
def sgR (σ : SG) (a k : Nat) : Option Nat := σ.2.2.1 a k
def sgJ (σ : SG) (a k : Nat) : Int64 := σ.2.2.2.1 a k
def sgN (σ : SG) (a : Nat) : Nat := σ.2.2.2.2.1 a
def sgU (σ : SG) : Nat := σ.2.2.2.2.2
/-- the kinds of a class's fields: 0 int, 1 char, 2 boolean, 3 reference, 4 long -/
def sgC (ci : Nat) : List Nat := match ci with
  | 1 => [0]
  | 3 => [0, 0, 0, 3]
  | 4 => [0, 3, 0]
  | 5 => [3, 0, 0, 0]
  | 6 => [0, 1, 0, 0, 2, 0, 0, 1, 3, 0, 0, 1, 0, 0, 0, 0, 0, 2, 3, 3]
  | 7 => [2, 2, 2, 0, 0, 0, 0, 3, 3]
  | 8 => [3, 3, 3, 0, 0, 0, 0, 0, 0, 0]
  | 9 => [1, 0]
  | 10 => [0, 3, 3, 1, 0, 0, 0, 0, 2, 1, 2, 3, 0, 0]
  | 11 => [0, 0, 0]
  | 12 => [3, 0, 0, 2, 2, 2]
  | 13 => [3, 3, 0, 3, 0]
  | 14 => [3, 0, 3, 3, 0, 3, 0, 0, 3, 3, 3, 3, 3]
  | 15 => [1, 0, 0, 2, 0, 0, 1, 0, 0, 0, 0, 0, 0, 3, 3, 3]
  | 16 => [2, 0, 0, 3, 0]
  | 17 => [0, 0, 1, 0, 0, 0, 2, 0, 1, 3]
  | 18 => [3, 0, 0, 2, 2]
  | 19 => [0, 3, 3, 3, 3, 3, 3, 0, 3, 0, 0, 0, 3, 4, 0, 0, 0, 0, 4]
  | _ => []
def sgV (σ : SG) (a k t : Nat) : Value := match t with
  | 3 => va_rf (sgR σ a k)
  | 4 => .long (sgJ σ a k)
  | _ => .int (sgI σ a k)
def sgVs (σ : SG) (a : Nat) : Nat → List Nat → List Value
  | _, [] => []
  | i, t :: r => sgV σ a i t :: sgVs σ a (i + 1) r
/-- the array types whose elements are ints -/
def sgIA (t : Nat) : Bool := (t == 0) || (t == 1) || (t == 11)
def sgE (cy : Nat → ClassId) (σ : SG) (a : Nat) : va_E := if sgT σ a < 100 then .inr (sgT σ a - 1, sgVs σ a 0 (sgC (sgT σ a - 1))) else .inl (cy (sgT σ a - 100), sgN σ a, if sgIA (sgT σ a - 100) = true then .inl (sgI σ a) else .inr (.inr (.inr (.inr (sgR σ a)))))
/-- what a place of a kind may hold -/
def sgF (t : Nat) (x : Int32) : Prop := match t with
  | 1 => 0 ≤ x.toInt ∧ x.toInt ≤ 65535
  | 2 => 0 ≤ x.toInt ∧ x.toInt ≤ 1
  | _ => True
def sgOK (σ : SG) : Prop := (∀ a k t : Nat, sgT σ a ≠ 0 → sgT σ a < 100 → (sgC (sgT σ a - 1))[k]? = some t → sgF t (sgI σ a k)) ∧ (∀ a j : Nat, sgT σ a = 101 → sgF 1 (sgI σ a j)) ∧ (∀ a j : Nat, sgT σ a = 111 → sgF 2 (sgI σ a j)) ∧ ∀ a, sgT σ a ≠ 0 → a < sgU σ
def sgP (D : va_G) (cy : Nat → ClassId) (σ : SG) (H : Heap) : Prop := (∀ a, sgT σ a ≠ 0 → va_at D vwCl (a, sgE cy σ a) H) ∧ sgOK σ
/-- the same as a list of cells -/
def sgL (cy : Nat → ClassId) (σ : SG) : va_W := ((List.range (sgU σ)).filter (fun a => !(sgT σ a == 0))).map (fun a => (a, sgE cy σ a))
theorem sgL_mem {cy : Nat → ClassId} {σ : SG} {q : Nat × va_E} : q ∈ sgL cy σ ↔ q.1 < sgU σ ∧ sgT σ q.1 ≠ 0 ∧ q.2 = sgE cy σ q.1 := by
  unfold sgL
  simp only [List.mem_map, List.mem_filter, List.mem_range, Bool.not_eq_true', beq_eq_false_iff_ne]
  constructor
  · rintro ⟨a, ⟨h1, h2⟩, rfl⟩
    exact ⟨h1, h2, rfl⟩
  · rintro ⟨h1, h2, h3⟩
    exact ⟨q.1, ⟨h1, h2⟩, by rw [← h3]⟩
theorem sgL_P {D : va_G} {cy : Nat → ClassId} {σ : SG} {H : Heap} (h : sgP D cy σ H) : va_P D vwCl (sgL cy σ) H := by
  intro k q hk
  obtain ⟨-, h2, h3⟩ := sgL_mem.mp (List.mem_of_getElem? hk)
  have := h.1 q.1 h2
  rw [← h3] at this
  exact this
theorem sgL_nd {cy : Nat → ClassId} {σ : SG} : ((sgL cy σ).map Prod.fst).Nodup := by
  unfold sgL
  rw [List.map_map]
  have e : (Prod.fst ∘ fun a => (a, sgE cy σ a)) = (id : Nat → Nat) := rfl
  rw [e, List.map_id]
  exact List.nodup_range.filter _
theorem sgL_D {A : Nat → Prop} {cy : Nat → ClassId} {σ : SG} (hA : ∀ a, sgT σ a ≠ 0 → A a) : va_D A (sgL cy σ) := by
  refine ⟨fun i j p q hi hj hpq => ?_, fun k q hk => hA q.1 (sgL_mem.mp (List.mem_of_getElem? hk)).2.1⟩
  have h1 : ((sgL cy σ).map Prod.fst)[i]? = some p.1 := by rw [List.getElem?_map, hi]; rfl
  have h2 : ((sgL cy σ).map Prod.fst)[j]? = some p.1 := by rw [List.getElem?_map, hj, hpq]; rfl
  exact (List.getElem?_inj (List.getElem?_eq_some_iff.mp h1).1 sgL_nd).mp (h1.trans h2.symm)
theorem sgL_at {cy : Nat → ClassId} {σ : SG} (hO : sgOK σ) {a : Nat} (h : sgT σ a ≠ 0) : ∃ q : Nat, (sgL cy σ)[q]? = some (a, sgE cy σ a) :=
  List.mem_iff_getElem?.mp (sgL_mem.mpr ⟨hO.2.2.2 a h, h, rfl⟩)
theorem sgVs_len {σ : SG} {a : Nat} : ∀ {l : List Nat} {i : Nat}, (sgVs σ a i l).length = l.length
  | [], _ => rfl
  | _ :: l, i => by unfold sgVs; simp [sgVs_len]
theorem sgVs_at {σ : SG} {a : Nat} : ∀ {l : List Nat} {i k t : Nat}, l[k]? = some t → (sgVs σ a i l)[k]? = some (sgV σ a (i + k) t)
  | [], _, _, _, h => by cases h
  | t0 :: l, i, 0, t, h => by cases h; rfl
  | t0 :: l, i, k + 1, t, h => by
    have := sgVs_at (σ := σ) (a := a) (i := i + 1) (show l[k]? = some t from h)
    unfold sgVs
    rw [List.getElem?_cons_succ, this, show i + 1 + k = i + (k + 1) by omega]
theorem sgVs_eq {σ σ2 : SG} {a : Nat} : ∀ {l : List Nat} {i : Nat}, (∀ k t : Nat, l[k]? = some t → sgV σ2 a (i + k) t = sgV σ a (i + k) t) → sgVs σ2 a i l = sgVs σ a i l
  | [], _, _ => rfl
  | t :: l, i, h => by
    unfold sgVs
    have h0 := h 0 t rfl
    rw [Nat.add_zero] at h0
    have key : sgVs σ2 a (i + 1) l = sgVs σ a (i + 1) l := sgVs_eq (fun k t2 hk => by
      have h3 := h (k + 1) t2 hk
      rw [show i + (k + 1) = i + 1 + k by omega] at h3
      exact h3)
    rw [h0, key]
theorem sgVs_set {σ σ2 : SG} {a k : Nat} {v : Value} : ∀ {l : List Nat} {i : Nat}, (∀ j t : Nat, l[j]? = some t → i + j ≠ k → sgV σ2 a (i + j) t = sgV σ a (i + j) t) → (∀ t, i ≤ k → l[k - i]? = some t → sgV σ2 a k t = v) → i ≤ k → sgVs σ2 a i l = (sgVs σ a i l).set (k - i) v
  | [], _, _, _, _ => rfl
  | t :: l, i, h, h2, hi => by
    unfold sgVs
    by_cases e : i = k
    · subst e
      rw [Nat.sub_self, List.set_cons_zero]
      have h3 := h2 t (Nat.le_refl _) (by rw [Nat.sub_self]; rfl)
      rw [h3]
      congr 1
      have key : sgVs σ2 a (i + 1) l = sgVs σ a (i + 1) l := sgVs_eq (fun j t2 hj => by
        have h4 := h (j + 1) t2 hj (by omega)
        rw [show i + (j + 1) = i + 1 + j by omega] at h4
        exact h4)
      exact key
    · have e2 : k - i = (k - (i + 1)) + 1 := by omega
      rw [e2, List.set_cons_succ]
      have h0 := h 0 t rfl (by omega)
      rw [Nat.add_zero] at h0
      rw [h0]
      congr 1
      refine sgVs_set (l := l) (i := i + 1) (fun j t2 hj hne => ?_) (fun t2 h4 h5 => h2 t2 hi (by rw [e2]; exact h5)) (by omega)
      have := h (j + 1) t2 hj (by omega)
      rw [show i + (j + 1) = i + 1 + j by omega] at this
      exact this
/-- writes -/
def sgPI (σ : SG) (a k : Nat) (x : Int32) : SG := (σ.1, fun b j => if b = a ∧ j = k then x else σ.2.1 b j, σ.2.2)
def sgPR (σ : SG) (a k : Nat) (x : Option Nat) : SG := (σ.1, σ.2.1, fun b j => if b = a ∧ j = k then x else σ.2.2.1 b j, σ.2.2.2)
def sgPJ (σ : SG) (a k : Nat) (x : Int64) : SG := (σ.1, σ.2.1, σ.2.2.1, fun b j => if b = a ∧ j = k then x else σ.2.2.2.1 b j, σ.2.2.2.2)
/-- a new cell: tag, length; all of it 0 and null -/
def sgNw (σ : SG) (q t n : Nat) : SG := (fun b => if b = q then t else σ.1 b, fun b j => if b = q then 0 else σ.2.1 b j, fun b j => if b = q then none else σ.2.2.1 b j, fun b j => if b = q then 0 else σ.2.2.2.1 b j, fun b => if b = q then n else σ.2.2.2.2.1 b, max σ.2.2.2.2.2 (q + 1))
end SGA
