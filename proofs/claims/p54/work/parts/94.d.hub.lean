section MYH
variable {p : Program} {l : Launch} {e : Env} {R : Room} {s : State} {m : MethodId} {args : Array Value} {below : List Frame} {meth : Method} {c : Code} {Q : State → Prop}
variable {D : va_G} {A0 : Nat → Prop} {H0 : Heap} {σ : Type}
/-- a loop that makes objects: its counter goes from 0 to N, its world grows -/
theorem al_loop (N : Nat) (LV : Nat → List (Nat × Value)) (Wd : σ → va_W) (I : Nat → σ → Prop) (kc ks c0 s0 : Nat) {h nL : Nat} (u0 : σ)
    (step : ∀ (i : Nat) (u : σ), i ≤ N → I i u → (i < N → ∀ (u' : σ) (H : Heap) (locs : List Loc) (ls : Array Slot), I (i + 1) u' → va_P D vwCl (Wd u') H → va_D A0 (Wd u') → va_S A0 H0 H locs → lv_has ls nL (LV (i + 1)) → W p l e R s m args below meth c H locs (c0 + kc * (i + 1)) (s0 + ks * (i + 1)) Q (F0 m h ls [])) → ∀ (H : Heap) (locs : List Loc) (ls : Array Slot), va_P D vwCl (Wd u) H → va_D A0 (Wd u) → va_S A0 H0 H locs → lv_has ls nL (LV i) → W p l e R s m args below meth c H locs (c0 + kc * i) (s0 + ks * i) Q (F0 m h ls []))
    (hI : I 0 u0) {H : Heap} {locs : List Loc} {ls : Array Slot} (hP : va_P D vwCl (Wd u0) H) (hD : va_D A0 (Wd u0)) (hS : va_S A0 H0 H locs) (hl : lv_has ls nL (LV 0)) : W p l e R s m args below meth c H locs c0 s0 Q (F0 m h ls []) := by
  suffices K : ∀ (n i : Nat), N - i = n → i ≤ N → ∀ (u : σ) (H : Heap) (locs : List Loc) (ls : Array Slot), I i u → va_P D vwCl (Wd u) H → va_D A0 (Wd u) → va_S A0 H0 H locs → lv_has ls nL (LV i) → W p l e R s m args below meth c H locs (c0 + kc * i) (s0 + ks * i) Q (F0 m h ls []) from
    W.cs (by omega) (by omega) (K _ 0 rfl (Nat.zero_le _) u0 H locs ls hI hP hD hS hl)
  intro n
  induction n with
  | zero =>
    intro i h1 h3 u H locs ls hi hP hD hS hl
    exact step i u h3 hi (fun z => absurd z (by omega)) H locs ls hP hD hS hl
  | succ n ih =>
    intro i h1 h3 u H locs ls hi hP hD hS hl
    exact step i u h3 hi (fun z u' H locs ls hi' hP' hD' hS' hl' => ih (i + 1) (by omega) z u' H locs ls hi' hP' hD' hS' hl') H locs ls hP hD hS hl
end MYH
def my_cid : va_E → Nat
  | .inl a => 1000 + a.2.1
  | .inr o => o.1
def my_f0 : va_E → Value
  | .inr (_, v :: _) => v
  | _ => .null
theorem my_memset {A : Nat → Prop} {L : va_W} {k a b : Nat} {c c0 c1 : va_E} (hD : va_D A L) (hk : L[k]? = some (a, c0)) (hm : (b, c) ∈ L) (hne : c ≠ c0) : (b, c) ∈ L.set k (a, c1) := by
  obtain ⟨j, hj⟩ := List.mem_iff_getElem?.mp hm
  have hkj : k ≠ j := by
    intro e
    subst e
    exact hne (congrArg Prod.snd (Option.some.inj (hj.symm.trans hk)))
  exact List.mem_of_getElem? (i := j) (by rw [List.getElem?_set_ne hkj]; exact hj)
theorem my_atset {L : va_W} {k a : Nat} {c0 c1 : va_E} (hk : L[k]? = some (a, c0)) : (L.set k (a, c1))[k]? = some (a, c1) := by
  rw [List.getElem?_set_self (List.getElem?_eq_some_iff.mp hk).1]
def DevC (k c ea : Nat) (po ow st : Int32) (dp : Int32) : va_E := .inr (6, [.int (nI k), .int 104, .int po, .int 0, .int ow, .int 0, .int 0, .int st, .null, .int 0, .int dp, .int 104, .int (-1), .int 0, .int (-1), .int 0, .int 0, .int 0, .ref c, .ref ea])
def EpC (b t : Nat) : va_E := .inr (7, [.int 0, .int 0, .int 0, .int 0, .int 0, .int 0, .int 0, .ref b, .ref t])
def PipC (k t : Nat) : va_E := .inr (10, [.int (nI k), .null, .null, .int 98, .int 1, .int (-1), .int 0, .int 0, .int 0, .int 32, .int 0, .ref t, .int 0, .int 0])
abbrev DevZ : Type := Nat × Nat × Nat × (Nat → Option Nat) × (Nat → Nat) × (Nat → Nat) × (Nat → Nat)
/-- device k as its constructor leaves it -/
def DevW (cy : Nat → ClassId) (k : Nat) (z : DevZ) (w : va_W) : Prop := (z.1, DevC k z.2.1 z.2.2.1 0 0 117 (-1)) ∈ w ∧ (z.2.2.1, .inl (cy 5, 3, .inr (.inr (.inr (.inr z.2.2.2.1))))) ∈ w ∧ ∀ j, j < 3 → z.2.2.2.1 j = some (z.2.2.2.2.1 j) ∧ (z.2.2.2.2.1 j, EpC (z.2.2.2.2.2.1 j) (z.2.2.2.2.2.2 j)) ∈ w
theorem DevW.mono {cy : Nat → ClassId} {k : Nat} {z : DevZ} {w w' : va_W} (h : DevW cy k z w) (hw : ∀ q ∈ w, q ∈ w') : DevW cy k z w' := ⟨hw _ h.1, hw _ h.2.1, fun j hj => ⟨(h.2.2 j hj).1, hw _ (h.2.2 j hj).2⟩⟩
def my_t3 (a b c : Nat) : Nat → Nat := fun j => if j = 0 then a else if j = 1 then b else c

theorem my_exit {i N : Nat} {c : Int32} (hc : c = nI N) (hN : N < 2 ^ 31) (hi : i ≤ N) (h : c ≤ nI i) : i = N := by
  subst hc
  rcases Nat.lt_or_ge i N with q | q
  · exact absurd h (nI_ge q hN)
  · omega
theorem my_cont {i N : Nat} {c : Int32} (hc : c = nI N) (hN : N < 2 ^ 31) (hi : i ≤ N) (h : ¬ c ≤ nI i) : i < N := by
  subst hc
  rcases Nat.lt_or_ge i N with q | q
  · exact q
  · exact absurd (nI_le q (by omega)) h
abbrev HubW (cy : Nat → ClassId) (h0 q1 q2 q3 q4 q5 q6 q7 q8 q9 q10 q11 q12 q13 q14 q15 q16 q17 : Nat) (f g : Nat → Option Nat) : va_W := [(h0, .inr (14, [.ref q1, .int 0, .ref q2, .ref q3, .int 0, .ref q4, .int 11, .int 0, .ref q5, .ref q7, .ref q9, .ref q13, .ref q17])), (q1, .inl (cy 4, 16, .inr (.inr (.inr (.inr (f)))))), (q2, .inl (cy 0, 8, .inl (fun _ => 0))), (q3, .inl (cy 0, 8, .inl (fun _ => 0))), (q4, .inl (cy 6, 12, .inr (.inr (.inr (.inr (g)))))), (q5, .inr (5, [.ref q6, .int 0, .int 0, .int 0])), (q6, .inl (cy 0, 32, .inl (fun _ => 0))), (q7, .inr (5, [.ref q8, .int 0, .int 0, .int 0])), (q8, .inl (cy 0, 32, .inl (fun _ => 0))), (q9, .inr (13, [.ref q10, .ref q11, .int 0, .ref q12, .int 0])), (q10, .inl (cy 0, 8, .inl (fun _ => 0))), (q11, .inl (cy 0, 128, .inl (fun _ => 0))), (q12, .inl (cy 0, 16, .inl (fun _ => 0))), (q13, .inr (8, [.ref q14, .ref q15, .ref q16, .int 0, .int 0, .int 0, .int 0, .int 0, .int (-1), .int 0])), (q14, .inl (cy 1, 8, .inl (fun _ => 0))), (q15, .inl (cy 0, 8, .inl (fun _ => 0))), (q16, .inl (cy 0, 8, .inl (fun _ => 0))), (q17, .inr (11, [.int 0, .int 0, .int 0]))]
