section CLS4
/-- a field that is never null -/
theorem VT_nn {cy : Nat → ClassId} {ad τ : List Nat} {σ : SG} {a ci k kd : Nat} (h : VT cy ad τ σ) (ha : sgT σ a = ci + 1) (h1 : ci + 1 < 100) (ht : (sgC ci)[k]? = some 3) (hr : vK.all (fun q => match q with
    | (0, c, _, fs) => !(c == ci) || (match fs[k]? with
      | some b => (b.1 == 3) && (decide (b.2.1.toNat = kd) && decide (b.2.2 = 0))
      | none => false)
    | _ => true) = true) : ∃ b, sgR σ a k = some b ∧ sgT σ b = vTag kd ∧ ∃ q : Nat, τ[q]? = some kd ∧ ad[q]? = some b := by
  obtain ⟨q, d, -, -, g3, -, kk, g5, g6⟩ := VT_at h (a := a) (by omega)
  obtain ⟨x0, fs, e4⟩ := cl_of0 (g3.trans ha) h1
  cases g5.symm.trans e4
  obtain ⟨vs, e5, e6, e7⟩ := g6
  rw [sgE_ob ha h1] at e5
  have e8 : sgVs σ a 0 (sgC ci) = vs := (Prod.mk.inj (Sum.inr.inj e5)).2
  have h8 := List.all_eq_true.mp hr _ (List.mem_of_getElem? e4)
  have h7 : (!(ci == ci) || (match fs[k]? with
      | some b => (b.1 == 3) && (decide (b.2.1.toNat = kd) && decide (b.2.2 = 0))
      | none => false)) = true := h8
  rw [beq_self_eq_true, Bool.not_true, Bool.false_or] at h7
  cases e9 : fs[k]? with
  | none => rw [e9] at h7; cases h7
  | some c =>
    rw [e9] at h7
    have h7 : ((c.1 == 3) && (decide (c.2.1.toNat = kd) && decide (c.2.2 = 0))) = true := h7
    rw [Bool.and_eq_true, Bool.and_eq_true, beq_iff_eq, decide_eq_true_eq, decide_eq_true_eq] at h7
    obtain ⟨b1, b2, b3⟩ := c
    obtain ⟨z1, z2, z3⟩ := h7
    have z1 : b1 = 3 := z1
    have z2 : b2.toNat = kd := z2
    have z3 : b3 = 0 := z3
    subst z1
    have y3 : vs[k]? = some (va_rf (sgR σ a k)) := by
      rw [← e8, sgVs_at ht, Nat.zero_add]
      rfl
    rcases e7 k _ _ e9 y3 with ⟨w, -⟩ | ⟨q9, b9, w1, w2, w3⟩
    · exact absurd z3 w
    · have w1 : τ[q9]? = some b2.toNat := w1
      rw [z2] at w1
      have w4 : sgR σ a k = some b9 := by
        cases e : sgR σ a k with
        | none => rw [e] at w3; cases w3
        | some x => rw [e] at w3; cases w3; rfl
      exact ⟨b9, w4, (h.2.2.2.1 q9 kd b9 w1 w2).1, q9, w1, w2⟩
theorem M_no {M : List (Nat × Nat × Nat)} {c f : Nat} (h : M.all (fun q => !((q.1 == c) && (q.2.1 == f))) = true) : ∀ d : Nat, (c, f, d) ∉ M := by
  intro d hd
  have h1 := List.all_eq_true.mp h _ hd
  simp at h1
/-- what an event's note writes -/
def Mev : List (Nat × Nat × Nat) := [(8, 4, 19), (8, 5, 19), (8, 6, 19), (8, 7, 19), (200, 12, 0), (200, 14, 0)]
/-- a pipe's first transfer is taken out of its row -/
def dropd (p : Nat) (σ : SG) : SG := sgPI (sgPI σ p 12 ((sgI σ p 12 + 1) &&& 3)) p 13 (sgI σ p 13 - 1)
end CLS4
