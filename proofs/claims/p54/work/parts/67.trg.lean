section TRG
/-! a new Transfer over any making of its bytes -/
variable {eda n S hw : Nat} {ia : Nat → Nat} {K : KM} {g : GH} {σ F : SG} {t b : Nat}
theorem inv_trG (h : Inv eda ia K g n S hw σ) (ht : sgT σ t = 0) (hO : oFr σ F) (tT : sgT F t = 19) (hb : sgR F t 0 = some b) (tB : sgT F b = 100) (nB : sgN F b ≤ 16) (hnew : ∀ a, sgT σ a = 0 → sgT F a = 0 ∨ a = b ∨ a = t) (hed : sgT F eda = 0) (p : Nat) : Inv eda ia K (gT g t p) n S hw F ∧ sgLq iX σ F := by
  have cs : ∀ a u, sgT σ a = 0 → sgT F a = u → u ≠ 0 → (a = b ∧ u = 100) ∨ (a = t ∧ u = 19) := fun a u z q q0 => by
    rcases hnew a z with c | c | c
    · exact absurd (q.symm.trans c) q0
    · exact Or.inl ⟨c, by rw [← q, c]; exact tB⟩
    · exact Or.inr ⟨c, by rw [← q, c]; exact tT⟩
  have nt : ∀ (a u : Nat) {P : Prop}, sgT σ a = 0 → sgT F a = u → u ≠ 0 → u ≠ 100 → u ≠ 19 → P := fun a u P z q q0 q1 q2 => by
    rcases cs a u z q q0 with c | c
    · exact absurd c.2 q1
    · exact absurd c.2 q2
  refine ⟨inv_nw h hO (fun a ha => ⟨?_, rfl, rfl⟩) (fun _ _ => rfl) (fun _ => rfl) (fun _ z => z) hed (fun a z q => nt a 110 z q (by decide) (by decide) (by decide)) (fun a z q => nt a 5 z q (by decide) (by decide) (by decide)) (fun a z q => nt a 16 z q (by decide) (by decide) (by decide)) (fun a k y z q _ _ => nt a 108 z q (by decide) (by decide) (by decide)) (fun a z q => nt a 17 z q (by decide) (by decide) (by decide)) (fun a z q => ?_) (fun a z q => nt a 18 z q (by decide) (by decide) (by decide)), (sgLS_nw (inv_LS h) hO (fun a z q => nt a 110 z q (by decide) (by decide) (by decide)) (fun a z q => nt a 5 z q (by decide) (by decide) (by decide)) hed).2⟩
  · show (if a = t then p else gOw g a) = gOw g a
    rw [if_neg (fun z => ha (by rw [z]; exact ht))]
  · rcases cs a 19 z q (by decide) with c | c
    · exact absurd c.2 (by decide)
    · rw [c.1]
      exact ⟨b, hb, tB, nB⟩
end TRG
