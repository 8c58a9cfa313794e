section TRA
/-! a new Transfer -/
variable {eda n S hw : Nat} {ia : Nat → Nat} {K : KM} {g : GH} {σ : SG} {t b l p : Nat} {m : Int32}
def gT (g : GH) (t p : Nat) : GH := (fun a => if a = t then p else gOw g a, g.2.1, g.2.2.1, g.2.2.2.1, g.2.2.2.2.1, g.2.2.2.2.2)
def trF (σ : SG) (t b : Nat) (m : Int32) : SG := trT (sgNw (sgNw σ t 19 0) b 100 0) t b m
theorem trF_T (a : Nat) : sgT (trF σ t b m) a = if a = b then 100 else if a = t then 19 else sgT σ a := rfl
theorem trF_N (a : Nat) : sgN (trF σ t b m) a = if a = b then 0 else if a = t then 0 else sgN σ a := rfl
theorem trF_I (a k : Nat) : sgI (trF σ t b m) a k = if a = t ∧ k = 1 then m else if a = b then 0 else if a = t then 0 else sgI σ a k := rfl
theorem trF_R (a k : Nat) : sgR (trF σ t b m) a k = if a = t ∧ k = 0 then some b else if a = b then none else if a = t then none else sgR σ a k := rfl
theorem inv_trN (h : Inv eda ia K g n S hw σ) (ht : sgT σ t = 0) (hb : sgT (sgNw σ t 19 0) b = 0) (hed : sgT (trF σ t b m) eda = 0) (p : Nat) : Inv eda ia K (gT g t p) n S hw (trF σ t b m) ∧ oFr σ (trF σ t b m) ∧ sgT (trF σ t b m) t = 19 ∧ sgI (trF σ t b m) t 1 = m ∧ sgI (trF σ t b m) t 2 = 0 ∧ sgLq iX σ (trF σ t b m) := by
  have nbt := nw_ne hb (by decide)
  have b0 := nw_0 hb (by decide)
  have hO : oFr σ (trF σ t b m) := oFr_PI (oFr_PR (oFr_nw (oFr_nw oFr_rf ht) hb) ht) ht
  have tT : sgT (trF σ t b m) t = 19 := by rw [trF_T, if_neg (Ne.symm nbt), if_pos rfl]
  have tB : sgT (trF σ t b m) b = 100 := by rw [trF_T, if_pos rfl]
  have cs : ∀ a u, sgT σ a = 0 → sgT (trF σ t b m) a = u → u ≠ 0 → (a = b ∧ u = 100) ∨ (a = t ∧ u = 19) := fun a u z q q0 => by
    by_cases c1 : a = b
    · exact Or.inl ⟨c1, by rw [← q, c1]; exact tB⟩
    · by_cases c2 : a = t
      · exact Or.inr ⟨c2, by rw [← q, c2]; exact tT⟩
      · rw [trF_T, if_neg c1, if_neg c2, z] at q
        exact absurd q.symm q0
  have nt : ∀ (a u : Nat) {P : Prop}, sgT σ a = 0 → sgT (trF σ t b m) a = u → u ≠ 0 → u ≠ 100 → u ≠ 19 → P := fun a u P z q q0 q1 q2 => by
    rcases cs a u z q q0 with c | c
    · exact absurd c.2 q1
    · exact absurd c.2 q2
  refine ⟨inv_nw h hO (fun a ha => ⟨?_, rfl, rfl⟩) (fun _ _ => rfl) (fun _ => rfl) (fun _ z => z) hed (fun a z q => nt a 110 z q (by decide) (by decide) (by decide)) (fun a z q => nt a 5 z q (by decide) (by decide) (by decide)) (fun a z q => nt a 16 z q (by decide) (by decide) (by decide)) (fun a k y z q _ _ => nt a 108 z q (by decide) (by decide) (by decide)) (fun a z q => nt a 17 z q (by decide) (by decide) (by decide)) (fun a z q => ?_) (fun a z q => nt a 18 z q (by decide) (by decide) (by decide)), hO, tT, ?_, ?_, (sgLS_nw (inv_LS h) hO (fun a z q => nt a 110 z q (by decide) (by decide) (by decide)) (fun a z q => nt a 5 z q (by decide) (by decide) (by decide)) hed).2⟩
  · show (if a = t then p else gOw g a) = gOw g a
    rw [if_neg (fun z => ha (by rw [z]; exact ht))]
  · rcases cs a 19 z q (by decide) with c | c
    · exact absurd c.2 (by decide)
    · rw [c.1]
      refine ⟨b, by rw [trF_R, if_pos ⟨rfl, rfl⟩], tB, ?_⟩
      rw [trF_N, if_pos rfl]
      decide
  · rw [trF_I, if_pos ⟨rfl, rfl⟩]
  · rw [trF_I, if_neg (fun z => absurd z.2 (by decide)), if_neg (Ne.symm nbt), if_pos rfl]
theorem tr_row {F : SG} (h : Inv eda ia K g n S hw σ) (ht : sgT σ t = 0) (tF : sgT F t = 19) (hq : sgLq iX σ F) (tl : sgT σ l = 5) (rl : gRo g l = 7) (ol : gOw g l = p) : iEl ia (gT g t p) F l (sgSz F l) t ∧ ∀ j, j < sgSz F l → ¬ sgAt F l j = some t := by
  have nlt : l ≠ t := fun z => by rw [z, ht] at tl; exact absurd tl (by decide)
  constructor
  · unfold iEl
    rw [show gRo (gT g t p) l = 7 from rl]
    refine ⟨tF, ?_⟩
    show (if t = t then p else gOw g t) = (if l = t then p else gOw g l)
    rw [if_pos rfl, if_neg nlt, ol]
  · intro j hj z
    obtain ⟨e1, e2⟩ := hq l tl id
    rw [e1] at hj
    obtain ⟨y, q1, q2⟩ := inv_L h l tl j hj
    rw [e2 j hj, q1] at z
    unfold iEl at q2
    rw [rl] at q2
    have q3 : sgT σ y = 19 := q2.1
    rw [Option.some.inj z, ht] at q3
    exact absurd q3 (by decide)
theorem tr_x {F : SG} {g2 : GH} {x : Nat} (h : Inv eda ia K g n S hw σ) (hO : oFr σ F) (hd : ∀ k, gDv g2 k = gDv g k) (tp : sgT σ p = 18) (en : iEn g σ (sgI σ p 0).toInt.toNat (sgI σ p 1).toInt.toNat = some x) : ∀ e1 y, sgR F (pDv g2 F p) 13 = some e1 → sgR F e1 (sgI F p 1).toInt.toNat = some y → y = x := by
  intro e1 y h1 h2
  obtain ⟨e, x0, -, q1, q2, -, q3, -⟩ := inv_pe h tp
  obtain ⟨l, e', x', -, -, -, -, -, td, -⟩ := inv_P h p tp
  have op := (hO p (by rw [tp]; decide)).2.2
  have e0 : pDv g2 F p = pDv g σ p := by unfold pDv; rw [(op 0).1, hd]
  rw [e0, ((hO _ (by rw [td]; decide)).2.2 13).2, q1] at h1
  obtain rfl := Option.some.inj h1
  rw [(op 1).1, ((hO e (by rw [q2]; decide)).2.2 _).2, q3] at h2
  unfold iEn at en
  rw [show sgR σ (gDv g (sgI σ p 0).toInt.toNat) 13 = some e from q1] at en
  have en2 : sgR σ e (sgI σ p 1).toInt.toNat = some x := en
  exact Option.some.inj (h2.symm.trans (q3.symm.trans en2))
theorem nH_T (h : nH g) (ol : gOw g l = p) (hp : p ≠ gDv g 0) : nH (gT g t p) := fun a z => by
  have k1 : ∀ a, gOw (gT g t p) a = if a = t then p else gOw g a := fun _ => rfl
  have z2 : gOw (gT g t p) (gOw (gT g t p) a) = gDv g 0 := z
  by_cases c : gOw (gT g t p) a = t
  · rw [k1 (gOw (gT g t p) a), if_pos c] at z2
    exact hp z2
  · rw [k1 (gOw (gT g t p) a), if_neg c] at z2
    by_cases c3 : a = t
    · rw [k1 a, if_pos c3, ← ol] at z2
      exact h l z2
    · rw [k1 a, if_neg c3] at z2
      exact h a z2
end TRA
