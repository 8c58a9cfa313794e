/-! the layer of lists: sizes and elements, apart from arrays -/
def sgSz (σ : SG) (l : Nat) : Nat := (sgI σ l 2).toInt.toNat
def sgAt (σ : SG) (l j : Nat) : Option Nat := match sgR σ l 1 with
  | some r => sgR σ r j
  | none => none
theorem sgAt_of {σ : SG} {l r j : Nat} (h : sgR σ l 1 = some r) : sgAt σ l j = sgR σ r j := by unfold sgAt; rw [h]
/-- every list but the exempt ones stands; no two have an array in common; what arrays hold -/
def sgLS (eda : Nat) (ia : Nat → Nat) (X : Nat → Prop) (σ : SG) : Prop := (∀ l, sgT σ l = 5 → ¬ X l → ∃ r, sgLz eda σ l r (sgSz σ l) ∧ sgSz σ l < 100000) ∧ (∀ l l2 r, sgT σ l = 5 → sgT σ l2 = 5 → ¬ X l → ¬ X l2 → sgR σ l 1 = some r → sgR σ l2 1 = some r → l = l2 ∨ r = eda) ∧ (∀ a j y, sgT σ a = 110 → sgR σ a j = some y → sgK ia σ y) ∧ sgT σ eda = 0
/-- the lists that stand say the same -/
def sgLq (X : Nat → Prop) (σ σ2 : SG) : Prop := ∀ l, sgT σ l = 5 → ¬ X l → sgSz σ2 l = sgSz σ l ∧ ∀ j, j < sgSz σ l → sgAt σ2 l j = sgAt σ l j
theorem sgLq_rf {X : Nat → Prop} {σ : SG} : sgLq X σ σ := fun _ _ _ => ⟨rfl, fun _ _ => rfl⟩
section LSA
variable {eda l r e sz : Nat} {ia : Nat → Nat} {X : Nat → Prop} {σ σ2 : SG}
theorem sgLz_R (h : sgLz eda σ l r sz) : sgR σ l 1 = some r := by
  rcases h with h | h
  · exact h.2.1
  · exact h.2.1
theorem sgLz_T (h : sgLz eda σ l r sz) : sgT σ l = 5 := by
  rcases h with h | h
  · exact h.1
  · exact h.1
theorem sgLz_r (h : sgLz eda σ l r sz) : r = eda ∨ sgT σ r = 110 := by
  rcases h with h | h
  · exact Or.inr h.2.2.1
  · exact Or.inl h.2.2.1
theorem sgLz_sz (h : sgLz eda σ l r sz) : (sgI σ l 2).toInt = sz := by
  rcases h with h | ⟨h1, h2, h3, h4, h5⟩
  · exact h.2.2.2.1
  · rw [h5, h4]; rfl
theorem sgLz_Sz (h : sgLz eda σ l r sz) : sgSz σ l = sz := by
  unfold sgSz
  rw [sgLz_sz h]; rfl
theorem sgK_mono {y : Nat} (hT : ∀ a, sgT σ a ≠ 0 → sgT σ2 a = sgT σ a) (h : sgK ia σ y) : sgK ia σ2 y := by
  have key : ∀ t0 : Nat, t0 ≠ 0 → sgT σ y = t0 → sgT σ2 y = t0 := fun t0 h0 h1 => by rw [hT y (by rw [h1]; exact h0)]; exact h1
  rcases h with h | h | h | h | h
  · exact Or.inl (key 2 (by decide) h)
  · exact Or.inr (Or.inl (key 16 (by decide) h))
  · exact Or.inr (Or.inr (Or.inl (key 19 (by decide) h)))
  · exact Or.inr (Or.inr (Or.inr (Or.inl (key 100 (by decide) h))))
  · exact Or.inr (Or.inr (Or.inr (Or.inr h)))
/-- a list that has an element has an array of its own -/
theorem sgLz_s (h : sgLz eda σ l r sz) (h0 : 0 < sz) : sgLs σ l r sz := by
  rcases h with h | ⟨-, -, -, h4, -⟩
  · exact h
  · omega
/-- what changes no list -/
theorem sgLS_fr (h : sgLS eda ia X σ) (hT : ∀ a, sgT σ a ≠ 0 → sgT σ2 a = sgT σ a ∧ sgN σ2 a = sgN σ a) (hn : ∀ a, sgT σ a = 0 → sgT σ2 a ≠ 5 ∧ sgT σ2 a ≠ 110) (he : sgT σ2 eda = 0) (hl : ∀ a, sgT σ a = 5 → sgR σ2 a 1 = sgR σ a 1 ∧ sgI σ2 a 2 = sgI σ a 2) (ha : ∀ a j, sgT σ a = 110 → sgR σ2 a j = sgR σ a j) : sgLS eda ia X σ2 ∧ sgLq X σ σ2 := by
  have b5 : ∀ a, sgT σ2 a = 5 → sgT σ a = 5 := fun a h5 => by
    by_cases z : sgT σ a = 0
    · exact absurd h5 (hn a z).1
    · rw [← (hT a z).1]; exact h5
  have b110 : ∀ a, sgT σ2 a = 110 → sgT σ a = 110 := fun a h5 => by
    by_cases z : sgT σ a = 0
    · exact absurd h5 (hn a z).2
    · rw [← (hT a z).1]; exact h5
  have eS : ∀ a, sgT σ a = 5 → sgSz σ2 a = sgSz σ a := fun a h5 => by unfold sgSz; rw [(hl a h5).2]
  obtain ⟨h1, h2, h3, h4⟩ := h
  refine ⟨⟨fun l hl5 hx => ?_, fun l l2 r g1 g2 x1 x2 g3 g4 => ?_, fun a j y g1 g2 => ?_, he⟩, fun l hl5 hx => ⟨eS l hl5, fun j hj => ?_⟩⟩
  · have l5 := b5 l hl5
    obtain ⟨r, g1, g2⟩ := h1 l l5 hx
    refine ⟨r, ?_, by rw [eS l l5]; exact g2⟩
    rw [eS l l5]
    rcases g1 with ⟨c1, c2, c3, c4, c5, c6⟩ | ⟨c1, c2, c3, c4, c5⟩
    · exact Or.inl ⟨hl5, by rw [(hl l l5).1]; exact c2, by rw [(hT r (by rw [c3]; decide)).1]; exact c3, by rw [(hl l l5).2]; exact c4, by rw [(hT r (by rw [c3]; decide)).2]; exact c5, by rw [(hT r (by rw [c3]; decide)).2]; exact c6⟩
    · exact Or.inr ⟨hl5, by rw [(hl l l5).1]; exact c2, c3, c4, by rw [(hl l l5).2]; exact c5⟩
  · exact h2 l l2 r (b5 l g1) (b5 l2 g2) x1 x2 (by rw [← (hl l (b5 l g1)).1]; exact g3) (by rw [← (hl l2 (b5 l2 g2)).1]; exact g4)
  · have := b110 a g1
    rw [ha a j this] at g2
    exact sgK_mono (fun b hb => (hT b hb).1) (h3 a j y this g2)
  · obtain ⟨r, g1, -⟩ := h1 l hl5 hx
    have gR := sgLz_R g1
    rw [sgAt_of gR, sgAt_of (by rw [(hl l hl5).1]; exact gR)]
    have gs := sgLz_s g1 (by omega)
    exact ha r j gs.2.2.1
/-- an element is put behind the others -/
theorem sgLS_ad (h : sgLS eda ia X σ) (hx : ¬ X l) (hz : sgLz eda σ l r sz) (hs : sz + 1 < 100000) (hk : sgK ia σ e) (ha : sgAd l r e sz σ σ2) (he : sgT σ2 eda = 0) : sgLS eda ia X σ2 ∧ sgSz σ2 l = sz + 1 ∧ sgAt σ2 l sz = some e ∧ (∀ j, j < sz → sgAt σ2 l j = sgAt σ l j) ∧ sgLq (fun a => X a ∨ a = l) σ σ2 := by
  obtain ⟨r2, a1, a2, a3, a4, a5, a9, a6, a7, a8⟩ := ha
  obtain ⟨h1, h2, h3, h4⟩ := h
  have lR := sgLz_R hz
  have lT := sgLz_T hz
  have l2R := a2.2.1
  have hr20 : sgT σ2 r2 = 110 := a2.2.2.1
  have eSz : sgSz σ2 l = sz + 1 := by unfold sgSz; rw [a2.2.2.2.1]; rfl
  have b5 : ∀ a, sgT σ2 a = 5 → sgT σ a = 5 := fun a h5 => by
    by_cases z : sgT σ a = 0
    · rcases a7 a z with q | q
      · rw [q] at h5; exact absurd h5 (by decide)
      · rw [q, hr20] at h5; exact absurd h5 (by decide)
    · rw [← (a6 a z).1]; exact h5
  -- other lists
  have oth : ∀ l2, sgT σ l2 = 5 → l2 ≠ l → sgI σ2 l2 2 = sgI σ l2 2 ∧ sgR σ2 l2 1 = sgR σ l2 1 := fun l2 t2 ne => by
    have g := (a8 l2 2 (by rw [t2]; decide)).2 ne
    have g1 := (a8 l2 1 (by rw [t2]; decide)).2 ne
    refine ⟨g.1, g1.2 (fun z => ?_)⟩
    rcases sgLz_r hz with q | q
    · rw [z, q] at t2; rw [h4] at t2; exact absurd t2 (by decide)
    · rw [z, q] at t2; exact absurd t2 (by decide)
  have oS : ∀ l2, sgT σ l2 = 5 → l2 ≠ l → sgSz σ2 l2 = sgSz σ l2 := fun l2 t2 ne => by unfold sgSz; rw [(oth l2 t2 ne).1]
  -- another list's array
  have oA : ∀ l2 r9, sgT σ l2 = 5 → ¬ X l2 → l2 ≠ l → sgR σ l2 1 = some r9 → sgT σ r9 = 110 → r9 ≠ r ∧ ∀ j, sgR σ2 r9 j = sgR σ r9 j := fun l2 r9 t2 x2 ne q1 q2 => by
    have ner : r9 ≠ r := fun z => by
      subst z
      rcases h2 l2 l r9 t2 lT x2 hx q1 lR with q | q
      · exact ne q
      · rw [q, h4] at q2; exact absurd q2 (by decide)
    refine ⟨ner, fun j => ?_⟩
    have nel : r9 ≠ l := fun z => by rw [z, lT] at q2; exact absurd q2 (by decide)
    exact ((a8 r9 j (by rw [q2]; decide)).2 nel).2 ner
  refine ⟨⟨fun l2 t2 x2 => ?_, fun l2 l3 r9 t2 t3 x2 x3 q2 q3 => ?_, fun a j y ta hy => ?_, he⟩, eSz, by rw [sgAt_of l2R]; exact a3, fun j hj => by rw [sgAt_of l2R, sgAt_of lR]; exact a4 j hj, fun l2 t2 x2 => ?_⟩
  · by_cases ne : l2 = l
    · subst ne
      exact ⟨r2, by rw [eSz]; exact Or.inl a2, by rw [eSz]; exact hs⟩
    · have t5 := b5 l2 t2
      obtain ⟨r9, g1, g2⟩ := h1 l2 t5 x2
      refine ⟨r9, ?_, by rw [oS l2 t5 ne]; exact g2⟩
      rw [oS l2 t5 ne]
      obtain ⟨o1, o2⟩ := oth l2 t5 ne
      rcases g1 with ⟨c1, c2, c3, c4, c5, c6⟩ | ⟨c1, c2, c3, c4, c5⟩
      · have := a6 r9 (by rw [c3]; decide)
        exact Or.inl ⟨t2, by rw [o2]; exact c2, by rw [this.1]; exact c3, by rw [o1]; exact c4, by rw [this.2]; exact c5, by rw [this.2]; exact c6⟩
      · exact Or.inr ⟨t2, by rw [o2]; exact c2, c3, c4, by rw [o1]; exact c5⟩
  · have u2 := b5 l2 t2
    have u3 := b5 l3 t3
    have fresh : ∀ l4, sgT σ l4 = 5 → ¬ X l4 → l4 ≠ l → sgR σ l4 1 ≠ some r2 := fun l4 t4 x4 n4 q => by
      obtain ⟨r9, g1, -⟩ := h1 l4 t4 x4
      rw [sgLz_R g1] at q
      cases q
      rcases sgLz_r g1 with z | z
      · rw [z, he] at hr20; exact absurd hr20 (by decide)
      · rcases a1 with w | w
        · exact (oA l4 r2 t4 x4 n4 (sgLz_R g1) z).1 w
        · rw [w] at z; exact absurd z (by decide)
    by_cases n2 : l2 = l
    · by_cases n3 : l3 = l
      · exact Or.inl (n2.trans n3.symm)
      · subst n2
        rw [l2R] at q2
        cases q2
        rw [(oth l3 u3 n3).2] at q3
        exact absurd q3 (fresh l3 u3 x3 n3)
    · rw [(oth l2 u2 n2).2] at q2
      by_cases n3 : l3 = l
      · subst n3
        rw [l2R] at q3
        cases q3
        exact absurd q2 (fresh l2 u2 x2 n2)
      · rw [(oth l3 u3 n3).2] at q3
        exact h2 l2 l3 r9 u2 u3 x2 x3 q2 q3
  · have hTm : ∀ b, sgT σ b ≠ 0 → sgT σ2 b = sgT σ b := fun b hb => (a6 b hb).1
    by_cases n : a = r2
    · subst n
      rcases a5 j y hy with q | ⟨j2, q1, q2⟩
      · subst q; exact sgK_mono hTm hk
      · exact sgK_mono hTm (h3 r j2 y q1 q2)
    · have ta0 : sgT σ a = 110 := by
        by_cases z : sgT σ a = 0
        · rcases a7 a z with q | q
          · rw [q] at ta; exact absurd ta (by decide)
          · exact absurd q n
        · rw [← (a6 a z).1]; exact ta
      have nel : a ≠ l := fun z => by rw [z, lT] at ta0; exact absurd ta0 (by decide)
      have g := (a8 a j (by rw [ta0]; decide)).2 nel
      by_cases ner : a = r
      · subst ner
        rw [a9 (fun z => n z.symm) j] at hy
        exact sgK_mono hTm (h3 a j y ta0 hy)
      · rw [g.2 ner] at hy
        exact sgK_mono hTm (h3 a j y ta0 hy)
  · have x2' : ¬ X l2 := fun z => x2 (Or.inl z)
    have n2 : l2 ≠ l := fun z => x2 (Or.inr z)
    refine ⟨oS l2 t2 n2, fun j hj => ?_⟩
    obtain ⟨r9, g1, -⟩ := h1 l2 t2 x2'
    have gR := sgLz_R g1
    rw [sgAt_of gR, sgAt_of (by rw [(oth l2 t2 n2).2]; exact gR)]
    have gs := sgLz_s g1 (by omega)
    exact (oA l2 r9 t2 x2' n2 gR gs.2.2.1).2 j
end LSA
section LSB
variable {eda l r e sz s2 : Nat} {ia : Nat → Nat} {X : Nat → Prop} {σ σ2 : SG}
/-- a list and its array alone have changed, and the list is no longer -/
theorem sgLS_on (h : sgLS eda ia X σ) (hx : ¬ X l) (hz : sgLz eda σ l r sz) (ho : sgOn l r σ σ2) (hs : (sgI σ2 l 2).toInt = s2) (h2s : s2 ≤ sz) (hR1 : sgR σ2 l 1 = some r) (hel : ∀ j y, sgT σ r = 110 → sgR σ2 r j = some y → ∃ j2, sgR σ r j2 = some y) : sgLS eda ia X σ2 ∧ sgSz σ2 l = s2 ∧ sgLz eda σ2 l r s2 ∧ sgLq (fun a => X a ∨ a = l) σ σ2 := by
  obtain ⟨h1, h2, h3, h4⟩ := h
  have lR := sgLz_R hz
  have lT := sgLz_T hz
  have hT : ∀ a, sgT σ2 a = sgT σ a := fun a => (ho.1 a).1
  have hN : ∀ a, sgN σ2 a = sgN σ a := fun a => (ho.1 a).2
  have eSz : sgSz σ2 l = s2 := by unfold sgSz; rw [hs]; rfl
  have nr : ∀ l2, sgT σ l2 = 5 → l2 ≠ r := fun l2 t2 z => by
    rcases sgLz_r hz with q | q
    · rw [z, q, h4] at t2; exact absurd t2 (by decide)
    · rw [z, q] at t2; exact absurd t2 (by decide)
  have oth : ∀ l2, sgT σ l2 = 5 → l2 ≠ l → sgI σ2 l2 2 = sgI σ l2 2 ∧ sgR σ2 l2 1 = sgR σ l2 1 := fun l2 t2 ne => ⟨ho.2.2.1 l2 2 ne, ho.2.2.2 l2 1 (nr l2 t2)⟩
  have oS : ∀ l2, sgT σ l2 = 5 → l2 ≠ l → sgSz σ2 l2 = sgSz σ l2 := fun l2 t2 ne => by unfold sgSz; rw [(oth l2 t2 ne).1]
  have zl : sgLz eda σ2 l r s2 := by
    rcases hz with ⟨c1, c2, c3, c4, c5, c6⟩ | ⟨c1, c2, c3, c4, c5⟩
    · exact Or.inl ⟨by rw [hT]; exact c1, hR1, by rw [hT]; exact c3, hs, by rw [hN]; omega, by rw [hN]; exact c6⟩
    · exact Or.inr ⟨by rw [hT]; exact c1, hR1, c3, by omega, by rw [hs]; omega⟩
  have oA : ∀ l2 r9, sgT σ l2 = 5 → ¬ X l2 → l2 ≠ l → sgR σ l2 1 = some r9 → sgT σ r9 = 110 → ∀ j, sgR σ2 r9 j = sgR σ r9 j := fun l2 r9 t2 x2 ne q1 q2 j => by
    refine ho.2.2.2 r9 j (fun z => ?_)
    subst z
    rcases h2 l2 l r9 t2 lT x2 hx q1 lR with q | q
    · exact ne q
    · rw [q, h4] at q2; exact absurd q2 (by decide)
  have R1 : ∀ l2, sgT σ l2 = 5 → sgR σ2 l2 1 = sgR σ l2 1 := fun l2 t2 => ho.2.2.2 l2 1 (nr l2 t2)
  refine ⟨⟨fun l2 t2 x2 => ?_, fun l2 l3 r9 t2 t3 x2 x3 q2 q3 => ?_, fun a j y ta hy => ?_, by rw [hT]; exact h4⟩, eSz, zl, fun l2 t2 x2 => ?_⟩
  · by_cases ne : l2 = l
    · subst ne
      obtain ⟨r0, z0, b0⟩ := h1 l2 lT x2
      have := sgLz_Sz hz
      exact ⟨r, by rw [eSz]; exact zl, by rw [eSz]; omega⟩
    · rw [hT] at t2
      obtain ⟨r9, g1, g2⟩ := h1 l2 t2 x2
      refine ⟨r9, ?_, by rw [oS l2 t2 ne]; exact g2⟩
      rw [oS l2 t2 ne]
      obtain ⟨o1, o2⟩ := oth l2 t2 ne
      rcases g1 with ⟨c1, c2, c3, c4, c5, c6⟩ | ⟨c1, c2, c3, c4, c5⟩
      · exact Or.inl ⟨by rw [hT]; exact c1, by rw [o2]; exact c2, by rw [hT]; exact c3, by rw [o1]; exact c4, by rw [hN]; exact c5, by rw [hN]; exact c6⟩
      · exact Or.inr ⟨by rw [hT]; exact c1, by rw [o2]; exact c2, c3, c4, by rw [o1]; exact c5⟩
  · rw [hT] at t2 t3
    rw [R1 l2 t2] at q2
    rw [R1 l3 t3] at q3
    exact h2 l2 l3 r9 t2 t3 x2 x3 q2 q3
  · rw [hT] at ta
    have hTm : ∀ b, sgT σ b ≠ 0 → sgT σ2 b = sgT σ b := fun b _ => hT b
    by_cases n : a = r
    · subst n
      obtain ⟨j2, q⟩ := hel j y ta hy
      exact sgK_mono hTm (h3 a j2 y ta q)
    · rw [ho.2.2.2 a j n] at hy
      exact sgK_mono hTm (h3 a j y ta hy)
  · have x2' : ¬ X l2 := fun z => x2 (Or.inl z)
    have n2 : l2 ≠ l := fun z => x2 (Or.inr z)
    refine ⟨oS l2 t2 n2, fun j hj => ?_⟩
    obtain ⟨r9, g1, -⟩ := h1 l2 t2 x2'
    have gR := sgLz_R g1
    rw [sgAt_of gR, sgAt_of (by rw [(oth l2 t2 n2).2]; exact gR)]
    have gs := sgLz_s g1 (by omega)
    exact oA l2 r9 t2 x2' n2 gR gs.2.2.1 j
/-- the first element is gone -/
theorem sgLS_rm (h : sgLS eda ia X σ) (hx : ¬ X l) (hL : sgLs σ l r sz) (h0 : 0 < sz) (ho : sgOn l r σ σ2) (hs : (sgI σ2 l 2).toInt = (sz : Int) - 1) (hR1 : sgR σ2 l 1 = some r) (hsh : ∀ j, j + 1 < sz → sgR σ2 r j = sgR σ r (j + 1)) (hel : ∀ j y, sgR σ2 r j = some y → ∃ j2, sgR σ r j2 = some y) : sgLS eda ia X σ2 ∧ sgSz σ2 l = sz - 1 ∧ (∀ j, j + 1 < sz → sgAt σ2 l j = sgAt σ l (j + 1)) ∧ sgLq (fun a => X a ∨ a = l) σ σ2 := by
  obtain ⟨g1, g2, g3, g4⟩ := sgLS_on (s2 := sz - 1) h hx (Or.inl hL) ho (by omega) (by omega) hR1 (fun j y _ => hel j y)
  exact ⟨g1, g2, fun j hj => by rw [sgAt_of hR1, sgAt_of hL.2.1]; exact hsh j hj, g4⟩
end LSB
