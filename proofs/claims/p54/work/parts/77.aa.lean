section AAA
/-! all of one list behind another -/
variable {eda l l1 r ra r2 sz m q q1 q2 w e : Nat} {ia : Nat → Nat} {X : Nat → Prop} {σ σ1 σ2 S : SG} {es : Nat → Nat} {x y0 : Int32}
def sgAm (l r sz m : Nat) (es : Nat → Nat) (σ σ2 : SG) : Prop := ∃ r2 : Nat, (r2 = r ∨ sgT σ r2 = 0) ∧ sgLs σ2 l r2 (sz + m) ∧ (∀ j, j < m → sgR σ2 r2 (sz + j) = some (es j)) ∧ (∀ j, j < sz → sgR σ2 r2 j = sgR σ r j) ∧ (∀ j y, sgR σ2 r2 j = some y → (∃ i, i < m ∧ y = es i) ∨ ∃ j2, sgT σ r = 110 ∧ sgR σ r j2 = some y) ∧ (r2 ≠ r → ∀ j, sgR σ2 r j = sgR σ r j) ∧ (∀ a, sgT σ a ≠ 0 → sgT σ2 a = sgT σ a ∧ sgN σ2 a = sgN σ a) ∧ (∀ a, sgT σ a = 0 → sgT σ2 a = 0 ∨ a = r2) ∧ ∀ a k, sgT σ a ≠ 0 → a ≠ l → sgI σ2 a k = sgI σ a k ∧ (a ≠ r → sgR σ2 a k = sgR σ a k)
theorem sgLS_am (h : sgLS eda ia X σ) (hx : ¬ X l) (hz : sgLz eda σ l r sz) (hs : sz + m < 100000) (hk : ∀ i, i < m → sgK ia σ (es i)) (ha : sgAm l r sz m es σ σ2) (he : sgT σ2 eda = 0) : sgLS eda ia X σ2 ∧ sgSz σ2 l = sz + m ∧ (∀ j, j < m → sgAt σ2 l (sz + j) = some (es j)) ∧ (∀ j, j < sz → sgAt σ2 l j = sgAt σ l j) ∧ sgLq (fun a => X a ∨ a = l) σ σ2 := by
  obtain ⟨r2, a1, a2, a3, a4, a5, a9, a6, a7, a8⟩ := ha
  obtain ⟨h1, h2, h3, h4⟩ := h
  have lR := sgLz_R hz
  have lT := sgLz_T hz
  have l2R := a2.2.1
  have hr20 : sgT σ2 r2 = 110 := a2.2.2.1
  have eSz : sgSz σ2 l = sz + m := by unfold sgSz; rw [a2.2.2.2.1]; rfl
  have b5 : ∀ a, sgT σ2 a = 5 → sgT σ a = 5 := fun a h5 => by
    by_cases z : sgT σ a = 0
    · rcases a7 a z with q | q
      · rw [q] at h5; exact absurd h5 (by decide)
      · rw [q, hr20] at h5; exact absurd h5 (by decide)
    · rw [← (a6 a z).1]; exact h5
  -- other lists
  have oth : ∀ l2, sgT σ l2 = 5 → l2 ≠ l → sgI σ2 l2 2 = sgI σ l2 2 ∧ sgR σ2 l2 1 = sgR σ l2 1 := fun l2 t2 ne => by
    have g := a8 l2 2 (by rw [t2]; decide) ne
    have g1 := a8 l2 1 (by rw [t2]; decide) ne
    refine ⟨g.1, g1.2 (fun z => ?_)⟩
    rcases sgLz_r hz with q | q
    · rw [z, q] at t2; rw [h4] at t2; exact absurd t2 (by decide)
    · rw [z, q] at t2; exact absurd t2 (by decide)
  have oS : ∀ l2, sgT σ l2 = 5 → l2 ≠ l → sgSz σ2 l2 = sgSz σ l2 := fun l2 t2 ne => by unfold sgSz; rw [(oth l2 t2 ne).1]
  -- another list's array
  have oA : ∀ l2 r9, sgT σ l2 = 5 → ¬ X l2 → l2 ≠ l → sgR σ l2 1 = some r9 → sgT σ r9 = 110 → r9 ≠ r ∧ ∀ j, sgR σ2 r9 j = sgR σ r9 j := fun l2 r9 t2 x2 ne q1 q2 => by
    have ner : r9 ≠ r := fun z => by
      subst z
      rcases h2 l2 l r9 t2 lT x2 hx q1 lR with q | q
      · exact ne q
      · rw [q, h4] at q2; exact absurd q2 (by decide)
    refine ⟨ner, fun j => ?_⟩
    have nel : r9 ≠ l := fun z => by rw [z, lT] at q2; exact absurd q2 (by decide)
    exact (a8 r9 j (by rw [q2]; decide) nel).2 ner
  refine ⟨⟨fun l2 t2 x2 => ?_, fun l2 l3 r9 t2 t3 x2 x3 q2 q3 => ?_, fun a j y ta hy => ?_, he⟩, eSz, fun j hj => by rw [sgAt_of l2R]; exact a3 j hj, fun j hj => by rw [sgAt_of l2R, sgAt_of lR]; exact a4 j hj, fun l2 t2 x2 => ?_⟩
  · by_cases ne : l2 = l
    · subst ne
      exact ⟨r2, by rw [eSz]; exact Or.inl a2, by rw [eSz]; exact hs⟩
    · have t5 := b5 l2 t2
      obtain ⟨r9, g1, g2⟩ := h1 l2 t5 x2
      refine ⟨r9, ?_, by rw [oS l2 t5 ne]; exact g2⟩
      rw [oS l2 t5 ne]
      obtain ⟨o1, o2⟩ := oth l2 t5 ne
      rcases g1 with ⟨c1, c2, c3, c4, c5, c6⟩ | ⟨c1, c2, c3, c4, c5⟩
      · have := a6 r9 (by rw [c3]; decide)
        exact Or.inl ⟨t2, by rw [o2]; exact c2, by rw [this.1]; exact c3, by rw [o1]; exact c4, by rw [this.2]; exact c5, by rw [this.2]; exact c6⟩
      · exact Or.inr ⟨t2, by rw [o2]; exact c2, c3, c4, by rw [o1]; exact c5⟩
  · have u2 := b5 l2 t2
    have u3 := b5 l3 t3
    have fresh : ∀ l4, sgT σ l4 = 5 → ¬ X l4 → l4 ≠ l → sgR σ l4 1 ≠ some r2 := fun l4 t4 x4 n4 q => by
      obtain ⟨r9, g1, -⟩ := h1 l4 t4 x4
      rw [sgLz_R g1] at q
      cases q
      rcases sgLz_r g1 with z | z
      · rw [z, he] at hr20; exact absurd hr20 (by decide)
      · rcases a1 with w | w
        · exact (oA l4 r2 t4 x4 n4 (sgLz_R g1) z).1 w
        · rw [w] at z; exact absurd z (by decide)
    by_cases n2 : l2 = l
    · by_cases n3 : l3 = l
      · exact Or.inl (n2.trans n3.symm)
      · subst n2
        rw [l2R] at q2
        cases q2
        rw [(oth l3 u3 n3).2] at q3
        exact absurd q3 (fresh l3 u3 x3 n3)
    · rw [(oth l2 u2 n2).2] at q2
      by_cases n3 : l3 = l
      · subst n3
        rw [l2R] at q3
        cases q3
        exact absurd q2 (fresh l2 u2 x2 n2)
      · rw [(oth l3 u3 n3).2] at q3
        exact h2 l2 l3 r9 u2 u3 x2 x3 q2 q3
  · have hTm : ∀ b, sgT σ b ≠ 0 → sgT σ2 b = sgT σ b := fun b hb => (a6 b hb).1
    by_cases n : a = r2
    · subst n
      rcases a5 j y hy with ⟨i, q0, q⟩ | ⟨j2, q1, q2⟩
      · rw [q]; exact sgK_mono hTm (hk i q0)
      · exact sgK_mono hTm (h3 r j2 y q1 q2)
    · have ta0 : sgT σ a = 110 := by
        by_cases z : sgT σ a = 0
        · rcases a7 a z with q | q
          · rw [q] at ta; exact absurd ta (by decide)
          · exact absurd q n
        · rw [← (a6 a z).1]; exact ta
      have nel : a ≠ l := fun z => by rw [z, lT] at ta0; exact absurd ta0 (by decide)
      have g := a8 a j (by rw [ta0]; decide) nel
      by_cases ner : a = r
      · subst ner
        rw [a9 (fun z => n z.symm) j] at hy
        exact sgK_mono hTm (h3 a j y ta0 hy)
      · rw [g.2 ner] at hy
        exact sgK_mono hTm (h3 a j y ta0 hy)
  · have x2' : ¬ X l2 := fun z => x2 (Or.inl z)
    have n2 : l2 ≠ l := fun z => x2 (Or.inr z)
    refine ⟨oS l2 t2 n2, fun j hj => ?_⟩
    obtain ⟨r9, g1, -⟩ := h1 l2 t2 x2'
    have gR := sgLz_R g1
    rw [sgAt_of gR, sgAt_of (by rw [(oth l2 t2 n2).2]; exact gR)]
    have gs := sgLz_s g1 (by omega)
    exact (oA l2 r9 t2 x2' n2 gR gs.2.2.1).2 j
/-- a new array that no list has -/
theorem sgLS_nq (h : sgLS eda ia X σ) (hO : oFr σ σ2) (hn : ∀ a, sgT σ a = 0 → sgT σ2 a = 0 ∨ a = q) (tq : sgT σ2 q = 110) (hel : ∀ j y, sgR σ2 q j = some y → sgK ia σ y) (he : sgT σ2 eda = 0) : sgLS eda ia X σ2 ∧ sgLq X σ σ2 := by
  have old : ∀ a t, sgT σ2 a = t → sgT σ a ≠ 0 → sgT σ a = t := fun a t h1 h0 => by rw [← (hO a h0).1]; exact h1
  have eS : ∀ a, sgT σ a = 5 → sgSz σ2 a = sgSz σ a := fun a h5 => by unfold sgSz; rw [((hO a (by rw [h5]; decide)).2.2 2).1]
  have b5 : ∀ l, sgT σ2 l = 5 → sgT σ l = 5 := fun l h5 => by
    by_cases z : sgT σ l = 0
    · rcases hn l z with w | w
      · rw [w] at h5; exact absurd h5 (by decide)
      · rw [w, tq] at h5; exact absurd h5 (by decide)
    · exact old l 5 h5 z
  obtain ⟨h1, h2, h3, h4⟩ := h
  refine ⟨⟨fun l t2 hx => ?_, fun l l2 r g1 g2 x1 x2 g3 g4 => ?_, fun a j y g1 g2 => ?_, he⟩, fun l hl5 hx => ⟨eS l hl5, fun j hj => ?_⟩⟩
  · have l5 := b5 l t2
    obtain ⟨hT, hN, hk⟩ := hO l (by rw [l5]; decide)
    obtain ⟨r, g1, g2⟩ := h1 l l5 hx
    refine ⟨r, ?_, by rw [eS l l5]; exact g2⟩
    rw [eS l l5]
    rcases g1 with ⟨c1, c2, c3, c4, c5, c6⟩ | ⟨c1, c2, c3, c4, c5⟩
    · have hr := hO r (by rw [c3]; decide)
      exact Or.inl ⟨t2, by rw [(hk 1).2]; exact c2, by rw [hr.1]; exact c3, by rw [(hk 2).1]; exact c4, by rw [hr.2.1]; exact c5, by rw [hr.2.1]; exact c6⟩
    · exact Or.inr ⟨t2, by rw [(hk 1).2]; exact c2, c3, c4, by rw [(hk 2).1]; exact c5⟩
  · have z := b5 l g1
    have z2 := b5 l2 g2
    exact h2 l l2 r z z2 x1 x2 (by rw [← ((hO l (by rw [z]; decide)).2.2 1).2]; exact g3) (by rw [← ((hO l2 (by rw [z2]; decide)).2.2 1).2]; exact g4)
  · have hTm : ∀ b, sgT σ b ≠ 0 → sgT σ2 b = sgT σ b := fun b hb => (hO b hb).1
    by_cases z : sgT σ a = 0
    · rcases hn a z with w | w
      · rw [w] at g1; exact absurd g1 (by decide)
      · rw [w] at g2; exact sgK_mono hTm (hel j y g2)
    · rw [((hO a z).2.2 j).2] at g2
      exact sgK_mono hTm (h3 a j y (old a 110 g1 z) g2)
  · obtain ⟨r, g1, -⟩ := h1 l hl5 hx
    have gR := sgLz_R g1
    rw [sgAt_of gR, sgAt_of (by rw [((hO l (by rw [hl5]; decide)).2.2 1).2]; exact gR)]
    have gs := sgLz_s g1 (by omega)
    exact ((hO r (by rw [gs.2.2.1]; decide)).2.2 j).2
theorem oFr_Cp {σ0 : SG} {a0 a1 sp dp n : Nat} (h : oFr σ0 σ) (ha : sgT σ0 a1 = 0) : oFr σ0 (sgCp σ a0 a1 sp dp n) := fun b hb => by
  obtain ⟨h1, h2, h3⟩ := h b hb
  refine ⟨h1, h2, fun j => ⟨(h3 j).1, ?_⟩⟩
  rw [sgCp_R, if_neg (fun z => hb (by rw [z]; exact ha))]
  exact (h3 j).2
theorem sgLs_oFr (h : sgLs σ l r sz) (hO : oFr σ σ2) : sgLs σ2 l r sz := by
  obtain ⟨h1, h2, h3, h4, h5, h6⟩ := h
  obtain ⟨a1, a2, a3⟩ := hO l (by rw [h1]; decide)
  obtain ⟨b1, b2, b3⟩ := hO r (by rw [h3]; decide)
  exact ⟨a1.trans h1, (a3 1).2.trans h2, b1.trans h3, by rw [(a3 2).1]; exact h4, by rw [b2]; exact h5, by rw [b2]; exact h6⟩
/-- the copy that addAll takes -/
def aaC (σ : SG) (ra q m : Nat) : SG := sgCp (sgNw σ q 110 m) ra q 0 0 (min (sgN σ ra) m)
def aaE (σ : SG) (ra j : Nat) : Nat := (sgR σ ra j).getD 0
theorem aa_0 (hL : sgLs σ l1 ra m) (hq : sgT σ q = 0) (hall : ∀ j, j < m → ∃ y, sgR σ ra j = some y) : sgT (aaC σ ra q m) q = 110 ∧ sgN (aaC σ ra q m) q = m ∧ (∀ j, j < m → sgR (aaC σ ra q m) q j = some (aaE σ ra j)) ∧ oFr σ (aaC σ ra q m) ∧ (∀ a, sgT σ a = 0 → sgT (aaC σ ra q m) a = 0 ∨ a = q) ∧ (∀ j y, sgR (aaC σ ra q m) q j = some y → ∃ j2, j2 < m ∧ sgR σ ra j2 = some y) := by
  obtain ⟨h1, h2, h3, h4, h5, h6⟩ := hL
  have hrq : ra ≠ q := fun z => by rw [z, hq] at h3; exact absurd h3 (by decide)
  have hR : ∀ j, sgR (aaC σ ra q m) q j = if j < m then sgR σ ra j else none := fun j => by
    show (if q = q then va_cpy (sgR (sgNw σ q 110 m) ra) (sgR (sgNw σ q 110 m) q) 0 0 (min (sgN σ ra) m) j else _) = _
    rw [if_pos rfl]
    unfold va_cpy
    by_cases c : j < m
    · rw [if_pos ⟨Nat.zero_le _, by omega⟩, if_pos c, sgNw_R, if_neg hrq, show 0 + (j - 0) = j by omega]
    · rw [if_neg (fun z => c (by have := z.2; omega)), if_neg c, sgNw_R, if_pos rfl]
  refine ⟨?_, ?_, fun j hj => ?_, oFr_Cp (oFr_nw oFr_rf hq) hq, fun a z => ?_, fun j y hy => ?_⟩
  · show sgT (sgNw σ q 110 m) q = 110
    rw [sgNw_T, if_pos rfl]
  · show sgN (sgNw σ q 110 m) q = m
    rw [sgNw_N, if_pos rfl]
  · rw [hR, if_pos hj]
    obtain ⟨y, hy⟩ := hall j hj
    unfold aaE
    rw [hy]
    rfl
  · by_cases c : a = q
    · exact Or.inr c
    · refine Or.inl ?_
      show sgT (sgNw σ q 110 m) a = 0
      rw [sgNw_T, if_neg c]
      exact z
  · rw [hR] at hy
    by_cases c : j < m
    · rw [if_pos c] at hy
      exact ⟨j, c, hy⟩
    · rw [if_neg c] at hy
      exact absurd hy (by simp)
theorem aa_am (t5 : sgT S l = 5) (hR : sgR S l 1 = some r2) (t2 : sgT S r2 = 110) (hc : sz + m ≤ sgN S r2) (hc2 : sgN S r2 < 1000000) (hr : r2 = r ∨ sgT σ r2 = 0) (e1 : ∀ j, j < sz → sgR S r2 j = sgR σ r j) (e2 : ∀ j y, sgR S r2 j = some y → ∃ j2, sgT σ r = 110 ∧ sgR σ r j2 = some y) (e3 : r2 ≠ r → ∀ j, sgR S r j = sgR σ r j) (fT : ∀ a, sgT σ a ≠ 0 → sgT S a = sgT σ a ∧ sgN S a = sgN σ a) (fn : ∀ a, sgT σ a = 0 → sgT S a = 0 ∨ a = r2) (fF : ∀ a k, sgT σ a ≠ 0 → a ≠ l → sgI S a k = sgI σ a k ∧ (a ≠ r → sgR S a k = sgR σ a k)) (eq : ∀ j, j < m → sgR S q1 j = some (es j)) (hx : x.toInt = ((sz + m : Nat) : Int)) : sgAm l r sz m es σ (sgPI (sgCp S q1 r2 0 sz m) l 2 x) := by
  have hl : l ≠ r2 := fun z => by rw [z, t2] at t5; exact absurd t5 (by decide)
  have fR : ∀ b j, sgR (sgPI (sgCp S q1 r2 0 sz m) l 2 x) b j = if b = r2 then va_cpy (sgR S q1) (sgR S r2) 0 sz m j else sgR S b j := fun _ _ => rfl
  refine ⟨r2, hr, ⟨t5, ?_, t2, ?_, hc, hc2⟩, fun j hj => ?_, fun j hj => ?_, fun j y hy => ?_, fun ne j => ?_, fT, fn, fun a k h0 hal => ⟨?_, fun har => ?_⟩⟩
  · rw [fR, if_neg hl]
    exact hR
  · show (if l = l ∧ 2 = 2 then x else _ : Int32).toInt = _
    rw [if_pos ⟨rfl, rfl⟩]
    exact hx
  · rw [fR, if_pos rfl]
    unfold va_cpy
    rw [if_pos ⟨by omega, by omega⟩, show 0 + (sz + j - sz) = j by omega]
    exact eq j hj
  · rw [fR, if_pos rfl]
    unfold va_cpy
    rw [if_neg (fun z => by have := z.1; omega)]
    exact e1 j hj
  · rw [fR, if_pos rfl] at hy
    unfold va_cpy at hy
    by_cases c : sz ≤ j ∧ j < sz + m
    · rw [if_pos c, show 0 + (j - sz) = j - sz by omega, eq (j - sz) (by omega)] at hy
      exact Or.inl ⟨j - sz, by omega, (Option.some.inj hy).symm⟩
    · rw [if_neg c] at hy
      exact Or.inr (e2 j y hy)
  · rw [fR, if_neg (fun z => ne z.symm)]
    exact e3 ne j
  · show (if a = l ∧ k = 2 then x else sgI S a k) = _
    rw [if_neg (fun z => hal z.1)]
    exact (fF a k h0 hal).1
  · rw [fR, if_neg (fun z => by
      rcases hr with w | w
      · exact har (z.trans w)
      · exact h0 (by rw [z]; exact w))]
    exact (fF a k h0 hal).2 har
theorem aa_1 (hL : sgLs σ l r sz) (hc : sz + m ≤ sgN σ r) (eq : ∀ j, j < m → sgR σ q1 j = some (es j)) (hx : x.toInt = ((sz + m : Nat) : Int)) : sgAm l r sz m es σ (sgPI (sgCp (sgPI σ l 0 y0) q1 r 0 sz m) l 2 x) := by
  obtain ⟨h1, h2, h3, h4, h5, h6⟩ := hL
  exact aa_am h1 h2 h3 hc h6 (Or.inl rfl) (fun _ _ => rfl) (fun j y hy => ⟨j, h3, hy⟩) (fun _ _ => rfl) (fun _ _ => ⟨rfl, rfl⟩) (fun _ z => Or.inl z) (fun a k _ ha => ⟨by rw [sgI_PI, if_neg (fun z => ha z.1)], fun _ => rfl⟩) eq hx
theorem aa_2 (hL : sgLs σ l r sz) (hq2 : sgT σ q2 = 0) (hw : sz + m ≤ w) (hw2 : w < 1000000) (tq1 : sgT σ q1 = 110) (eq : ∀ j, j < m → sgR σ q1 j = some (es j)) (hx : x.toInt = ((sz + m : Nat) : Int)) : sgAm l r sz m es σ (sgPI (sgCp (sgPR (sgCp (sgNw (sgPI σ l 0 y0) q2 110 w) r q2 0 0 (min (sgN σ r) w)) l 1 (some q2)) q1 q2 0 sz m) l 2 x) := by
  obtain ⟨h1, h2, h3, h4, h5, h6⟩ := hL
  have hlq : l ≠ q2 := fun z => by rw [z, hq2] at h1; exact absurd h1 (by decide)
  have hrq : r ≠ q2 := fun z => by rw [z, hq2] at h3; exact absurd h3 (by decide)
  have hqq : q1 ≠ q2 := fun z => by rw [z, hq2] at tq1; exact absurd tq1 (by decide)
  have hql : q1 ≠ l := fun z => by rw [z, h1] at tq1; exact absurd tq1 (by decide)
  have hrl : r ≠ l := fun z => by rw [z, h1] at h3; exact absurd h3 (by decide)
  have fR : ∀ b j, sgR (sgPR (sgCp (sgNw (sgPI σ l 0 y0) q2 110 w) r q2 0 0 (min (sgN σ r) w)) l 1 (some q2)) b j = if b = l ∧ j = 1 then some q2 else if b = q2 then va_cpy (sgR (sgNw (sgPI σ l 0 y0) q2 110 w) r) (sgR (sgNw (sgPI σ l 0 y0) q2 110 w) q2) 0 0 (min (sgN σ r) w) j else if b = q2 then none else sgR σ b j := fun _ _ => rfl
  have fT : ∀ b, sgT (sgPR (sgCp (sgNw (sgPI σ l 0 y0) q2 110 w) r q2 0 0 (min (sgN σ r) w)) l 1 (some q2)) b = if b = q2 then 110 else sgT σ b := fun _ => rfl
  have fN : ∀ b, sgN (sgPR (sgCp (sgNw (sgPI σ l 0 y0) q2 110 w) r q2 0 0 (min (sgN σ r) w)) l 1 (some q2)) b = if b = q2 then w else sgN σ b := fun _ => rfl
  have fI : ∀ b j, sgI (sgPR (sgCp (sgNw (sgPI σ l 0 y0) q2 110 w) r q2 0 0 (min (sgN σ r) w)) l 1 (some q2)) b j = if b = q2 then 0 else if b = l ∧ j = 0 then y0 else sgI σ b j := fun _ _ => rfl
  have eR : ∀ j, sgR (sgPR (sgCp (sgNw (sgPI σ l 0 y0) q2 110 w) r q2 0 0 (min (sgN σ r) w)) l 1 (some q2)) q2 j = if j < min (sgN σ r) w then sgR σ r j else none := fun j => by
    rw [fR, if_neg (fun z => hlq z.1.symm), if_pos rfl]
    unfold va_cpy
    by_cases c : j < min (sgN σ r) w
    · rw [if_pos ⟨Nat.zero_le _, by omega⟩, if_pos c, sgNw_R, if_neg hrq, show 0 + (j - 0) = j by omega]
      rfl
    · rw [if_neg (fun z => c (by have := z.2; omega)), if_neg c, sgNw_R, if_pos rfl]
  refine aa_am (r2 := q2) (by rw [fT, if_neg hlq]; exact h1) (by rw [fR, if_pos ⟨rfl, rfl⟩]) (by rw [fT, if_pos rfl]) (by rw [fN, if_pos rfl]; exact hw) (by rw [fN, if_pos rfl]; exact hw2) (Or.inr hq2) (fun j hj => by rw [eR, if_pos (by omega)]) (fun j y hy => ?_) (fun _ j => by rw [fR, if_neg (fun z => hrl z.1), if_neg hrq, if_neg hrq]) (fun a ha => ?_) (fun a z => ?_) (fun a k h0 ha => ⟨?_, fun har => ?_⟩) (fun j hj => by rw [fR, if_neg (fun z => hql z.1), if_neg hqq, if_neg hqq]; exact eq j hj) hx
  · rw [eR] at hy
    by_cases c : j < min (sgN σ r) w
    · rw [if_pos c] at hy
      exact ⟨j, h3, hy⟩
    · rw [if_neg c] at hy
      exact absurd hy (by simp)
  · have ne : a ≠ q2 := fun z => ha (by rw [z]; exact hq2)
    exact ⟨by rw [fT, if_neg ne], by rw [fN, if_neg ne]⟩
  · by_cases c : a = q2
    · exact Or.inr c
    · exact Or.inl (by rw [fT, if_neg c]; exact z)
  · have ne : a ≠ q2 := fun z => h0 (by rw [z]; exact hq2)
    rw [fI, if_neg ne, if_neg (fun z => ha z.1)]
  · have ne : a ≠ q2 := fun z => h0 (by rw [z]; exact hq2)
    rw [fR, if_neg (fun z => ha z.1), if_neg ne, if_neg ne]
theorem aa_3 (h1 : sgT σ l = 5) (he0 : sgT σ eda = 0) (heq : eda ≠ q2) (hq2 : sgT σ q2 = 0) (hw : m ≤ w) (hw2 : w < 1000000) (tq1 : sgT σ q1 = 110) (eq : ∀ j, j < m → sgR σ q1 j = some (es j)) (hx : x.toInt = ((0 + m : Nat) : Int)) : sgAm l eda 0 m es σ (sgPI (sgCp (sgPR (sgNw (sgPI σ l 0 y0) q2 110 w) l 1 (some q2)) q1 q2 0 0 m) l 2 x) := by
  have hlq : l ≠ q2 := fun z => by rw [z, hq2] at h1; exact absurd h1 (by decide)
  have hqq : q1 ≠ q2 := fun z => by rw [z, hq2] at tq1; exact absurd tq1 (by decide)
  have hql : q1 ≠ l := fun z => by rw [z, h1] at tq1; exact absurd tq1 (by decide)
  have hel : eda ≠ l := fun z => by rw [z, h1] at he0; exact absurd he0 (by decide)
  have fR : ∀ b j, sgR (sgPR (sgNw (sgPI σ l 0 y0) q2 110 w) l 1 (some q2)) b j = if b = l ∧ j = 1 then some q2 else if b = q2 then none else sgR σ b j := fun _ _ => rfl
  have fT : ∀ b, sgT (sgPR (sgNw (sgPI σ l 0 y0) q2 110 w) l 1 (some q2)) b = if b = q2 then 110 else sgT σ b := fun _ => rfl
  have fN : ∀ b, sgN (sgPR (sgNw (sgPI σ l 0 y0) q2 110 w) l 1 (some q2)) b = if b = q2 then w else sgN σ b := fun _ => rfl
  have fI : ∀ b j, sgI (sgPR (sgNw (sgPI σ l 0 y0) q2 110 w) l 1 (some q2)) b j = if b = q2 then 0 else if b = l ∧ j = 0 then y0 else sgI σ b j := fun _ _ => rfl
  refine aa_am (r2 := q2) (by rw [fT, if_neg hlq]; exact h1) (by rw [fR, if_pos ⟨rfl, rfl⟩]) (by rw [fT, if_pos rfl]) (by rw [fN, if_pos rfl]; omega) (by rw [fN, if_pos rfl]; exact hw2) (Or.inr hq2) (fun j hj => absurd hj (Nat.not_lt_zero j)) (fun j y hy => ?_) (fun _ j => by rw [fR, if_neg (fun z => hel z.1), if_neg heq]) (fun a ha => ?_) (fun a z => ?_) (fun a k h0 ha => ⟨?_, fun har => ?_⟩) (fun j hj => by rw [fR, if_neg (fun z => hql z.1), if_neg hqq]; exact eq j hj) hx
  · rw [fR, if_neg (fun z => hlq z.1.symm), if_pos rfl] at hy
    exact absurd hy (by simp)
  · have ne : a ≠ q2 := fun z => ha (by rw [z]; exact hq2)
    exact ⟨by rw [fT, if_neg ne], by rw [fN, if_neg ne]⟩
  · by_cases c : a = q2
    · exact Or.inr c
    · exact Or.inl (by rw [fT, if_neg c]; exact z)
  · have ne : a ≠ q2 := fun z => h0 (by rw [z]; exact hq2)
    rw [fI, if_neg ne, if_neg (fun z => ha z.1)]
  · have ne : a ≠ q2 := fun z => h0 (by rw [z]; exact hq2)
    rw [fR, if_neg (fun z => ha z.1), if_neg ne]
end AAA
section AAB
variable {eda n S hw : Nat} {ia : Nat → Nat} {K : KM} {g : GH} {σ σ2 : SG} {q l r sz m : Nat} {es : Nat → Nat}
/-- a new array beside the lists -/
theorem inv_nq (h : Inv eda ia K g n S hw σ) (hO : oFr σ σ2) (hn : ∀ a, sgT σ a = 0 → sgT σ2 a = 0 ∨ a = q) (tq : sgT σ2 q = 110) (hel : ∀ j y, sgR σ2 q j = some y → sgK ia σ y) (he : sgT σ2 eda = 0) : Inv eda ia K g n S hw σ2 ∧ sgLq iX σ σ2 := by
  obtain ⟨h1, h2⟩ := sgLS_nq (inv_LS h) hO hn tq hel he
  have hT : tFr σ σ2 := fun a ha => ⟨(hO a ha).1, (hO a ha).2.1⟩
  have tT := inv_tT h
  obtain ⟨z1, z2⟩ := h2 (kT K) tT.1 id
  refine ⟨inv_ls (l0 := kT K) h hT (fun a z => (hn a z).imp id (fun w => by rw [w]; exact tq)) (fun a k h0 _ => ((hO a h0).2.2 k).1) (fun a k h0 _ _ => ((hO a h0).2.2 k).2) h1 (fun l h5 hx => h2 l h5 (fun z => hx (Or.inl z))) tT.1 (Or.inl ⟨inv_nD h (by rw [tT.2]; decide), rfl⟩) (fun j hj => ?_) (by rw [z1]; exact inv_B h (kT K) tT.1) (fun z => absurd (tT.2.symm.trans z) (by decide)) (fun z => absurd (tT.2.symm.trans z) (by decide)), h2⟩
  rw [z1] at hj
  obtain ⟨y, w1, w2⟩ := inv_L h (kT K) tT.1 j hj
  exact ⟨y, (z2 j hj).trans w1, iEl_tr hT gFr_rf (by rw [tT.1]; decide) (fun _ => rfl) w2⟩
/-- several elements behind the others -/
theorem inv_am (h : Inv eda ia K g n S hw σ) (ht : sgT σ l = 5) (h6 : gRo g l = 6) (hz : sgLz eda σ l r sz) (ha : sgAm l r sz m es σ σ2) (he : sgT σ2 eda = 0) (hE : ∀ j, j < m → sgBx ia σ (es j)) (hcap : sz + m ≤ S - hw) : Inv eda ia K g n S hw σ2 ∧ tFr σ σ2 := by
  have hsz : sz = sgSz σ l := (sgLz_Sz hz).symm
  have c2 := (inv_M h).2.2.2.2
  obtain ⟨g1, g2, g3, g4, g5⟩ := sgLS_am (X := iX) (inv_LS h) id hz (by omega) (fun i hi => sgBx_K (hE i hi)) ha he
  obtain ⟨r2, a1, a2, a3, a4, a5, a9, a6, a7, a8⟩ := ha
  have hr110 : sgT σ2 r2 = 110 := a2.2.2.1
  have hrr : r = eda ∨ sgT σ r = 110 := sgLz_r hz
  refine ⟨inv_ls (l0 := l) h a6 (fun a z => (a7 a z).imp id (fun w => by rw [w]; exact hr110)) (fun a k h0 h5 => (a8 a k h0 (fun z => h5 (by rw [z]; exact ht))).1) (fun a k h0 h5 h110 => (a8 a k h0 (fun z => h5 (by rw [z]; exact ht))).2 (fun z => ?_)) g1 g5 ht (Or.inl ⟨inv_nD h (by rw [h6]; decide), rfl⟩) (fun j hj => ?_) ?_ (fun _ _ => Or.inl (by rw [g2]; omega)) (fun z => absurd (h6.symm.trans z) (by decide)), a6⟩
  · rcases hrr with q | q
    · exact h0 (by rw [z, q]; exact (inv_LS h).2.2.2)
    · exact h110 (by rw [z]; exact q)
  · rw [g2] at hj
    by_cases c : j < sz
    · obtain ⟨y, w1, w2⟩ := inv_L h l ht j (by omega)
      exact ⟨y, by rw [g4 j c]; exact w1, iEl_tr a6 gFr_rf (by rw [ht]; decide) (fun _ => rfl) w2⟩
    · refine ⟨es (j - sz), ?_, ?_⟩
      · rw [← g3 (j - sz) (by omega)]
        congr 1
        omega
      · unfold iEl
        rw [h6]
        exact sgBx_mono a6 (hE (j - sz) (by omega))
  · rw [g2, h6]
    exact hcap
end AAB
