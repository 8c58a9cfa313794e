section INVB
variable {eda n n2 S hl S2 hl2 : Nat} {ia : Nat → Nat} {K : KM} {g g2 : GH} {σ σ2 : SG}
/-- old cells keep their kinds and lengths -/
def tFr (σ σ2 : SG) : Prop := ∀ a, sgT σ a ≠ 0 → sgT σ2 a = sgT σ a ∧ sgN σ2 a = sgN σ a
/-- old cells keep their ghosts -/
def gFr (σ : SG) (g g2 : GH) : Prop := ∀ a, sgT σ a ≠ 0 → gOw g2 a = gOw g a ∧ gIx g2 a = gIx g a ∧ gRo g2 a = gRo g a
theorem gFr_rf : gFr σ g g := fun _ _ => ⟨rfl, rfl, rfl⟩
theorem tFr_rf : tFr σ σ := fun _ _ => ⟨rfl, rfl⟩
theorem tFr_tr {σ3 : SG} (h : tFr σ σ2) (h2 : tFr σ2 σ3) : tFr σ σ3 := fun a ha => by
  obtain ⟨e1, e2⟩ := h a ha
  obtain ⟨f1, f2⟩ := h2 a (by rw [e1]; exact ha)
  exact ⟨f1.trans e1, f2.trans e2⟩
theorem tFr_T (h : tFr σ σ2) {a t : Nat} (h1 : sgT σ a = t) (h0 : t ≠ 0) : sgT σ2 a = t := by rw [(h a (by rw [h1]; exact h0)).1]; exact h1
theorem tFr_N (h : tFr σ σ2) {a t : Nat} (h1 : sgT σ a = t) (h0 : t ≠ 0) : sgN σ2 a = sgN σ a := (h a (by rw [h1]; exact h0)).2
theorem sgBx_mono {y : Nat} (hT : tFr σ σ2) (h : sgBx ia σ y) : sgBx ia σ2 y := by
  rcases h with h | h
  · exact Or.inl (tFr_T hT h (by decide))
  · exact Or.inr h
theorem iEl_tr {l j y : Nat} (hT : tFr σ σ2) (hg : gFr σ g g2) (hl : sgT σ l ≠ 0) (hdv : gRo g l = 1 → gDv g2 j = gDv g j) (h : iEl ia g σ l j y) : iEl ia g2 σ2 l j y := by
  unfold iEl at h ⊢
  obtain ⟨q1, -, q3⟩ := hg l hl
  rw [q3]
  generalize gRo g l = r at h hdv ⊢
  match r, h, hdv with
  | 0, h, _ => exact sgBx_mono hT h
  | 1, h, hdv => exact ⟨tFr_T hT h.1 (by decide), (hdv rfl).trans h.2.1, (hg y (by rw [h.1]; decide)).2.1.trans h.2.2⟩
  | 2, h, _ => exact ⟨tFr_T hT h.1 (by decide), by rw [tFr_N hT h.1 (by decide)]; exact h.2⟩
  | 3, h, _ => exact sgBx_mono hT h
  | 4, h, _ => exact ⟨tFr_T hT h.1 (by decide), by rw [tFr_N hT h.1 (by decide)]; exact h.2⟩
  | 5, h, _ => exact sgBx_mono hT h
  | 6, h, _ => exact sgBx_mono hT h
  | 7, h, _ => exact ⟨tFr_T hT h.1 (by decide), by rw [q1, (hg y (by rw [h.1]; decide)).1]; exact h.2⟩
  | n + 8, h, _ => exact sgBx_mono hT h
theorem iL_tr (hT : tFr σ σ2) (hg : gFr σ g g2) (hdv : ∀ l j, sgT σ l = 5 → gRo g l = 1 → j < sgSz σ l → gDv g2 j = gDv g j) (h : iL ia g σ) (hs : ∀ l, sgT σ2 l = 5 → (sgT σ l = 5 ∧ sgSz σ2 l = sgSz σ l ∧ ∀ j, j < sgSz σ l → sgAt σ2 l j = sgAt σ l j) ∨ ∀ j, j < sgSz σ2 l → ∃ y, sgAt σ2 l j = some y ∧ iEl ia g2 σ2 l j y) : iL ia g2 σ2 := by
  intro l t2 j hj
  rcases hs l t2 with ⟨t1, e1, e2⟩ | q
  · rw [e1] at hj
    obtain ⟨y, q1, q2⟩ := h l t1 j hj
    exact ⟨y, by rw [e2 j hj]; exact q1, iEl_tr hT hg (by rw [t1]; decide) (fun z => hdv l j t1 z hj) q2⟩
  · exact q j hj
theorem iCap_mono (hS : S - hl ≤ S2 - hl2) (r : Nat) : iCap S hl r ≤ iCap S2 hl2 r := by
  unfold iCap
  match r with
  | 0 => exact hS
  | 1 => exact Nat.le_refl _
  | 2 => exact Nat.le_refl _
  | 3 => exact Nat.le_refl _
  | 4 => exact Nat.le_refl _
  | 5 => exact hS
  | 6 => exact hS
  | 7 => exact Nat.le_refl _
  | n + 8 => exact hS
theorem iB_tr (hg : gFr σ g g2) (h : iB g S hl σ) (hS : S - hl ≤ S2 - hl2) (hs : ∀ l, sgT σ2 l = 5 → (sgT σ l = 5 ∧ sgSz σ2 l ≤ sgSz σ l) ∨ sgSz σ2 l ≤ iCap S2 hl2 (gRo g2 l)) : iB g2 S2 hl2 σ2 := by
  intro l t2
  rcases hs l t2 with ⟨t1, e1⟩ | q
  · have := h l t1
    have q := iCap_mono hS (gRo g l)
    rw [(hg l (by rw [t1]; decide)).2.2]
    omega
  · exact q
theorem iD_tr (hT : tFr σ σ2) (hg : gFr σ g g2) (h : iD g σ) (hs : ∀ d, sgT σ2 d = 16 → (sgT σ d = 16 ∧ sgR σ2 d 13 = sgR σ d 13 ∧ sgR σ2 d 14 = sgR σ d 14 ∧ sgR σ2 d 15 = sgR σ d 15) ∨ iD1 g2 σ2 d) : iD g2 σ2 := by
  intro d t2
  rcases hs d t2 with ⟨t1, e1, e2, e3⟩ | q
  · obtain ⟨e, f, h, q1, q2, q3, q4, q5, q6, q7, q8, q9, q10⟩ := h d t1
    exact ⟨e, f, h, e1.trans q1, e2.trans q2, e3.trans q3, tFr_T hT q4 (by decide), (tFr_N hT q4 (by decide)).trans q5, (hg e (by rw [q4]; decide)).1.trans q6, tFr_T hT q7 (by decide), (tFr_N hT q7 (by decide)).trans q8, tFr_T hT q9 (by decide), (tFr_N hT q9 (by decide)).trans q10⟩
  · exact q
theorem iN_tr (hT : tFr σ σ2) (hg : gFr σ g g2) (h : iN g σ) (hs : ∀ e, sgT σ2 e = 108 → ∀ j x, j < 4 → sgR σ2 e j = some x → (sgT σ e = 108 ∧ sgR σ e j = some x) ∨ (sgT σ2 x = 17 ∧ gOw g2 x = e ∧ gIx g2 x = j)) : iN g2 σ2 := by
  intro e t2 j x hj hx
  rcases hs e t2 j x hj hx with ⟨t1, e1⟩ | q
  · obtain ⟨q1, q2, q3⟩ := h e t1 j x hj e1
    obtain ⟨w1, w2, -⟩ := hg x (by rw [q1]; decide)
    exact ⟨tFr_T hT q1 (by decide), w1.trans q2, w2.trans q3⟩
  · exact q
theorem iK1_tr {x l : Nat} (hT : tFr σ σ2) (hY : gY g x → gY g2 x) (h4 : sgI σ2 x 4 = sgI σ x 4) (hz : sgSz σ l ≤ sgSz σ2 l) (hc : gCp g2 x = gCp g x) (hk : ∀ p, sgT σ p = 18 → sgI σ2 p 2 = sgI σ p 2) (h : iK1 g σ x l) : iK1 g2 σ2 x l := by
  unfold iK1
  rw [h4, hc]
  rcases h with h | h | ⟨w1, w2, w3, w4, w5⟩
  · exact Or.inl (hY h)
  · exact Or.inr (Or.inl h)
  · exact Or.inr (Or.inr ⟨w1, w2, by omega, tFr_T hT w4 (by decide), by rw [hk _ w4]; exact w5⟩)
theorem iE_tr (hT : tFr σ σ2) (hg : gFr σ g g2) (h : iE g σ) (hs : ∀ x, sgT σ2 x = 17 → (sgT σ x = 17 ∧ sgR σ2 x 3 = sgR σ x 3 ∧ sgI σ2 x 1 = sgI σ x 1 ∧ ∀ l, sgR σ x 3 = some l → sgT σ l = 5 → gRo g l = 6 → gOw g l = x → iK1 g σ x l → iK1 g2 σ2 x l) ∨ iE1 g2 σ2 x) : iE g2 σ2 := by
  intro x t2
  rcases hs x t2 with ⟨t1, e1, e2, e3⟩ | q
  · obtain ⟨l, q1, q2, q3, q4, q5, q6, q7⟩ := h x t1
    obtain ⟨w1, -, w3⟩ := hg l (by rw [q2]; decide)
    exact ⟨l, e1.trans q1, tFr_T hT q2 (by decide), w3.trans q3, w1.trans q4, by rw [e2]; exact q5, by rw [e2]; exact q6, e3 l q1 q2 q3 q4 q7⟩
  · exact q
theorem iT_tr (hT : tFr σ σ2) (h : iT σ) (hs : ∀ t, sgT σ2 t = 19 → (sgT σ t = 19 ∧ sgR σ2 t 0 = sgR σ t 0) ∨ ∃ b : Nat, sgR σ2 t 0 = some b ∧ sgT σ2 b = 100 ∧ sgN σ2 b ≤ 16) : iT σ2 := by
  intro t t2
  rcases hs t t2 with ⟨t1, e1⟩ | q
  · obtain ⟨b, q1, q2, q3⟩ := h t t1
    exact ⟨b, e1.trans q1, tFr_T hT q2 (by decide), by rw [tFr_N hT q2 (by decide)]; exact q3⟩
  · exact q
theorem iW_tr {x t : Nat} (hT : tFr σ σ2) (hTT : iT σ) (ht : sgT σ t = 19) (h1 : sgI σ2 t 1 = sgI σ t 1) (h2 : sgI σ2 t 2 = sgI σ t 2) (h0 : sgI σ2 x 0 = sgI σ x 0) (hb : sgR σ2 t 0 = sgR σ t 0) (h : iW σ x t) : iW σ2 x t := by
  unfold iW at h ⊢
  rw [h1, h2, h0, hb]
  obtain ⟨w1, w2, w3, w4⟩ := h
  refine ⟨w1, w2, w3, fun q b hb2 => ?_⟩
  obtain ⟨b2, v1, v2, -⟩ := hTT t ht
  rw [v1] at hb2
  cases hb2
  rw [tFr_N hT v2 (by decide)]
  exact w4 q _ v1
/-- a row that is the same -/
theorem iRw_tr {x l : Nat} (hT : tFr σ σ2) (hTT : iT σ) (hz : sgSz σ2 l = sgSz σ l) (ha : ∀ j, j < sgSz σ l → sgAt σ2 l j = sgAt σ l j) (hx : sgI σ2 x 0 = sgI σ x 0) (hY : ∀ t, sgT σ t = 19 → gY g t → gY g2 t) (ht : ∀ t, sgT σ t = 19 → sgI σ2 t 1 = sgI σ t 1 ∧ sgR σ2 t 0 = sgR σ t 0 ∧ (sgI σ2 t 2 = sgI σ t 2 ∨ gY g2 t)) (h : iRw g σ l x) : iRw g2 σ2 l x := by
  obtain ⟨h1, h2⟩ := h
  refine ⟨fun j k t hj hk e1 e2 => ?_, fun j t hj e1 => ?_⟩
  · rw [hz] at hj hk
    rw [ha j hj] at e1
    rw [ha k hk] at e2
    exact h1 j k t hj hk e1 e2
  · rw [hz] at hj
    rw [ha j hj] at e1
    obtain ⟨w1, w2⟩ := h2 j t hj e1
    obtain ⟨v1, v2, v3⟩ := ht t w1
    refine ⟨tFr_T hT w1 (by decide), ?_⟩
    rcases w2 with w2 | w2
    · exact Or.inl (hY t w1 w2)
    · rcases v3 with v3 | v3
      · exact Or.inr (iW_tr hT hTT w1 v1 v3 hx v2 w2)
      · exact Or.inl v3
theorem iPn_tr {p : Nat} (hn : n ≤ n2) (hk : ∀ k, k ≤ 3 → sgI σ2 p k = sgI σ p k) (h : iPn σ n p) : iPn σ2 n2 p := by
  unfold iPn at h ⊢
  rw [hk 0 (by decide), hk 1 (by decide), hk 2 (by decide), hk 3 (by decide)]
  obtain ⟨h1, h2, h3⟩ := h
  exact ⟨h1, by omega, h3⟩
theorem iP_tr (hT : tFr σ σ2) (hg : gFr σ g g2) (h : iP g n σ) (hn : n ≤ n2) (hdv : ∀ k, k < n → gDv g2 k = gDv g k) (hRd : ∀ d, sgT σ d = 16 → sgR σ2 d 13 = sgR σ d 13) (hRe : ∀ e j x, sgT σ e = 108 → sgR σ e j = some x → sgR σ2 e j = some x) (hs : ∀ p, sgT σ2 p = 18 → (sgT σ p = 18 ∧ sgR σ2 p 9 = sgR σ p 9 ∧ (∀ k, k ≤ 3 → sgI σ2 p k = sgI σ p k) ∧ ∀ l e x, sgR σ p 9 = some l → sgT σ l = 5 → gRo g l = 7 → gOw g l = p → sgR σ (pDv g σ p) 13 = some e → sgR σ e (sgI σ p 1).toInt.toNat = some x → sgT σ x = 17 → iRw g σ l x → iRw g2 σ2 l x) ∨ iP1 g2 n2 σ2 p) : iP g2 n2 σ2 := by
  intro p t2
  rcases hs p t2 with ⟨t1, e1, e2, e3⟩ | q
  · obtain ⟨l, e, x, q1, q2, q3, q4, q5, q6, q7, q8, q9, q10, q11⟩ := h p t1
    obtain ⟨w1, -, w3⟩ := hg l (by rw [q2]; decide)
    have ed : pDv g2 σ2 p = pDv g σ p := by
      unfold pDv
      rw [e2 0 (by decide)]
      exact hdv _ (by have := q5.1; have := q5.2.1; omega)
    refine ⟨l, e, x, e1.trans q1, tFr_T hT q2 (by decide), w3.trans q3, w1.trans q4, iPn_tr hn e2 q5, by rw [ed]; exact tFr_T hT q6 (by decide), by rw [ed, hRd _ q6]; exact q7, tFr_T hT q8 (by decide), ?_, tFr_T hT q10 (by decide), e3 l e x q1 q2 q3 q4 q7 q9 q10 q11⟩
    rw [e2 1 (by decide)]
    exact hRe e _ x q8 q9
  · exact q
theorem iMr_tr (hT : tFr σ σ2) (hg : gFr σ g g2) (h : iMr K g σ) (hR : ∀ k, k = 1 ∨ k = 2 ∨ k = 3 ∨ k = 4 ∨ k = 5 ∨ k = 8 ∨ k = 12 → sgR σ2 (kA K) k = sgR σ (kA K) k) (hev : sgR σ2 (kA K) 6 = sgR σ (kA K) 6 ∨ ∃ ev : Nat, sgR σ2 (kA K) 6 = some ev ∧ sgT σ2 ev = 100 ∧ (sgN σ2 ev = 0 ∨ sgN σ2 ev = 3)) (h1 : ∀ l, sgT σ2 l = 5 → sgT σ l = 5 ∨ gRo g2 l ≠ 1) : iMr K g2 σ2 := by
  obtain ⟨m0, m1, m2, m3, m4, m5, m6, m7, ⟨d1, d2⟩, ⟨r1, r2⟩, ⟨y1, y2⟩, ⟨e1, e2⟩, ⟨g1, g2⟩, ⟨p1, p2⟩, ⟨q1, q2⟩, ⟨ev, n9, n10, n11⟩, n12⟩ := h
  have ro : ∀ l, sgT σ l = 5 → gRo _ l = gRo _ l := fun l hl => (hg l (by rw [hl]; decide)).2.2
  refine ⟨tFr_T hT m0 (by decide), (hR 1 (by decide)).trans m1, (hR 2 (by decide)).trans m2, (hR 3 (by decide)).trans m3, (hR 4 (by decide)).trans m4, (hR 5 (by decide)).trans m5, (hR 8 (by decide)).trans m6, (hR 12 (by decide)).trans m7, ⟨tFr_T hT d1 (by decide), (ro _ d1).trans d2⟩, ⟨tFr_T hT r1 (by decide), (ro _ r1).trans r2⟩, ⟨tFr_T hT y1 (by decide), (ro _ y1).trans y2⟩, ⟨tFr_T hT e1 (by decide), (ro _ e1).trans e2⟩, ⟨tFr_T hT g1 (by decide), (ro _ g1).trans g2⟩, ⟨tFr_T hT p1 (by decide), (tFr_N hT p1 (by decide)).trans p2⟩, ⟨tFr_T hT q1 (by decide), (tFr_N hT q1 (by decide)).trans q2⟩, ?_, fun l hl hr => ?_⟩
  · rcases hev with z | z
    · exact ⟨ev, z.trans n9, tFr_T hT n10 (by decide), by rw [tFr_N hT n10 (by decide)]; exact n11⟩
    · exact z
  · rcases h1 l hl with z | z
    · exact n12 l z ((ro l z).symm.trans hr)
    · exact absurd hr z
/-- what changes ints alone, and makes but boxes, iterators, arrays of ints, signs and booleans -/
theorem inv_ci {c2 : Nat → Nat} {y2 : Nat → Prop} (h : Inv eda ia K g n S hl σ) (hT : tFr σ σ2) (hn : ∀ a, sgT σ a = 0 → sgT σ2 a = 0 ∨ sgT σ2 a = 2 ∨ sgT σ2 a = 4 ∨ sgT σ2 a = 100 ∨ sgT σ2 a = 101 ∨ sgT σ2 a = 111) (he : sgT σ2 eda = 0) (hR : ∀ a k, sgT σ a ≠ 0 → ¬ sgT σ a = 4 → sgR σ2 a k = sgR σ a k)
    (h5 : ∀ a, sgT σ a = 5 → sgI σ2 a 2 = sgI σ a 2) (h17 : ∀ a, sgT σ a = 17 → sgI σ2 a 0 = sgI σ a 0 ∧ sgI σ2 a 1 = sgI σ a 1) (h18 : ∀ a k, sgT σ a = 18 → k ≤ 3 → sgI σ2 a k = sgI σ a k) (h19 : ∀ a, sgT σ a = 19 → sgI σ2 a 1 = sgI σ a 1 ∧ (sgI σ2 a 2 = sgI σ a 2 ∨ y2 a)) (hY : ∀ a, gY g a → y2 a)
    (hk : ∀ x l, sgT σ x = 17 → sgR σ x 3 = some l → gOw g l = x → (c2 x = gCp g x ∧ sgI σ2 x 4 = sgI σ x 4) ∨ y2 x ∨ (sgI σ2 x 4).toInt = -1 ∨ (1 ≤ (sgI σ2 x 4).toInt ∧ (sgI σ2 x 4).toInt ≤ 8 ∧ (sgI σ2 x 4).toInt ≤ sgSz σ l ∧ sgT σ (c2 x) = 18 ∧ ¬ sgI σ (c2 x) 2 = 115))
    (hS : S - hl ≤ S2 - hl2) (hM : iMi K S2 hl2 σ2) (hO : iO K (g.1, g.2.1, g.2.2.1, g.2.2.2.1, c2, y2) σ2) (hRr : iR (g.1, g.2.1, g.2.2.1, g.2.2.2.1, c2, y2) n σ2) : Inv eda ia K (g.1, g.2.1, g.2.2.1, g.2.2.2.1, c2, y2) n S2 hl2 σ2 := by
  have hLS := inv_LS h
  have bk : ∀ a t, sgT σ2 a = t → t ≠ 0 → t ≠ 2 → t ≠ 4 → t ≠ 100 → t ≠ 101 → t ≠ 111 → sgT σ a = t := fun a t h1 h2 h3 h4 h5 h6 h7 => by
    by_cases z : sgT σ a = 0
    · rcases hn a z with q | q | q | q | q | q <;> exact absurd (h1.symm.trans q) (by assumption)
    · rw [← (hT a z).1]; exact h1
  have fR : ∀ a t k, sgT σ a = t → t ≠ 0 → t ≠ 4 → sgR σ2 a k = sgR σ a k := fun a t k h1 h2 h3 => hR a k (by rw [h1]; exact h2) (by rw [h1]; exact h3)
  obtain ⟨hS2, hq⟩ := sgLS_fr hLS hT (fun a z => by rcases hn a z with q | q | q | q | q | q <;> exact ⟨by rw [q]; decide, by rw [q]; decide⟩) he (fun a ha => ⟨fR a 5 1 ha (by decide) (by decide), h5 a ha⟩) (fun a j ha => fR a 110 j ha (by decide) (by decide))
  have b5 : ∀ l, sgT σ2 l = 5 → sgT σ l = 5 := fun l hl => bk l 5 hl (by decide) (by decide) (by decide) (by decide) (by decide) (by decide)
  have hg : gFr σ g (g.1, g.2.1, g.2.2.1, g.2.2.2.1, c2, y2) := fun _ _ => ⟨rfl, rfl, rfl⟩
  refine ⟨hS2, iL_tr hT hg (fun _ _ _ _ _ => rfl) (inv_L h) (fun l t2 => Or.inl ⟨b5 l t2, hq l (b5 l t2) id⟩), iB_tr hg (inv_B h) hS (fun l t2 => Or.inl ⟨b5 l t2, Nat.le_of_eq (hq l (b5 l t2) id).1⟩), iD_tr hT hg (inv_D h) (fun d t2 => ?_), iN_tr hT hg (inv_N h) (fun e t2 j x hj hx => ?_), iE_tr hT hg (inv_E h) (fun x t2 => ?_), iT_tr hT (inv_T h) (fun t t2 => ?_), iP_tr hT hg (inv_P h) (Nat.le_refl _) (fun _ _ => rfl) (fun d hd => fR d 16 13 hd (by decide) (by decide)) (fun e j x he2 hx => by rw [fR e 108 j he2 (by decide) (by decide)]; exact hx) (fun p t2 => ?_), ⟨iMr_tr hT hg (inv_Mr h) (fun k _ => fR _ 20 k (inv_Mr h).1 (by decide) (by decide)) (Or.inl (fR _ 20 6 (inv_Mr h).1 (by decide) (by decide))) (fun l t2 => Or.inl (b5 l t2)), ?_, hM⟩, hO, hRr⟩
  · have t1 := bk d 16 t2 (by decide) (by decide) (by decide) (by decide) (by decide) (by decide)
    exact Or.inl ⟨t1, fR d 16 13 t1 (by decide) (by decide), fR d 16 14 t1 (by decide) (by decide), fR d 16 15 t1 (by decide) (by decide)⟩
  · have t1 := bk e 108 t2 (by decide) (by decide) (by decide) (by decide) (by decide) (by decide)
    rw [fR e 108 j t1 (by decide) (by decide)] at hx
    exact Or.inl ⟨t1, hx⟩
  · have t1 := bk x 17 t2 (by decide) (by decide) (by decide) (by decide) (by decide) (by decide)
    refine Or.inl ⟨t1, fR x 17 3 t1 (by decide) (by decide), (h17 x t1).2, fun l q1 q2 q3 q4 q5 => ?_⟩
    have ez := (hq l q2 id).1
    rcases hk x l t1 q1 q4 with ⟨z1, z2⟩ | z | z | ⟨z1, z2, z3, z4, z5⟩
    · exact iK1_tr hT (hY x) z2 (Nat.le_of_eq ez.symm) z1 (fun p hp => h18 p 2 hp (by decide)) q5
    · exact Or.inl z
    · exact Or.inr (Or.inl z)
    · exact Or.inr (Or.inr ⟨z1, z2, by rw [ez]; exact z3, tFr_T hT z4 (by decide), fun w => z5 ((h18 _ 2 z4 (by decide)).symm.trans w)⟩)
  · have t1 := bk t 19 t2 (by decide) (by decide) (by decide) (by decide) (by decide) (by decide)
    exact Or.inl ⟨t1, fR t 19 0 t1 (by decide) (by decide)⟩
  · have t1 := bk p 18 t2 (by decide) (by decide) (by decide) (by decide) (by decide) (by decide)
    refine Or.inl ⟨t1, fR p 18 9 t1 (by decide) (by decide), fun k hk => h18 p k t1 hk, fun l e x q1 q2 _ _ _ _ q7 q8 => ?_⟩
    exact iRw_tr hT (inv_T h) (hq l q2 id).1 (hq l q2 id).2 (h17 x q7).1 (fun t _ => hY t) (fun t ht => ⟨(h19 t ht).1, fR t 19 0 ht (by decide) (by decide), (h19 t ht).2⟩) q8
  · obtain ⟨⟨-, -, -, -, -, -, -, -, ⟨t1, -⟩, -⟩, ⟨e1, e2⟩, -⟩ := inv_M h
    exact ⟨(hq _ t1 id).1.trans e1, e2⟩
/-- the places of ints that the state's clauses speak of -/
def iCn (t k : Nat) : Prop := (t = 5 ∧ k = 2) ∨ (t = 16 ∧ (k = 0 ∨ k = 6 ∨ k = 7)) ∨ (t = 17 ∧ (k = 0 ∨ k = 1 ∨ k = 4)) ∨ (t = 18 ∧ k ≤ 3) ∨ (t = 19 ∧ (k = 1 ∨ k = 2)) ∨ (t = 20 ∧ (k = 9 ∨ k = 10 ∨ k = 11))
/-- the open pipes, where nothing changes for them -/
theorem iO_tr (h : Inv eda ia K g n S hl σ) (hg : ∀ x, gCp g2 x = gCp g x) (hdv : ∀ k, k < n → gDv g2 k = gDv g k) (hT : tFr σ σ2) (hP : ∀ k p, k < 12 → sgR σ2 (kP K) k = some p → sgR σ (kP K) k = some p) (h18 : ∀ p k, sgT σ p = 18 → k ≤ 1 → sgI σ2 p k = sgI σ p k) (hRd : ∀ d, sgT σ d = 16 → sgR σ2 d 13 = sgR σ d 13) (hRe : ∀ e j x, sgT σ e = 108 → sgR σ e j = some x → sgR σ2 e j = some x) (hu : ∀ d, sgT σ d = 16 → ¬ sgI σ d 6 = 117 → (∃ k p, k < 12 ∧ sgR σ2 (kP K) k = some p ∧ pDv g σ p = d) → ¬ sgI σ2 d 6 = 117) : iO K g2 σ2 := by
  intro k p hk hp
  obtain ⟨w1, w2, w3⟩ := inv_O h k p hk (hP k p hk hp)
  obtain ⟨l, e, x, q1, q2, q3, q4, q5, q6, q7, q8, q9, q10, q11⟩ := inv_P h p w1
  have ed : pDv g2 σ2 p = pDv g σ p := by
    unfold pDv
    rw [h18 p 0 w1 (by decide)]
    exact hdv _ (by have := q5.1; have := q5.2.1; omega)
  refine ⟨tFr_T hT w1 (by decide), ?_, ?_⟩
  · rw [ed, h18 p 1 w1 (by decide), hRd _ q6]
    intro e2 x2 h1 h2
    rw [q7] at h1
    cases h1
    rw [hRe e _ x q8 q9] at h2
    cases h2
    rw [hg]
    exact w2 e x q7 q9
  · rw [ed]; exact hu _ q6 w3 ⟨k, p, hk, hp, rfl⟩
theorem iHb_eq {k : Nat} (hd : gDv g2 k = gDv g k) (h : sgI σ2 (gDv g k) 7 = sgI σ (gDv g k) 7) : iHb g2 σ2 k = iHb g σ k := by unfold iHb; rw [hd, h]
theorem iSt_eq {k : Nat} (hd : gDv g2 k = gDv g k) (h : sgI σ2 (gDv g k) 6 = sgI σ (gDv g k) 6) : iSt g2 σ2 k = iSt g σ k := by unfold iSt; rw [hd, h]
/-- the tree, where nothing changes -/
theorem iR_tr (h : Inv eda ia K g n S hl σ) (hdv : ∀ k, k < n → gDv g2 k = gDv g k) (hY : ∀ k, k < n → gY g (gDv g k) → gY g2 (gDv g k)) (hI : ∀ a k, sgT σ a = 16 → (k = 0 ∨ k = 6 ∨ k = 7) → sgI σ2 a k = sgI σ a k) : iR g2 n σ2 := by
  have dv := fun k hk => (inv_dv (k := k) h hk).2.1
  have kh : ∀ k, k < n → iHb g2 σ2 k = iHb g σ k := fun k hk => iHb_eq (hdv k hk) (hI _ 7 (dv k hk) (by decide))
  have ks : ∀ k, k < n → iSt g2 σ2 k = iSt g σ k := fun k hk => iSt_eq (hdv k hk) (hI _ 6 (dv k hk) (by decide))
  have hn : 0 < n := (inv_M h).2.1.2
  obtain ⟨⟨rk, w1⟩, w2, w3, w4, w5, w6⟩ := inv_R h
  refine ⟨⟨rk, fun k hk => by rw [kh k hk]; exact w1 k hk⟩, fun k hk hy hh => ?_, fun k h1 hk hy => ?_, by rw [kh 0 hn]; exact w4, by rw [ks 0 hn]; exact w5, by rw [hdv 0 hn, hI _ 0 (dv 0 hn) (by decide)]; exact w6⟩
  · rw [kh k hk] at hh ⊢
    rw [hdv k hk] at hy
    rcases w1 k hk with q | ⟨q1, q2, q3⟩
    · exact absurd q hh
    · rw [ks _ (by omega)]
      exact w2 k hk (fun z => hy (hY k hk z)) hh
  · rw [kh k hk, ks k hk]
    rw [hdv k hk] at hy
    exact w3 k h1 hk (fun z => hy (hY k hk z))
/-- what changes none of the places that count -/
theorem inv_cg (h : Inv eda ia K g n S hl σ) (hT : tFr σ σ2) (hn : ∀ a, sgT σ a = 0 → sgT σ2 a = 0 ∨ sgT σ2 a = 2 ∨ sgT σ2 a = 4 ∨ sgT σ2 a = 100 ∨ sgT σ2 a = 101 ∨ sgT σ2 a = 111) (he : sgT σ2 eda = 0) (hR : ∀ a k, sgT σ a ≠ 0 → ¬ sgT σ a = 4 → sgR σ2 a k = sgR σ a k) (hI : ∀ a k, iCn (sgT σ a) k → sgI σ2 a k = sgI σ a k) : Inv eda ia K g n S hl σ2 := by
  have m0 := (inv_Mr h).1
  have p1 := (inv_Mr h).2.2.2.2.2.2.2.2.2.2.2.2.2.1.1
  have fR : ∀ a t k, sgT σ a = t → t ≠ 0 → t ≠ 4 → sgR σ2 a k = sgR σ a k := fun a t k h1 h2 h3 => hR a k (by rw [h1]; exact h2) (by rw [h1]; exact h3)
  have e16 : ∀ a k, sgT σ a = 16 → (k = 0 ∨ k = 6 ∨ k = 7) → sgI σ2 a k = sgI σ a k := fun a k ha hk => hI a k (Or.inr (Or.inl ⟨ha, hk⟩))
  refine inv_ci (c2 := g.2.2.2.2.1) (y2 := g.2.2.2.2.2) h hT hn he hR (fun a ha => hI a 2 (Or.inl ⟨ha, rfl⟩)) (fun a ha => ⟨hI a 0 (Or.inr (Or.inr (Or.inl ⟨ha, Or.inl rfl⟩))), hI a 1 (Or.inr (Or.inr (Or.inl ⟨ha, Or.inr (Or.inl rfl)⟩)))⟩) (fun a k ha hk => hI a k (Or.inr (Or.inr (Or.inr (Or.inl ⟨ha, hk⟩))))) (fun a ha => ⟨hI a 1 (Or.inr (Or.inr (Or.inr (Or.inr (Or.inl ⟨ha, Or.inl rfl⟩))))), Or.inl (hI a 2 (Or.inr (Or.inr (Or.inr (Or.inr (Or.inl ⟨ha, Or.inr rfl⟩))))))⟩) (fun _ z => z) (fun x l hx _ _ => Or.inl ⟨rfl, hI x 4 (Or.inr (Or.inr (Or.inl ⟨hx, Or.inr (Or.inr rfl)⟩)))⟩) (Nat.le_refl _) ?_ (iO_tr h (fun _ => rfl) (fun _ _ => rfl) hT (fun k p _ hp => by rw [← fR _ 109 k p1 (by decide) (by decide)]; exact hp) (fun p k hp hk => hI p k (Or.inr (Or.inr (Or.inr (Or.inl ⟨hp, by omega⟩))))) (fun d hd => fR d 16 13 hd (by decide) (by decide)) (fun e j x he2 hx => by rw [fR e 108 j he2 (by decide) (by decide)]; exact hx) (fun d hd hu _ => by rw [e16 d 6 hd (by decide)]; exact hu)) (iR_tr h (fun _ _ => rfl) (fun _ _ z => z) e16)
  have hMi := (inv_M h).2.2
  unfold iMi at hMi ⊢
  rw [hI _ 9 (by rw [m0]; unfold iCn; omega), hI _ 10 (by rw [m0]; unfold iCn; omega), hI _ 11 (by rw [m0]; unfold iCn; omega)]
  exact hMi
end INVB
