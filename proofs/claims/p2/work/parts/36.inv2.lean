section INVB
variable {eda n S hl : Nat} {ia : Nat → Nat} {X : Nat → Prop} {K : KM} {g : GH} {σ σ2 : SG}
theorem sgBx_mono {y : Nat} (hT : ∀ a, sgT σ a ≠ 0 → sgT σ2 a = sgT σ a) (h : sgBx ia σ y) : sgBx ia σ2 y := by
  rcases h with h | h
  · exact Or.inl (by rw [hT y (by rw [h]; decide)]; exact h)
  · exact Or.inr h
theorem iEl_mono {l j y : Nat} (hT : ∀ a, sgT σ a ≠ 0 → sgT σ2 a = sgT σ a ∧ sgN σ2 a = sgN σ a) (h : iEl ia g σ l j y) : iEl ia g σ2 l j y := by
  have hT1 : ∀ a, sgT σ a ≠ 0 → sgT σ2 a = sgT σ a := fun a ha => (hT a ha).1
  unfold iEl at h ⊢
  generalize gRo g l = r at h ⊢
  match r, h with
  | 0, h => exact sgBx_mono hT1 h
  | 1, h => exact ⟨by rw [hT1 y (by rw [h.1]; decide)]; exact h.1, h.2⟩
  | 2, h => exact ⟨by rw [hT1 y (by rw [h.1]; decide)]; exact h.1, by rw [(hT y (by rw [h.1]; decide)).2]; exact h.2⟩
  | 3, h => exact sgBx_mono hT1 h
  | 4, h => exact ⟨by rw [hT1 y (by rw [h.1]; decide)]; exact h.1, by rw [(hT y (by rw [h.1]; decide)).2]; exact h.2⟩
  | 5, h => exact sgBx_mono hT1 h
  | 6, h => exact sgBx_mono hT1 h
  | 7, h => exact ⟨by rw [hT1 y (by rw [h.1]; decide)]; exact h.1, h.2⟩
  | n + 8, h => exact sgBx_mono hT1 h
/-- what changes none of the places that count -/
theorem inv_cg (h : Inv eda ia X K g n S hl σ) (hT : ∀ a, sgT σ a ≠ 0 → sgT σ2 a = sgT σ a ∧ sgN σ2 a = sgN σ a) (hn : ∀ a, sgT σ a = 0 → sgT σ2 a = 0 ∨ sgT σ2 a = 2 ∨ sgT σ2 a = 4 ∨ sgT σ2 a = 100 ∨ sgT σ2 a = 101 ∨ sgT σ2 a = 111) (he : sgT σ2 eda = 0) (hR : ∀ a k, sgT σ a ≠ 0 → ¬ sgT σ a = 4 → sgR σ2 a k = sgR σ a k) (hI : ∀ a k, iCn (sgT σ a) k → sgI σ2 a k = sgI σ a k) : Inv eda ia X K g n S hl σ2 := by
  have dv := fun k hk => inv_dv (k := k) h hk
  obtain ⟨hS, hL, hB, hD, hN, hE, hTr, hP, hM, hO, hRr⟩ := h
  have fw : ∀ a t, sgT σ a = t → t ≠ 0 → sgT σ2 a = t := fun a t h1 h2 => by rw [(hT a (by rw [h1]; exact h2)).1]; exact h1
  have fN : ∀ a t, sgT σ a = t → t ≠ 0 → sgN σ2 a = sgN σ a := fun a t h1 h2 => (hT a (by rw [h1]; exact h2)).2
  have bk : ∀ a t, sgT σ2 a = t → t ≠ 0 → t ≠ 2 → t ≠ 4 → t ≠ 100 → t ≠ 101 → t ≠ 111 → sgT σ a = t := fun a t h1 h2 h3 h4 h5 h6 h7 => by
    by_cases z : sgT σ a = 0
    · rcases hn a z with q | q | q | q | q | q <;> exact absurd (h1.symm.trans q) (by assumption)
    · rw [← (hT a z).1]; exact h1
  have fR : ∀ a t k, sgT σ a = t → t ≠ 0 → t ≠ 4 → sgR σ2 a k = sgR σ a k := fun a t k h1 h2 h3 => hR a k (by rw [h1]; exact h2) (by rw [h1]; exact h3)
  obtain ⟨hS2, hq⟩ := sgLS_fr hS hT (fun a z => by rcases hn a z with q | q | q | q | q | q <;> exact ⟨by rw [q]; decide, by rw [q]; decide⟩) he (fun a ha => ⟨fR a 5 1 ha (by decide) (by decide), hI a 2 (Or.inl ⟨ha, rfl⟩)⟩) (fun a j ha => fR a 110 j ha (by decide) (by decide))
  have b5 : ∀ l, sgT σ2 l = 5 → sgT σ l = 5 := fun l hl => bk l 5 hl (by decide) (by decide) (by decide) (by decide) (by decide) (by decide)
  have eI16 : ∀ d k, sgT σ d = 16 → (k = 0 ∨ k = 6 ∨ k = 7) → sgI σ2 d k = sgI σ d k := fun d k hd hk => hI d k (Or.inr (Or.inl ⟨hd, hk⟩))
  have eI17 : ∀ d k, sgT σ d = 17 → (k = 0 ∨ k = 1 ∨ k = 4) → sgI σ2 d k = sgI σ d k := fun d k hd hk => hI d k (Or.inr (Or.inr (Or.inl ⟨hd, hk⟩)))
  have eI18 : ∀ d k, sgT σ d = 18 → k ≤ 3 → sgI σ2 d k = sgI σ d k := fun d k hd hk => hI d k (Or.inr (Or.inr (Or.inr (Or.inl ⟨hd, hk⟩))))
  have eI19 : ∀ d k, sgT σ d = 19 → (k = 1 ∨ k = 2) → sgI σ2 d k = sgI σ d k := fun d k hd hk => hI d k (Or.inr (Or.inr (Or.inr (Or.inr (Or.inl ⟨hd, hk⟩)))))
  have eI20 : ∀ d k, sgT σ d = 20 → (k = 9 ∨ k = 10 ∨ k = 11) → sgI σ2 d k = sgI σ d k := fun d k hd hk => hI d k (Or.inr (Or.inr (Or.inr (Or.inr (Or.inr ⟨hd, hk⟩)))))
  refine ⟨hS2, fun l t2 x2 j hj => ?_, fun l t2 x2 => ?_, fun d t2 x2 => ?_, fun e t2 j x hj hx => ?_, fun x t2 x2 => ?_, fun t t2 x2 => ?_, fun p t2 x2 => ?_, ?_, fun k p hk hp => ?_, ?_⟩
  · have t1 := b5 l t2
    obtain ⟨z1, z2⟩ := hq l t1 x2
    rw [z1] at hj
    obtain ⟨y, q1, q2⟩ := hL l t1 x2 j hj
    exact ⟨y, by rw [z2 j hj]; exact q1, iEl_mono hT q2⟩
  · have t1 := b5 l t2
    rw [(hq l t1 x2).1]
    exact hB l t1 x2
  · have t1 := bk d 16 t2 (by decide) (by decide) (by decide) (by decide) (by decide) (by decide)
    obtain ⟨e, f, h, q1, q2, q3, q4, q5, q6, q7, q8, q9, q10⟩ := hD d t1 x2
    exact ⟨e, f, h, by rw [fR d 16 13 t1 (by decide) (by decide)]; exact q1, by rw [fR d 16 14 t1 (by decide) (by decide)]; exact q2, by rw [fR d 16 15 t1 (by decide) (by decide)]; exact q3, fw e 108 q4 (by decide), by rw [fN e 108 q4 (by decide)]; exact q5, q6, fw f 101 q7 (by decide), by rw [fN f 101 q7 (by decide)]; exact q8, fw h 100 q9 (by decide), by rw [fN h 100 q9 (by decide)]; exact q10⟩
  · have t1 := bk e 108 t2 (by decide) (by decide) (by decide) (by decide) (by decide) (by decide)
    rw [fR e 108 j t1 (by decide) (by decide)] at hx
    obtain ⟨q1, q2⟩ := hN e t1 j x hj hx
    exact ⟨fw x 17 q1 (by decide), q2⟩
  · have t1 := bk x 17 t2 (by decide) (by decide) (by decide) (by decide) (by decide) (by decide)
    obtain ⟨l, q1, q2, q3, q4, q5, q6, q7, q8⟩ := hE x t1 x2
    refine ⟨l, by rw [fR x 17 3 t1 (by decide) (by decide)]; exact q1, fw l 5 q2 (by decide), q3, q4, q5, by rw [eI17 x 1 t1 (by decide)]; exact q6, by rw [eI17 x 1 t1 (by decide)]; exact q7, ?_⟩
    rw [eI17 x 4 t1 (by decide), (hq l q2 q3).1]
    rcases q8 with q8 | ⟨w1, w2, w3, w4, w5⟩
    · exact Or.inl q8
    · exact Or.inr ⟨w1, w2, w3, fw _ 18 w4 (by decide), by rw [eI18 _ 2 w4 (by decide)]; exact w5⟩
  · have t1 := bk t 19 t2 (by decide) (by decide) (by decide) (by decide) (by decide) (by decide)
    obtain ⟨b, q1, q2⟩ := hTr t t1 x2
    exact ⟨b, by rw [fR t 19 0 t1 (by decide) (by decide)]; exact q1, fw b 100 q2 (by decide)⟩
  · have t1 := bk p 18 t2 (by decide) (by decide) (by decide) (by decide) (by decide) (by decide)
    obtain ⟨l, e, x, q1, q2, q3, q4, q5, q6, q7, q8, q9, q10, q11, q12, q13, q14, q15, q16, q17, q18⟩ := hP p t1 x2
    obtain ⟨z1, z2⟩ := hq l q2 q3
    refine ⟨l, e, x, by rw [fR p 18 9 t1 (by decide) (by decide)]; exact q1, fw l 5 q2 (by decide), q3, q4, q5, ?_⟩
    rw [eI18 p 0 t1 (by decide), eI18 p 1 t1 (by decide), eI18 p 2 t1 (by decide), eI18 p 3 t1 (by decide), fR _ 16 13 q10 (by decide) (by decide), fR e 108 _ q12 (by decide) (by decide), z1]
    refine ⟨q6, q7, q8, q9, fw _ 16 q10 (by decide), q11, fw e 108 q12 (by decide), q13, fw x 17 q14 (by decide), q15, q16, fun j k t hj hk h1 h2 => ?_, fun j t hj h1 => ?_⟩
    · rw [z2 j hj] at h1
      rw [z2 k hk] at h2
      exact q17 j k t hj hk h1 h2
    · rw [z2 j hj] at h1
      obtain ⟨w1, w2, w3, w4, w5, w6⟩ := q18 j t hj h1
      refine ⟨fw t 19 w1 (by decide), w2, ?_⟩
      unfold iW
      rw [eI19 t 1 w1 (by decide), eI19 t 2 w1 (by decide), eI17 x 0 q14 (by decide), fR t 19 0 w1 (by decide) (by decide)]
      refine ⟨w3, w4, w5, fun h0 b hb => ?_⟩
      obtain ⟨b2, v1, v2⟩ := hTr t w1 w2
      rw [v1] at hb
      cases hb
      rw [fN _ 100 v2 (by decide)]
      exact w6 h0 _ v1
  · obtain ⟨m0, m1, m2, m3, m4, m5, m6, m7, ⟨d1, d2, d3⟩, ⟨r1, r2, r3⟩, ⟨y1, y2, y3⟩, ⟨e1, e2, e3⟩, ⟨g1, g2, g3⟩, ⟨p1, p2⟩, ⟨h1, h2⟩, n1, n2, n3, n4, n5, n6, n7, n8, ev, n9, n10, n11⟩ := hM
    refine ⟨fw _ 20 m0 (by decide), ?_⟩
    rw [fR _ 20 1 m0 (by decide) (by decide), fR _ 20 2 m0 (by decide) (by decide), fR _ 20 3 m0 (by decide) (by decide), fR _ 20 4 m0 (by decide) (by decide), fR _ 20 5 m0 (by decide) (by decide), fR _ 20 8 m0 (by decide) (by decide), fR _ 20 12 m0 (by decide) (by decide), eI20 _ 9 m0 (by decide), eI20 _ 10 m0 (by decide), eI20 _ 11 m0 (by decide), (hq _ d1 d3).1]
    refine ⟨m1, m2, m3, m4, m5, m6, m7, ⟨fw _ 5 d1 (by decide), d2, d3⟩, ⟨fw _ 5 r1 (by decide), r2, r3⟩, ⟨fw _ 5 y1 (by decide), y2, y3⟩, ⟨fw _ 5 e1 (by decide), e2, e3⟩, ⟨fw _ 5 g1 (by decide), g2, g3⟩, ⟨fw _ 109 p1 (by decide), by rw [fN _ 109 p1 (by decide)]; exact p2⟩, ⟨fw _ 100 h1 (by decide), by rw [fN _ 100 h1 (by decide)]; exact h2⟩, n1, n2, n3, n4, n5, n6, n7, n8, ev, by rw [fR _ 20 6 m0 (by decide) (by decide)]; exact n9, fw ev 100 n10 (by decide), by rw [fN ev 100 n10 (by decide)]; exact n11⟩
  · obtain ⟨p1, p2⟩ := hM.2.2.2.2.2.2.2.2.2.2.2.2.2.1
    rw [fR _ 109 k p1 (by decide) (by decide)] at hp
    obtain ⟨w1, w2, w3, w4⟩ := hO k p hk hp
    obtain ⟨l, e, x, q1, q2, q3, q4, q5, q6, q7, q8, q9, q10, q11, q12, -⟩ := hP p w1 w2
    refine ⟨fw p 18 w1 (by decide), w2, ?_⟩
    rw [eI18 p 0 w1 (by decide), eI18 p 1 w1 (by decide), fR _ 16 13 q10 (by decide) (by decide), eI16 _ 6 q10 (by decide)]
    refine ⟨fun e3 x3 h1 h2 => ?_, w4⟩
    have h3 := h1
    rw [q11] at h3
    cases h3
    rw [fR _ 108 _ q12 (by decide) (by decide)] at h2
    exact w3 e x3 h1 h2
  · have kk : ∀ k, k < n → iHb g σ2 k = iHb g σ k ∧ iSt g σ2 k = iSt g σ k := fun k hk => by
      have t := (dv k hk).2
      unfold iHb iSt
      rw [eI16 _ 7 t (by decide), eI16 _ 6 t (by decide)]
      exact ⟨rfl, rfl⟩
    obtain ⟨⟨rk, w1⟩, w2, w3, w4, w5⟩ := hRr
    have hn1 : 0 < n := hM.2.2.2.2.2.2.2.2.2.2.2.2.2.2.2.2.1
    refine ⟨⟨rk, fun k hk => ?_⟩, fun k h1 hk => ?_, ?_, ?_, ?_⟩
    · rw [(kk k hk).1]
      rcases w1 k hk with q | ⟨q1, q2, q3, q4⟩
      · exact Or.inl q
      · exact Or.inr ⟨q1, q2, q3, by rw [(kk _ (by omega)).2]; exact q4⟩
    · rw [(kk k hk).1, (kk k hk).2]; exact w2 k h1 hk
    · rw [(kk 0 hn1).1]; exact w3
    · rw [(kk 0 hn1).2]; exact w4
    · rw [eI16 _ 0 (dv 0 hn1).2 (by decide)]; exact w5
end INVB
