section INVC
variable {eda n n2 S hl : Nat} {ia : Nat → Nat} {K : KM} {g : GH} {σ σ2 : SG} {l0 r e sz : Nat}
theorem iCap_le {S hl r : Nat} (h1 : 200 ≤ S) (h2 : S ≤ 60000) : iCap S hl r ≤ 60000 := by
  unfold iCap
  match r with
  | 0 => show S - hl ≤ 60000; omega
  | 1 => show 16 ≤ 60000; omega
  | 2 => show 8 ≤ 60000; omega
  | 3 => show 16 ≤ 60000; omega
  | 4 => show 6 ≤ 60000; omega
  | 5 => show S - hl ≤ 60000; omega
  | 6 => show S - hl ≤ 60000; omega
  | 7 => show 4 ≤ 60000; omega
  | n + 8 => show S - hl ≤ 60000; omega
/-- one list is changed -/
theorem inv_ls (h : Inv eda ia K g n S hl σ) (hT : tFr σ σ2) (hn : ∀ a, sgT σ a = 0 → sgT σ2 a = 0 ∨ sgT σ2 a = 110) (hI : ∀ a k, sgT σ a ≠ 0 → sgT σ a ≠ 5 → sgI σ2 a k = sgI σ a k) (hR : ∀ a k, sgT σ a ≠ 0 → sgT σ a ≠ 5 → sgT σ a ≠ 110 → sgR σ2 a k = sgR σ a k) (hLS : sgLS eda ia iX σ2) (hq : sgLq (fun a => iX a ∨ a = l0) σ σ2) (ht : sgT σ l0 = 5)
    (hN : (l0 ≠ kD K ∧ n2 = n) ∨ (l0 = kD K ∧ sgSz σ2 l0 = n2 ∧ n ≤ n2 ∧ iR g n2 σ2))
    (hel : ∀ j, j < sgSz σ2 l0 → ∃ y, sgAt σ2 l0 j = some y ∧ iEl ia g σ2 l0 j y) (hcap : sgSz σ2 l0 ≤ iCap S hl (gRo g l0))
    (h6 : gRo g l0 = 6 → sgT σ (gOw g l0) = 17 → sgSz σ l0 ≤ sgSz σ2 l0 ∨ gY g (gOw g l0) ∨ (sgI σ (gOw g l0) 4).toInt = -1 ∨ (sgI σ (gOw g l0) 4).toInt ≤ sgSz σ2 l0)
    (h7 : gRo g l0 = 7 → ∀ e x, sgT σ (gOw g l0) = 18 → sgR σ (pDv g σ (gOw g l0)) 13 = some e → sgR σ e (sgI σ (gOw g l0) 1).toInt.toNat = some x → sgT σ x = 17 → iRw g σ l0 x → iRw g σ2 l0 x) : Inv eda ia K g n2 S hl σ2 := by
  have bk : ∀ a t, sgT σ2 a = t → t ≠ 0 → t ≠ 110 → sgT σ a = t := fun a t h1 h2 h3 => by
    by_cases z : sgT σ a = 0
    · rcases hn a z with q | q <;> exact absurd (h1.symm.trans q) (by assumption)
    · rw [← (hT a z).1]; exact h1
  have fR : ∀ a t k, sgT σ a = t → t ≠ 0 → t ≠ 5 → t ≠ 110 → sgR σ2 a k = sgR σ a k := fun a t k h1 h2 h3 h4 => hR a k (by rw [h1]; exact h2) (by rw [h1]; exact h3) (by rw [h1]; exact h4)
  have fI : ∀ a t k, sgT σ a = t → t ≠ 0 → t ≠ 5 → sgI σ2 a k = sgI σ a k := fun a t k h1 h2 h3 => hI a k (by rw [h1]; exact h2) (by rw [h1]; exact h3)
  have b5 : ∀ l, sgT σ2 l = 5 → sgT σ l = 5 := fun l hl => bk l 5 hl (by decide) (by decide)
  have qq : ∀ l, sgT σ l = 5 → l ≠ l0 → sgSz σ2 l = sgSz σ l ∧ ∀ j, j < sgSz σ l → sgAt σ2 l j = sgAt σ l j := fun l h1 h2 => hq l h1 (fun z => z.elim id h2)
  have m0 := (inv_Mr h).1
  have p1 := (inv_Mr h).2.2.2.2.2.2.2.2.2.2.2.2.2.1.1
  have hnn : n ≤ n2 := by rcases hN with z | z; omega; exact z.2.2.1
  have hRe : ∀ e j x, sgT σ e = 108 → sgR σ e j = some x → sgR σ2 e j = some x := fun e j x he2 hx => by rw [fR e 108 j he2 (by decide) (by decide) (by decide)]; exact hx
  have hRd : ∀ d, sgT σ d = 16 → sgR σ2 d 13 = sgR σ d 13 := fun d hd => fR d 16 13 hd (by decide) (by decide) (by decide)
  refine ⟨hLS, iL_tr hT gFr_rf (fun _ _ _ _ _ => rfl) (inv_L h) (fun l t2 => ?_), iB_tr gFr_rf (inv_B h) (Nat.le_refl _) (fun l t2 => ?_), iD_tr hT gFr_rf (inv_D h) (fun d t2 => ?_), iN_tr hT gFr_rf (inv_N h) (fun e t2 j x hj hx => ?_), iE_tr hT gFr_rf (inv_E h) (fun x t2 => ?_), iT_tr hT (inv_T h) (fun t t2 => ?_), iP_tr hT gFr_rf (inv_P h) hnn (fun _ _ => rfl) hRd hRe (fun p t2 => ?_), ⟨iMr_tr hT gFr_rf (inv_Mr h) (fun k _ => fR _ 20 k m0 (by decide) (by decide) (by decide)) (Or.inl (fR _ 20 6 m0 (by decide) (by decide) (by decide))) (fun l t2 => Or.inl (b5 l t2)), ?_, ?_⟩, iO_tr h (fun _ => rfl) (fun _ _ => rfl) hT (fun k p _ hp => by rw [← fR _ 109 k p1 (by decide) (by decide) (by decide)]; exact hp) (fun p k hp _ => fI p 18 k hp (by decide) (by decide)) hRd hRe (fun d hd hu _ => by rw [fI d 16 6 hd (by decide) (by decide)]; exact hu), ?_⟩
  · by_cases ne : l = l0
    · subst ne; exact Or.inr hel
    · exact Or.inl ⟨b5 l t2, qq l (b5 l t2) ne⟩
  · by_cases ne : l = l0
    · subst ne; exact Or.inr hcap
    · exact Or.inl ⟨b5 l t2, Nat.le_of_eq (qq l (b5 l t2) ne).1⟩
  · have t1 := bk d 16 t2 (by decide) (by decide)
    exact Or.inl ⟨t1, hRd d t1, fR d 16 14 t1 (by decide) (by decide) (by decide), fR d 16 15 t1 (by decide) (by decide) (by decide)⟩
  · have t1 := bk e 108 t2 (by decide) (by decide)
    rw [fR e 108 j t1 (by decide) (by decide) (by decide)] at hx
    exact Or.inl ⟨t1, hx⟩
  · have t1 := bk x 17 t2 (by decide) (by decide)
    refine Or.inl ⟨t1, fR x 17 3 t1 (by decide) (by decide) (by decide), fI x 17 1 t1 (by decide) (by decide), fun l q1 q2 q3 q4 q5 => ?_⟩
    have e4 := fI x 17 4 t1 (by decide) (by decide)
    have e18 : ∀ p, sgT σ p = 18 → sgI σ2 p 2 = sgI σ p 2 := fun p hp => fI p 18 2 hp (by decide) (by decide)
    by_cases ne : l = l0
    · subst ne
      have h6' := h6 q3 (by rw [q4]; exact t1)
      rw [q4] at h6'
      rcases h6' with z | z | z | z
      · exact iK1_tr hT id e4 z rfl e18 q5
      · exact Or.inl z
      · exact Or.inr (Or.inl (by rw [e4]; exact z))
      · rcases q5 with q5 | q5 | ⟨w1, w2, w3, w4, w5⟩
        · exact Or.inl q5
        · exact Or.inr (Or.inl (by rw [e4]; exact q5))
        · exact Or.inr (Or.inr ⟨by rw [e4]; exact w1, by rw [e4]; exact w2, by rw [e4]; exact z, tFr_T hT w4 (by decide), by rw [e18 _ w4]; exact w5⟩)
    · exact iK1_tr hT id e4 (Nat.le_of_eq (qq l q2 ne).1.symm) rfl e18 q5
  · have t1 := bk t 19 t2 (by decide) (by decide)
    exact Or.inl ⟨t1, fR t 19 0 t1 (by decide) (by decide) (by decide)⟩
  · have t1 := bk p 18 t2 (by decide) (by decide)
    refine Or.inl ⟨t1, fR p 18 9 t1 (by decide) (by decide) (by decide), fun k _ => fI p 18 k t1 (by decide) (by decide), fun l e x q1 q2 q3 q4 q5 q6 q7 q8 => ?_⟩
    by_cases ne : l = l0
    · subst ne
      rw [← q4] at q5 q6 t1
      exact h7 q3 e x t1 q5 q6 q7 q8
    · exact iRw_tr hT (inv_T h) (qq l q2 ne).1 (qq l q2 ne).2 (fI x 17 0 q7 (by decide) (by decide)) (fun _ _ z => z) (fun t ht => ⟨fI t 19 1 ht (by decide) (by decide), fR t 19 0 ht (by decide) (by decide) (by decide), Or.inl (fI t 19 2 ht (by decide) (by decide))⟩) q8
  · obtain ⟨⟨-, -, -, -, -, -, -, -, ⟨t1, -⟩, -⟩, ⟨e1, e2⟩, -⟩ := inv_M h
    rcases hN with ⟨z1, z2⟩ | ⟨z1, z2, z3, -⟩
    · rw [z2]; exact ⟨(qq _ t1 (fun w => z1 w.symm)).1.trans e1, e2⟩
    · rw [← z1]; exact ⟨z2, by omega⟩
  · have hMi := (inv_M h).2.2
    unfold iMi at hMi ⊢
    rw [fI _ 20 9 m0 (by decide) (by decide), fI _ 20 10 m0 (by decide) (by decide), fI _ 20 11 m0 (by decide) (by decide)]
    exact hMi
  · rcases hN with ⟨-, z2⟩ | ⟨-, -, -, z⟩
    · rw [z2]; exact iR_tr h (fun _ _ => rfl) (fun _ _ z => z) (fun a k ha _ => fI a 16 k ha (by decide) (by decide))
    · exact z
theorem sgBx_T (h : sgBx ia σ e) (hia : ∀ k, k < 256 → sgT σ (ia k) = 0) : sgT σ e = 2 ∨ sgT σ e = 0 := by
  rcases h with h | ⟨k, hk, rfl⟩
  · exact Or.inl h
  · exact Or.inr (hia k hk)
/-- what a list's element is -/
theorem iEl_K {j : Nat} (h : iEl ia g σ l0 j e) : sgK ia σ e := by
  unfold iEl at h
  generalize gRo g l0 = r0 at h
  match r0, h with
  | 0, h => exact sgBx_K h
  | 1, h => exact Or.inr (Or.inl h.1)
  | 2, h => exact Or.inr (Or.inr (Or.inr (Or.inl h.1)))
  | 3, h => exact sgBx_K h
  | 4, h => exact Or.inr (Or.inr (Or.inr (Or.inl h.1)))
  | 5, h => exact sgBx_K h
  | 6, h => exact sgBx_K h
  | 7, h => exact Or.inr (Or.inr (Or.inl h.1))
  | n + 8, h => exact sgBx_K h
/-- an element behind the others -/
theorem inv_ad (h : Inv eda ia K g n S hl σ) (ht : sgT σ l0 = 5) (hz : sgLz eda σ l0 r sz) (ha : sgAd l0 r e sz σ σ2) (he : sgT σ2 eda = 0) (hE : iEl ia g σ l0 sz e) (hcap : sz + 1 ≤ iCap S hl (gRo g l0))
    (hN : (l0 ≠ kD K ∧ n2 = n) ∨ (l0 = kD K ∧ sz + 1 = n2 ∧ n ≤ n2 ∧ ∀ σ3, (∀ a k, sgT σ a ≠ 0 → sgT σ a ≠ 5 → sgI σ3 a k = sgI σ a k) → iR g n2 σ3))
    (h7 : gRo g l0 = 7 → (∀ j, j < sz → ¬ sgAt σ l0 j = some e) ∧ ∀ e1 x, sgR σ (pDv g σ (gOw g l0)) 13 = some e1 → sgR σ e1 (sgI σ (gOw g l0) 1).toInt.toNat = some x → sgT σ x = 17 → gY g e ∨ iW σ x e) : Inv eda ia K g n2 S hl σ2 ∧ sgSz σ2 l0 = sz + 1 ∧ sgAt σ2 l0 sz = some e ∧ (∀ j, j < sz → sgAt σ2 l0 j = sgAt σ l0 j) ∧ tFr σ σ2 ∧ (∀ a, sgT σ a = 0 → sgT σ2 a = 0 ∨ sgT σ2 a = 110) ∧ (∀ a k, sgT σ a ≠ 0 → sgT σ a ≠ 5 → sgI σ2 a k = sgI σ a k) ∧ (∀ a k, sgT σ a ≠ 0 → sgT σ a ≠ 5 → sgT σ a ≠ 110 → sgR σ2 a k = sgR σ a k) ∧ sgLq (fun a => iX a ∨ a = l0) σ σ2 := by
  have hs0 : sz = sgSz σ l0 := (sgLz_Sz hz).symm
  have h1 := (inv_LS h).1 l0 ht id
  have hK := iEl_K hE
  obtain ⟨g1, g2, g3, g4, g5⟩ := sgLS_ad (X := iX) (inv_LS h) id hz (by
    have c := hcap
    have c2 := (inv_M h).2.2.2.2
    have := iCap_le (hl := hl) (r := gRo g l0) c2.2.1 c2.2.2.1
    omega) hK ha he
  obtain ⟨r2, a1, a2, a3, a4, a5, a9, a6, a7, a8⟩ := ha
  have hr110 : sgT σ2 r2 = 110 := a2.2.2.1
  have hrr : r = eda ∨ sgT σ r = 110 := sgLz_r hz
  have hnew : ∀ a, sgT σ a = 0 → sgT σ2 a = 0 ∨ sgT σ2 a = 110 := fun a z => by
    rcases a7 a z with q | q
    · exact Or.inl q
    · exact Or.inr (by rw [q]; exact hr110)
  have fI : ∀ a k, sgT σ a ≠ 0 → sgT σ a ≠ 5 → sgI σ2 a k = sgI σ a k := fun a k h1 h2 => ((a8 a k h1).2 (fun z => h2 (by rw [z]; exact ht))).1
  have fR : ∀ a k, sgT σ a ≠ 0 → sgT σ a ≠ 5 → sgT σ a ≠ 110 → sgR σ2 a k = sgR σ a k := fun a k h1 h2 h3 => ((a8 a k h1).2 (fun z => h2 (by rw [z]; exact ht))).2 (fun z => by
    rcases hrr with q | q
    · exact h1 (by rw [z, q]; exact (inv_LS h).2.2.2)
    · exact h3 (by rw [z]; exact q))
  refine ⟨inv_ls (l0 := l0) h a6 hnew fI fR g1 g5 ht ?_ (fun j hj => ?_) (by rw [g2]; exact hcap) (fun _ _ => Or.inl (by rw [g2]; omega)) (fun r7 e1 x t1 q1 q2 q3 q4 => ?_), g2, g3, g4, a6, hnew, fI, fR, g5⟩
  · rcases hN with z | ⟨z1, z2, z3, z4⟩
    · exact Or.inl z
    · exact Or.inr ⟨z1, by rw [g2]; exact z2, z3, z4 σ2 fI⟩
  · rw [g2] at hj
    by_cases q : j = sz
    · subst q
      exact ⟨e, g3, iEl_tr a6 gFr_rf (by rw [ht]; decide) (fun _ => rfl) hE⟩
    · obtain ⟨y, w1, w2⟩ := inv_L h l0 ht j (by omega)
      exact ⟨y, by rw [g4 j (by omega)]; exact w1, iEl_tr a6 gFr_rf (by rw [ht]; decide) (fun _ => rfl) w2⟩
  · obtain ⟨v1, v2⟩ := h7 r7
    obtain ⟨u1, u2⟩ := q4
    have te : sgT σ e = 19 := by unfold iEl at hE; rw [r7] at hE; exact hE.1
    have wtr : ∀ t, sgT σ t = 19 → iW σ x t → iW σ2 x t := fun t ht9 hw => iW_tr a6 (inv_T h) ht9 (fI t 1 (by rw [ht9]; decide) (by rw [ht9]; decide)) (fI t 2 (by rw [ht9]; decide) (by rw [ht9]; decide)) (fI x 0 (by rw [q3]; decide) (by rw [q3]; decide)) (fR t 0 (by rw [ht9]; decide) (by rw [ht9]; decide) (by rw [ht9]; decide)) hw
    refine ⟨fun j k t hj hk e1 e2 => ?_, fun j t hj e1 => ?_⟩
    · rw [g2] at hj hk
      by_cases zj : j = sz
      · by_cases zk : k = sz
        · omega
        · subst zj
          rw [g3] at e1
          cases e1
          rw [g4 k (by omega)] at e2
          exact absurd e2 (v1 k (by omega))
      · rw [g4 j (by omega)] at e1
        by_cases zk : k = sz
        · subst zk
          rw [g3] at e2
          cases e2
          exact absurd e1 (v1 j (by omega))
        · rw [g4 k (by omega)] at e2
          exact u1 j k t (by omega) (by omega) e1 e2
    · rw [g2] at hj
      by_cases zj : j = sz
      · subst zj
        rw [g3] at e1
        cases e1
        exact ⟨tFr_T a6 te (by decide), (v2 _ x q1 q2 q3).imp id (wtr e te)⟩
      · rw [g4 j (by omega)] at e1
        obtain ⟨w1, w2⟩ := u2 j t (by omega) e1
        exact ⟨tFr_T a6 w1 (by decide), w2.imp id (wtr t w1)⟩
/-- a list is emptied -/
theorem inv_clr (h : Inv eda ia K g n S hl σ) (ht : sgT σ l0 = 5) (hz : sgLz eda σ l0 r sz) (ho : sgOn l0 r σ σ2) (hs : sgI σ2 l0 2 = 0) (hR1 : sgR σ2 l0 1 = some r) (hel : ∀ j y, sgR σ2 r j = some y → sgR σ r j = some y) (hr : gRo g l0 = 3) (hD : l0 ≠ kD K) : Inv eda ia K g n S hl σ2 ∧ sgSz σ2 l0 = 0 := by
  obtain ⟨g1, g2, g3, g4⟩ := sgLS_on (s2 := 0) (X := iX) (inv_LS h) id hz ho (by rw [hs]; rfl) (Nat.zero_le _) hR1 (fun j y _ hy => ⟨j, hel j y hy⟩)
  have hrr : r = eda ∨ sgT σ r = 110 := sgLz_r hz
  refine ⟨inv_ls (l0 := l0) h (fun a _ => ho.1 a) (fun a z => Or.inl (by rw [(ho.1 a).1]; exact z)) (fun a k _ h5 => ho.2.2.1 a k (fun z => h5 (by rw [z]; exact ht))) (fun a k h0 h5 h110 => ho.2.2.2 a k (fun z => by
    rcases hrr with q | q
    · exact h0 (by rw [z, q]; exact (inv_LS h).2.2.2)
    · exact h110 (by rw [z]; exact q))) g1 g4 ht (Or.inl ⟨hD, rfl⟩) (fun j hj => by rw [g2] at hj; exact absurd hj (Nat.not_lt_zero _)) (by rw [g2]; exact Nat.zero_le _) (fun z => by rw [hr] at z; exact absurd z (by decide)) (fun z => by rw [hr] at z; exact absurd z (by decide)), g2⟩
/-- the first element is taken away -/
theorem inv_rm (h : Inv eda ia K g n S hl σ) (hL : sgLs σ l0 r sz) (h0 : 0 < sz) (ho : sgOn l0 r σ σ2) (hs : (sgI σ2 l0 2).toInt = (sz : Int) - 1) (hR1 : sgR σ2 l0 1 = some r) (hsh : ∀ j, j + 1 < sz → sgR σ2 r j = sgR σ r (j + 1)) (hel : ∀ j y, sgR σ2 r j = some y → ∃ j2, sgR σ r j2 = some y) (hD : gRo g l0 ≠ 1)
    (h6 : gRo g l0 = 6 → sgT σ (gOw g l0) = 17 → gY g (gOw g l0) ∨ (sgI σ (gOw g l0) 4).toInt = -1) : Inv eda ia K g n S hl σ2 ∧ sgSz σ l0 = sz ∧ sgSz σ2 l0 = sz - 1 ∧ (∀ j, j + 1 < sz → sgAt σ2 l0 j = sgAt σ l0 (j + 1)) ∧ sgLq (fun a => iX a ∨ a = l0) σ σ2 ∧ (∀ a k, sgT σ a ≠ 0 → sgT σ a ≠ 5 → sgT σ a ≠ 110 → sgR σ2 a k = sgR σ a k) := by
  obtain ⟨g1, g2, g3, g4⟩ := sgLS_rm (X := iX) (inv_LS h) id hL h0 ho hs hR1 hsh hel
  have ht := hL.1
  have hz : sgSz σ l0 = sz := sgLz_Sz (eda := eda) (Or.inl hL)
  have hT : tFr σ σ2 := fun a _ => ho.1 a
  have fI : ∀ a k, sgT σ a ≠ 0 → sgT σ a ≠ 5 → sgI σ2 a k = sgI σ a k := fun a k _ h5 => ho.2.2.1 a k (fun z => h5 (by rw [z]; exact ht))
  have fR : ∀ a k, sgT σ a ≠ 0 → sgT σ a ≠ 5 → sgT σ a ≠ 110 → sgR σ2 a k = sgR σ a k := fun a k _ _ h110 => ho.2.2.2 a k (fun z => h110 (by rw [z]; exact hL.2.2.1))
  have hD2 : l0 ≠ kD K := fun z => hD (by rw [z]; exact (inv_Mr h).2.2.2.2.2.2.2.2.1.2)
  refine ⟨inv_ls (l0 := l0) h hT (fun a z => Or.inl (by rw [(ho.1 a).1]; exact z)) fI fR g1 g4 ht (Or.inl ⟨hD2, rfl⟩) (fun j hj => ?_) (by have := inv_B h l0 ht; omega) (fun z6 t6 => Or.inr ((h6 z6 t6).imp id Or.inl)) (fun r7 e1 x t1 q1 q2 q3 q4 => ?_), hz, g2, g3, g4, fR⟩
  · rw [g2] at hj
    obtain ⟨y, w1, w2⟩ := inv_L h l0 ht (j + 1) (by omega)
    refine ⟨y, by rw [g3 j (by omega)]; exact w1, ?_⟩
    have w3 := iEl_tr (ia := ia) (g2 := g) hT gFr_rf (by rw [ht]; decide) (fun _ => rfl) w2
    unfold iEl at w3 ⊢
    generalize gRo g l0 = r0 at w3 hD ⊢
    match r0, w3, hD with
    | 0, w, _ => exact w
    | 1, w, hD => exact absurd rfl hD
    | 2, w, _ => exact w
    | 3, w, _ => exact w
    | 4, w, _ => exact w
    | 5, w, _ => exact w
    | 6, w, _ => exact w
    | 7, w, _ => exact w
    | n + 8, w, _ => exact w
  · obtain ⟨u1, u2⟩ := q4
    refine ⟨fun j k t hj hk e1 e2 => ?_, fun j t hj e1 => ?_⟩
    · rw [g2] at hj hk
      rw [g3 j (by omega)] at e1
      rw [g3 k (by omega)] at e2
      have := u1 (j + 1) (k + 1) t (by omega) (by omega) e1 e2
      omega
    · rw [g2] at hj
      rw [g3 j (by omega)] at e1
      obtain ⟨w1, w2⟩ := u2 (j + 1) t (by omega) e1
      exact ⟨tFr_T hT w1 (by decide), w2.imp id (iW_tr hT (inv_T h) w1 (fI t 1 (by rw [w1]; decide) (by rw [w1]; decide)) (fI t 2 (by rw [w1]; decide) (by rw [w1]; decide)) (fI x 0 (by rw [q3]; decide) (by rw [q3]; decide)) (fR t 0 (by rw [w1]; decide) (by rw [w1]; decide) (by rw [w1]; decide)))⟩
end INVC
