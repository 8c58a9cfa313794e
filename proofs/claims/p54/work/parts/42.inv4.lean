section INVD
variable {eda n n2 S hl S2 hl2 : Nat} {ia : Nat → Nat} {K : KM} {g : GH} {σ σ2 : SG} {k d : Nat} {v w : Int32}
theorem inv_inj (h : Inv eda ia K g n S hl σ) {j : Nat} (hk : k < n) (hj : j < n) (e : gDv g k = gDv g j) : k = j := by
  have h1 := (inv_dv h hk).2.2
  have h2 := (inv_dv h hj).2.2
  rw [e] at h1
  exact h1.symm.trans h2
theorem iHb_PI (h : Inv eda ia K g n S hl σ) {j f : Nat} (hk : k < n) (hj : j < n) (hf : f ≠ 7 ∨ j ≠ k) : iHb g (sgPI σ (gDv g k) f v) j = iHb g σ j := by
  unfold iHb
  rw [sgI_PI, if_neg (fun z => by
    rcases hf with hf | hf
    · exact hf z.2.symm
    · exact hf (inv_inj h hj hk z.1))]
theorem iSt_PI (h : Inv eda ia K g n S hl σ) {j f : Nat} (hk : k < n) (hj : j < n) (hf : f ≠ 6 ∨ j ≠ k) : iSt g (sgPI σ (gDv g k) f v) j = iSt g σ j := by
  unfold iSt
  rw [sgI_PI, if_neg (fun z => by
    rcases hf with hf | hf
    · exact hf z.2.symm
    · exact hf (inv_inj h hj hk z.1))]
theorem iSt_PIs : iSt g (sgPI σ (gDv g k) 6 v) k = v := by unfold iSt; rw [sgI_PI, if_pos ⟨rfl, rfl⟩]
theorem iHb_PIs : iHb g (sgPI σ (gDv g k) 7 v) k = v.toInt := by unfold iHb; rw [sgI_PI, if_pos ⟨rfl, rfl⟩]
/-- ints of devices alone are changed -/
theorem inv_de (h : Inv eda ia K g n S hl σ) (hT : ∀ a, sgT σ2 a = sgT σ a) (hN : ∀ a, sgN σ2 a = sgN σ a) (hR : ∀ a j, sgR σ2 a j = sgR σ a j) (hI : ∀ a j, sgT σ a ≠ 16 → sgI σ2 a j = sgI σ a j) (hu : ∀ d, sgT σ d = 16 → ¬ sgI σ d 6 = 117 → (∃ j p, j < 12 ∧ sgR σ2 (kP K) j = some p ∧ pDv g σ p = d) → ¬ sgI σ2 d 6 = 117) (hRr : iR g n σ2) : Inv eda ia K g n S hl σ2 := by
  have m0 := inv_A h
  have f : ∀ a j t, sgT σ a = t → t ≠ 16 → sgI σ2 a j = sgI σ a j := fun a j t h1 h2 => hI a j (by rw [h1]; exact h2)
  refine inv_ci (c2 := g.2.2.2.2.1) (y2 := g.2.2.2.2.2) h (fun a _ => ⟨hT a, hN a⟩) (fun a z => Or.inl (by rw [hT]; exact z)) (by rw [hT]; exact (inv_LS h).2.2.2) (fun a j _ _ => hR a j) (fun a ha => f a 2 5 ha (by decide)) (fun a ha => ⟨f a 0 17 ha (by decide), f a 1 17 ha (by decide)⟩) (fun a j ha _ => f a j 18 ha (by decide)) (fun a ha => ⟨f a 1 19 ha (by decide), Or.inl (f a 2 19 ha (by decide))⟩) (fun _ z => z) (fun x l hx _ _ => Or.inl ⟨rfl, f x 4 17 hx (by decide)⟩) (Nat.le_refl _) ?_ (iO_tr h (fun _ => rfl) (fun _ _ => rfl) (fun a _ => ⟨hT a, hN a⟩) (fun j p _ hp => by rw [← hR]; exact hp) (fun p j hp _ => f p j 18 hp (by decide)) (fun _ _ => hR _ _) (fun e j x _ hx => by rw [hR]; exact hx) hu) hRr
  have hMi := (inv_M h).2.2
  unfold iMi at hMi ⊢
  rw [f _ 9 20 m0 (by decide), f _ 10 20 m0 (by decide), f _ 11 20 m0 (by decide)]
  exact hMi
/-- a plugged device's state -/
theorem inv_st (h : Inv eda ia K g n S hl σ) (h1 : 1 ≤ k) (hk : k < n) (hv : ¬ v = 117) (hu : ¬ iSt g σ k = 117) : Inv eda ia K g n S hl (sgPI σ (gDv g k) 6 v) := by
  have td := (inv_dv h hk).2.1
  obtain ⟨⟨rk, w1⟩, w2, w3, w4, w5, w6⟩ := inv_R h
  have hn : 0 < n := by omega
  have ns : ∀ j, j < n → (iSt g (sgPI σ (gDv g k) 6 v) j = 117 ↔ iSt g σ j = 117) := fun j hj => by
    by_cases e : j = k
    · subst e
      rw [iSt_PIs]
      exact ⟨fun z => absurd z hv, fun z => absurd z hu⟩
    · rw [iSt_PI h hk hj (Or.inr e)]
  refine inv_de h (fun _ => rfl) (fun _ => rfl) (fun _ _ => rfl) (fun a j ha => by rw [sgI_PI, if_neg (fun z => ha (by rw [z.1]; exact td))]) (fun e he hu2 _ => ?_) ⟨⟨rk, fun j hj => by rw [iHb_PI h hk hj (Or.inl (by decide))]; exact w1 j hj⟩, fun j hj hy hh => ?_, fun j h1j hj hy => ?_, by rw [iHb_PI h hk hn (Or.inl (by decide))]; exact w4, by rw [iSt_PI h hk hn (Or.inr (by omega))]; exact w5, by rw [sgI_nk (by decide)]; exact w6⟩
  · rw [sgI_PI]
    by_cases z : e = gDv g k ∧ 6 = 6
    · rw [if_pos z]; exact hv
    · rw [if_neg z]; exact hu2
  · rw [iHb_PI h hk hj (Or.inl (by decide))] at hh ⊢
    rcases w1 j hj with q | ⟨q1, q2, q3⟩
    · exact absurd q hh
    · rw [ns _ (by omega)]; exact w2 j hj hy hh
  · rw [ns j hj, iHb_PI h hk hj (Or.inl (by decide))]; exact w3 j h1j hj hy
/-- a device is plugged -/
theorem inv_plug (h : Inv eda ia K g n S hl σ) (hY : nY g) {hb : Nat} (hk : k < n) (hhb : hb < n) (hu : iSt g σ k = 117) (hp : ¬ iSt g σ hb = 117) (hw : w.toInt = hb) : Inv eda ia K g n S hl (sgPI (sgPI (sgPI σ (gDv g k) 7 w) (gDv g k) 8 v) (gDv g k) 6 110) := by
  have td := (inv_dv h hk).2.1
  obtain ⟨⟨rk, w1⟩, w2, w3, w4, w5, w6⟩ := inv_R h
  have hn : 0 < n := by omega
  have k0 : 1 ≤ k := by
    by_cases e : k = 0
    · subst e; rw [w5] at hu; exact absurd hu (by decide)
    · omega
  have nek : ∀ j, j < n → ¬ iHb g σ j = -1 → ¬ iHb g σ j = k := fun j hj hh z => by
    have := w2 j hj (hY _) hh
    rw [z] at this
    exact this hu
  have ne : hb ≠ k := fun z => hp (by rw [z]; exact hu)
  have eH : ∀ j, j < n → j ≠ k → iHb g (sgPI (sgPI (sgPI σ (gDv g k) 7 w) (gDv g k) 8 v) (gDv g k) 6 110) j = iHb g σ j := fun j hj hne => by
    unfold iHb
    rw [sgI_nk (by decide), sgI_nk (by decide)]
    exact iHb_PI h hk hj (Or.inr hne)
  have eHk : iHb g (sgPI (sgPI (sgPI σ (gDv g k) 7 w) (gDv g k) 8 v) (gDv g k) 6 110) k = hb := by
    unfold iHb
    rw [sgI_nk (by decide), sgI_nk (by decide), sgI_PI, if_pos ⟨rfl, rfl⟩]
    exact hw
  have eS : ∀ j, j < n → j ≠ k → iSt g (sgPI (sgPI (sgPI σ (gDv g k) 7 w) (gDv g k) 8 v) (gDv g k) 6 110) j = iSt g σ j := fun j hj hne => by
    unfold iSt
    rw [sgI_PI, if_neg (fun z => hne (inv_inj h hj hk z.1)), sgI_nk (by decide), sgI_nk (by decide)]
  have eSk : iSt g (sgPI (sgPI (sgPI σ (gDv g k) 7 w) (gDv g k) 8 v) (gDv g k) 6 110) k = 110 := by
    unfold iSt
    rw [sgI_PI, if_pos ⟨rfl, rfl⟩]
  refine inv_de h (fun _ => rfl) (fun _ => rfl) (fun _ _ => rfl) (fun a j ha => by rw [sgI_PI, if_neg (fun z => ha (by rw [z.1]; exact td)), sgI_PI, if_neg (fun z => ha (by rw [z.1]; exact td)), sgI_PI, if_neg (fun z => ha (by rw [z.1]; exact td))]) (fun e he hu2 _ => ?_) ⟨⟨fun j => if j = k then rk hb + 1 else rk j, fun j hj => ?_⟩, fun j hj _ hh => ?_, fun j h1j hj _ => ?_, by rw [eH 0 hn (by omega)]; exact w4, by rw [eS 0 hn (by omega)]; exact w5, by rw [sgI_nk (by decide), sgI_nk (by decide), sgI_nk (by decide)]; exact w6⟩
  · rw [sgI_PI]
    by_cases z : e = gDv g k ∧ 6 = 6
    · rw [if_pos z]; decide
    · rw [if_neg z, sgI_nk (by decide), sgI_nk (by decide)]; exact hu2
  · by_cases e : j = k
    · subst e
      refine Or.inr ?_
      rw [eHk]
      refine ⟨by omega, by omega, ?_⟩
      show (if (hb : Int).toNat = j then _ else _) < if j = j then _ else _
      rw [if_pos rfl, Int.toNat_natCast, if_neg ne]
      omega
    · rw [eH j hj e]
      rcases w1 j hj with q | ⟨q1, q2, q3⟩
      · exact Or.inl q
      · refine Or.inr ⟨q1, q2, ?_⟩
        show (if (iHb g σ j).toNat = k then _ else _) < if j = k then _ else _
        rw [if_neg e, if_neg (fun z => nek j hj (by omega) (by omega))]
        exact q3
  · by_cases e : j = k
    · subst e
      rw [eHk, Int.toNat_natCast, eS hb hhb ne]; exact hp
    · rw [eH j hj e] at hh ⊢
      rcases w1 j hj with q | ⟨q1, q2, q3⟩
      · exact absurd q hh
      · rw [eS _ (by omega) (fun z => nek j hj hh (by omega))]
        exact w2 j hj (hY _) hh
  · by_cases e : j = k
    · subst e
      rw [eSk, eHk]
      exact ⟨fun z => absurd z (by decide), fun z => by omega⟩
    · rw [eS j hj e, eH j hj e]; exact w3 j h1j hj (hY _)
/-- more is under way -/
theorem inv_Yup (h : Inv eda ia K g n S hl σ) {y2 : Nat → Prop} (hy : ∀ a, gY g a → y2 a) : Inv eda ia K (g.1, g.2.1, g.2.2.1, g.2.2.2.1, g.2.2.2.2.1, y2) n S hl σ := by
  refine inv_ci (c2 := g.2.2.2.2.1) (y2 := y2) h tFr_rf (fun _ z => Or.inl z) (inv_LS h).2.2.2 (fun _ _ _ _ => rfl) (fun _ _ => rfl) (fun _ _ => ⟨rfl, rfl⟩) (fun _ _ _ _ => rfl) (fun _ _ => ⟨rfl, Or.inl rfl⟩) hy (fun _ _ _ _ _ => Or.inl ⟨rfl, rfl⟩) (Nat.le_refl _) (inv_M h).2.2 (inv_O h : iO K g σ) ?_
  obtain ⟨w1, w2, w3, w4⟩ := inv_R h
  exact ⟨w1, fun j hj hn => w2 j hj (fun z => hn (hy _ z)), fun j h1 hj hn => w3 j h1 hj (fun z => hn (hy _ z)), w4⟩
/-- less is under way -/
theorem inv_Ydn (h : Inv eda ia K g n S hl σ) {y2 : Nat → Prop} (hx : ∀ x l, sgT σ x = 17 → sgR σ x 3 = some l → gOw g l = x → gY g x → ¬ y2 x → (sgI σ x 4).toInt = -1 ∨ (1 ≤ (sgI σ x 4).toInt ∧ (sgI σ x 4).toInt ≤ 8 ∧ (sgI σ x 4).toInt ≤ sgSz σ l ∧ sgT σ (gCp g x) = 18 ∧ ¬ sgI σ (gCp g x) 2 = 115)) (ht : ∀ t l j x p e, sgT σ t = 19 → gY g t → ¬ y2 t → sgT σ l = 5 → gRo g l = 7 → sgT σ p = 18 → sgR σ p 9 = some l → gOw g l = p → sgR σ (pDv g σ p) 13 = some e → sgR σ e (sgI σ p 1).toInt.toNat = some x → j < sgSz σ l → sgAt σ l j = some t → iW σ x t) (hd : iR (g.1, g.2.1, g.2.2.1, g.2.2.2.1, g.2.2.2.2.1, y2) n σ) : Inv eda ia K (g.1, g.2.1, g.2.2.1, g.2.2.2.1, g.2.2.2.2.1, y2) n S hl σ := by
  refine ⟨inv_LS h, (inv_L h : iL ia g σ), (inv_B h : iB g S hl σ), (inv_D h : iD g σ), (inv_N h : iN g σ), fun x t2 => ?_, inv_T h, fun p t2 => ?_, (inv_M h : iM K g n S hl σ), (inv_O h : iO K g σ), hd⟩
  · obtain ⟨l, q1, q2, q3, q4, q5, q6, q7⟩ := inv_E h x t2
    refine ⟨l, q1, q2, q3, q4, q5, q6, ?_⟩
    by_cases z : y2 x
    · exact Or.inl z
    · rcases q7 with q7 | q7
      · exact Or.inr (hx x l t2 q1 q4 q7 z)
      · exact Or.inr q7
  · obtain ⟨l, e, x, q1, q2, q3, q4, q5, q6, q7, q8, q9, q10, q11, q12⟩ := inv_P h p t2
    refine ⟨l, e, x, q1, q2, q3, q4, q5, q6, q7, q8, q9, q10, q11, fun j t hj h1 => ?_⟩
    obtain ⟨v1, v2⟩ := q12 j t hj h1
    refine ⟨v1, ?_⟩
    by_cases z : y2 t
    · exact Or.inl z
    · rcases v2 with v2 | v2
      · exact Or.inr (ht t l j x p e v1 v2 z q2 q3 t2 q1 q4 q7 q9 hj h1)
      · exact Or.inr v2
end INVD
