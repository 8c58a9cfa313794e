section NWA
/-! new cells: what is old stands as it was -/
variable {eda n S hw : Nat} {ia : Nat → Nat} {K : KM} {g g2 : GH} {σ σ2 : SG} {X : Nat → Prop}
def oFr (σ σ2 : SG) : Prop := ∀ a, sgT σ a ≠ 0 → sgT σ2 a = sgT σ a ∧ sgN σ2 a = sgN σ a ∧ ∀ k, sgI σ2 a k = sgI σ a k ∧ sgR σ2 a k = sgR σ a k
theorem sgLS_nw (h : sgLS eda ia X σ) (hO : oFr σ σ2) (h110 : ∀ a, sgT σ a = 0 → sgT σ2 a ≠ 110) (h5 : ∀ l, sgT σ l = 0 → sgT σ2 l = 5 → sgR σ2 l 1 = some eda ∧ (sgI σ2 l 2).toInt = 0) (he : sgT σ2 eda = 0) : sgLS eda ia X σ2 ∧ sgLq X σ σ2 := by
  have old : ∀ a t, sgT σ2 a = t → sgT σ a ≠ 0 → sgT σ a = t := fun a t h1 h0 => by rw [← (hO a h0).1]; exact h1
  have eS : ∀ a, sgT σ a = 5 → sgSz σ2 a = sgSz σ a := fun a h5 => by unfold sgSz; rw [((hO a (by rw [h5]; decide)).2.2 2).1]
  obtain ⟨h1, h2, h3, h4⟩ := h
  refine ⟨⟨fun l t2 hx => ?_, fun l l2 r g1 g2 x1 x2 g3 g4 => ?_, fun a j y g1 g2 => ?_, he⟩, fun l hl5 hx => ⟨eS l hl5, fun j hj => ?_⟩⟩
  · by_cases z : sgT σ l = 0
    · obtain ⟨q1, q2⟩ := h5 l z t2
      have e0 : sgSz σ2 l = 0 := by unfold sgSz; rw [q2]; rfl
      rw [e0]
      exact ⟨eda, Or.inr ⟨t2, q1, rfl, rfl, q2⟩, by decide⟩
    · have l5 := old l 5 t2 z
      obtain ⟨hT, hN, hk⟩ := hO l z
      obtain ⟨r, g1, g2⟩ := h1 l l5 hx
      refine ⟨r, ?_, by rw [eS l l5]; exact g2⟩
      rw [eS l l5]
      rcases g1 with ⟨c1, c2, c3, c4, c5, c6⟩ | ⟨c1, c2, c3, c4, c5⟩
      · have hr := hO r (by rw [c3]; decide)
        exact Or.inl ⟨t2, by rw [(hk 1).2]; exact c2, by rw [hr.1]; exact c3, by rw [(hk 2).1]; exact c4, by rw [hr.2.1]; exact c5, by rw [hr.2.1]; exact c6⟩
      · exact Or.inr ⟨t2, by rw [(hk 1).2]; exact c2, c3, c4, by rw [(hk 2).1]; exact c5⟩
  · by_cases z : sgT σ l = 0
    · exact Or.inr (Option.some.inj (g3.symm.trans (h5 l z g1).1))
    · by_cases z2 : sgT σ l2 = 0
      · exact Or.inr (Option.some.inj (g4.symm.trans (h5 l2 z2 g2).1))
      · exact h2 l l2 r (old l 5 g1 z) (old l2 5 g2 z2) x1 x2 (by rw [← ((hO l z).2.2 1).2]; exact g3) (by rw [← ((hO l2 z2).2.2 1).2]; exact g4)
  · by_cases z : sgT σ a = 0
    · exact absurd g1 (h110 a z)
    · rw [((hO a z).2.2 j).2] at g2
      exact sgK_mono (fun b hb => (hO b hb).1) (h3 a j y (old a 110 g1 z) g2)
  · obtain ⟨r, g1, -⟩ := h1 l hl5 hx
    have gR := sgLz_R g1
    rw [sgAt_of gR, sgAt_of (by rw [((hO l (by rw [hl5]; decide)).2.2 1).2]; exact gR)]
    have gs := sgLz_s g1 (by omega)
    exact ((hO r (by rw [gs.2.2.1]; decide)).2.2 j).2
/-- new cells that are right by themselves -/
theorem inv_nw (h : Inv eda ia K g n S hw σ) (hO : oFr σ σ2) (hg : gFr σ g g2) (hdv : ∀ k, k < n → gDv g2 k = gDv g k) (hc : ∀ x, gCp g2 x = gCp g x) (hY : ∀ a, gY g a → gY g2 a) (he : sgT σ2 eda = 0) (n110 : ∀ a, sgT σ a = 0 → sgT σ2 a ≠ 110) (n5 : ∀ l, sgT σ l = 0 → sgT σ2 l = 5 → gRo g2 l ≠ 1 ∧ sgR σ2 l 1 = some eda ∧ (sgI σ2 l 2).toInt = 0) (nD : ∀ d, sgT σ d = 0 → sgT σ2 d = 16 → iD1 g2 σ2 d) (nN : ∀ e j x, sgT σ e = 0 → sgT σ2 e = 108 → j < 4 → sgR σ2 e j = some x → False) (nE : ∀ x, sgT σ x = 0 → sgT σ2 x = 17 → iE1 g2 σ2 x) (nT : ∀ t, sgT σ t = 0 → sgT σ2 t = 19 → ∃ b : Nat, sgR σ2 t 0 = some b ∧ sgT σ2 b = 100 ∧ sgN σ2 b ≤ 16) (nP : ∀ p, sgT σ p = 0 → sgT σ2 p = 18 → iP1 g2 n σ2 p) : Inv eda ia K g2 n S hw σ2 := by
  have hT : tFr σ σ2 := fun a ha => ⟨(hO a ha).1, (hO a ha).2.1⟩
  have fI : ∀ a t k, sgT σ a = t → t ≠ 0 → sgI σ2 a k = sgI σ a k := fun a t k h1 h2 => ((hO a (by rw [h1]; exact h2)).2.2 k).1
  have fR : ∀ a t k, sgT σ a = t → t ≠ 0 → sgR σ2 a k = sgR σ a k := fun a t k h1 h2 => ((hO a (by rw [h1]; exact h2)).2.2 k).2
  have bk : ∀ a t, sgT σ2 a = t → sgT σ a = 0 ∨ sgT σ a = t := fun a t h1 => by
    by_cases z : sgT σ a = 0
    · exact Or.inl z
    · exact Or.inr (by rw [← (hO a z).1]; exact h1)
  obtain ⟨hS2, hq⟩ := sgLS_nw (inv_LS h) hO n110 (fun l a b => (n5 l a b).2) he
  have z5 : ∀ l, sgT σ l = 0 → sgT σ2 l = 5 → sgSz σ2 l = 0 := fun l a b => by unfold sgSz; rw [(n5 l a b).2.2]; rfl
  have rD : ∀ d, sgT σ d = 16 → sgR σ2 d 13 = sgR σ d 13 := fun d hd => fR d 16 13 hd (by decide)
  have rE : ∀ e j x, sgT σ e = 108 → sgR σ e j = some x → sgR σ2 e j = some x := fun e j x he2 hx => by rw [fR e 108 j he2 (by decide)]; exact hx
  obtain ⟨-, -, -, -, -, -, -, -, -, -, -, -, -, -, -, -, hkD⟩ := inv_Mr h
  refine ⟨hS2, iL_tr hT hg (fun l j t1 r1 hj => hdv j (by rw [hkD l t1 r1, (inv_M h).2.1.1] at hj; exact hj)) (inv_L h) (fun l t2 => ?_), iB_tr hg (inv_B h) (Nat.le_refl _) (fun l t2 => ?_), iD_tr hT hg (inv_D h) (fun d t2 => ?_), iN_tr hT hg (inv_N h) (fun e t2 j x hj hx => ?_), iE_tr hT hg (inv_E h) (fun x t2 => ?_), iT_tr hT (inv_T h) (fun t t2 => ?_), iP_tr hT hg (inv_P h) (Nat.le_refl _) hdv rD rE (fun p t2 => ?_), ⟨iMr_tr hT hg (inv_Mr h) (fun k _ => fR _ 20 k (inv_A h) (by decide)) (Or.inl (fR _ 20 6 (inv_A h) (by decide))) (fun l t2 => ?_), ?_, ?_⟩, iO_tr h hc hdv hT (fun k p _ hp => by rw [fR _ 109 k (inv_tP h).1 (by decide)] at hp; exact hp) (fun p k hp _ => fI p 18 k hp (by decide)) rD rE (fun d hd hu _ => by rw [fI d 16 6 hd (by decide)]; exact hu), iR_tr h hdv (fun k _ => hY _) (fun a k ha _ => fI a 16 k ha (by decide))⟩
  · rcases bk l 5 t2 with z | z
    · exact Or.inr (fun j hj => by rw [z5 l z t2] at hj; omega)
    · exact Or.inl ⟨z, hq l z id⟩
  · rcases bk l 5 t2 with z | z
    · exact Or.inr (by rw [z5 l z t2]; exact Nat.zero_le _)
    · exact Or.inl ⟨z, Nat.le_of_eq (hq l z id).1⟩
  · rcases bk d 16 t2 with z | z
    · exact Or.inr (nD d z t2)
    · exact Or.inl ⟨z, fR d 16 13 z (by decide), fR d 16 14 z (by decide), fR d 16 15 z (by decide)⟩
  · rcases bk e 108 t2 with z | z
    · exact (nN e j x z t2 hj hx).elim
    · rw [fR e 108 j z (by decide)] at hx
      exact Or.inl ⟨z, hx⟩
  · rcases bk x 17 t2 with z | z
    · exact Or.inr (nE x z t2)
    · exact Or.inl ⟨z, fR x 17 3 z (by decide), fI x 17 1 z (by decide), fun l q1 q2 q3 q4 q5 => iK1_tr hT (hY x) (fI x 17 4 z (by decide)) (Nat.le_of_eq (hq l q2 id).1.symm) (hc x) (fun p hp => fI p 18 2 hp (by decide)) q5⟩
  · rcases bk t 19 t2 with z | z
    · exact Or.inr (nT t z t2)
    · exact Or.inl ⟨z, fR t 19 0 z (by decide)⟩
  · rcases bk p 18 t2 with z | z
    · exact Or.inr (nP p z t2)
    · exact Or.inl ⟨z, fR p 18 9 z (by decide), fun k _ => fI p 18 k z (by decide), fun l e x q1 q2 _ _ _ _ q7 q8 => iRw_tr hT (inv_T h) (hq l q2 id).1 (hq l q2 id).2 (fI x 17 0 q7 (by decide)) (fun t _ => hY t) (fun t ht => ⟨fI t 19 1 ht (by decide), fR t 19 0 ht (by decide), Or.inl (fI t 19 2 ht (by decide))⟩) q8⟩
  · rcases bk l 5 t2 with z | z
    · exact Or.inr (n5 l z t2).1
    · exact Or.inl z
  · obtain ⟨e1, e2⟩ := (inv_M h).2.1
    exact ⟨(hq _ (inv_tD h).1 id).1.trans e1, e2⟩
  · have hMi := (inv_M h).2.2
    unfold iMi at hMi ⊢
    rw [fI _ 20 9 (inv_A h) (by decide), fI _ 20 10 (inv_A h) (by decide), fI _ 20 11 (inv_A h) (by decide)]
    exact hMi
variable {σ0 : SG} {q t n9 a k : Nat}
theorem oFr_rf : oFr σ σ := fun _ _ => ⟨rfl, rfl, fun _ => ⟨rfl, rfl⟩⟩
theorem oFr_nw (h : oFr σ0 σ) (hq : sgT σ q = 0) : oFr σ0 (sgNw σ q t n9) := fun a ha => by
  obtain ⟨h1, h2, h3⟩ := h a ha
  have ne : a ≠ q := fun z => ha (by rw [← h1, z]; exact hq)
  exact ⟨by rw [sgNw_T, if_neg ne]; exact h1, by rw [sgNw_N, if_neg ne]; exact h2, fun k => ⟨by rw [sgNw_I, if_neg ne]; exact (h3 k).1, by rw [sgNw_R, if_neg ne]; exact (h3 k).2⟩⟩
theorem oFr_PI {x : Int32} (h : oFr σ0 σ) (ha : sgT σ0 a = 0) : oFr σ0 (sgPI σ a k x) := fun b hb => by
  obtain ⟨h1, h2, h3⟩ := h b hb
  exact ⟨h1, h2, fun j => ⟨by rw [sgI_PI, if_neg (fun z => hb (by rw [z.1]; exact ha))]; exact (h3 j).1, (h3 j).2⟩⟩
theorem oFr_PR {x : Option Nat} (h : oFr σ0 σ) (ha : sgT σ0 a = 0) : oFr σ0 (sgPR σ a k x) := fun b hb => by
  obtain ⟨h1, h2, h3⟩ := h b hb
  refine ⟨h1, h2, fun j => ⟨(h3 j).1, ?_⟩⟩
  show (if b = a ∧ j = k then x else sgR σ b j) = _
  rw [if_neg (fun z => hb (by rw [z.1]; exact ha))]
  exact (h3 j).2
theorem nw_ne (h : sgT (sgNw σ q t n9) a = 0) (h0 : t ≠ 0) : a ≠ q := fun z => h0 (by rw [← h, z, sgNw_T, if_pos rfl])
theorem nw_0 (h : sgT (sgNw σ q t n9) a = 0) (h0 : t ≠ 0) : sgT σ a = 0 := by
  have ne := nw_ne h h0
  rw [sgNw_T, if_neg ne] at h
  exact h
/-- no End is the host's -/
def nH (g : GH) : Prop := ∀ x, gOw g (gOw g x) ≠ gDv g 0
theorem inv_hd (h : Inv eda ia K g n S hw σ) {a t : Nat} (ha : sgT σ a = t) (h16 : t ≠ 16) : a ≠ gDv g 0 := fun z => by
  rw [z, (inv_dv h (inv_sz h).2.1).2.1] at ha
  exact h16 ha.symm
theorem inv_gow (h : Inv eda ia K g n S hw σ) {k e : Nat} (hk : k < n) (he : sgR σ (gDv g k) 13 = some e) : gOw g e = gDv g k := by
  obtain ⟨e2, f, l, q1, -, -, -, -, q2, -⟩ := inv_D h _ (inv_dv h hk).2.1
  rw [he] at q1
  obtain rfl := Option.some.inj q1
  exact q2
theorem nH_ep (h : Inv eda ia K g n S hw σ) {k e : Nat} (hk : k < n) (hu : iSt g σ k = 117) (he : sgR σ (gDv g k) 13 = some e) : gOw g e ≠ gDv g 0 := fun z => by
  rw [inv_gow h hk he] at z
  obtain ⟨-, -, -, -, r5, -⟩ := inv_R h
  unfold iSt at hu r5
  rw [z, r5] at hu
  exact absurd hu (by decide)
theorem nH_x (h : Inv eda ia K g n S hw σ) (hH : nH g) {k j x : Nat} (hk : k < n) (hj : j < 4) (he : iEn g σ k j = some x) : 1 ≤ k := by
  obtain ⟨e, f, l, q1, -, -, q2, -⟩ := inv_ends h hk
  unfold iEn at he
  rw [q1] at he
  have he2 : sgR σ e j = some x := he
  have q3 := (inv_N h e q2 j x hj he2).2.1
  by_cases c : k = 0
  · refine (hH x ?_).elim
    rw [q3, inv_gow h hk q1, c]
  · omega
end NWA
