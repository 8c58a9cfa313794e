section MDA
/-! the model as its constructor leaves it -/
variable {eda : Nat} {ia : Nat → Nat} {σ σ2 : SG} {A q t n9 k j : Nat} {L : List (Nat × Nat × Nat)} {v : Int32}
/-- what stands beside the model itself: these cells alone, lists empty, arrays of cells empty -/
def mdS (eda : Nat) (σ : SG) (A : Nat) (L : List (Nat × Nat × Nat)) : Prop := sgT σ A = 20 ∧ (∀ x, x ∈ L → x.1 ≠ A ∧ sgT σ x.1 = x.2.1 ∧ sgN σ x.1 = x.2.2 ∧ (x.2.1 = 5 → sgR σ x.1 1 = some eda ∧ (sgI σ x.1 2).toInt = 0) ∧ (x.2.1 = 109 → ∀ k, sgR σ x.1 k = none)) ∧ (∀ a, sgT σ a ≠ 0 → a = A ∨ ∃ x, x ∈ L ∧ a = x.1) ∧ L.Pairwise (fun x y => x.1 ≠ y.1) ∧ ∀ x, x ∈ L → x.2.1 ≠ 0
def mdL (eda : Nat) (σ : SG) (A q k : Nat) : SG := sgPR (sgPR (sgPI (sgNw σ q 5 0) q 0 0) q 1 (some eda)) A k (some q)
theorem mdS_ne (h : mdS eda σ A L) (hq : sgT σ q = 0) : A ≠ q ∧ ∀ x, x ∈ L → x.1 ≠ q := by
  refine ⟨fun z => ?_, fun x hx z => ?_⟩
  · have := h.1
    rw [z, hq] at this
    exact absurd this (by decide)
  · have := (h.2.1 x hx).2.1
    rw [z, hq] at this
    exact h.2.2.2.2 x hx this.symm
theorem mdS_list (h : mdS eda σ A L) (hq : sgT σ q = 0) : mdS eda (mdL eda σ A q k) A ((q, 5, 0) :: L) := by
  obtain ⟨nA, nL⟩ := mdS_ne h hq
  have eT : ∀ a, sgT (mdL eda σ A q k) a = if a = q then 5 else sgT σ a := fun _ => rfl
  have eN : ∀ a, sgN (mdL eda σ A q k) a = if a = q then 0 else sgN σ a := fun _ => rfl
  have eI : ∀ a j, sgI (mdL eda σ A q k) a j = if a = q ∧ j = 0 then 0 else if a = q then 0 else sgI σ a j := fun _ _ => rfl
  have eR : ∀ a j, sgR (mdL eda σ A q k) a j = if a = A ∧ j = k then some q else if a = q ∧ j = 1 then some eda else if a = q then none else sgR σ a j := fun _ _ => rfl
  refine ⟨by rw [eT, if_neg nA]; exact h.1, fun x hx => ?_, fun a ha => ?_, List.pairwise_cons.mpr ⟨fun x hx => (nL x hx).symm, h.2.2.2.1⟩, fun x hx => ?_⟩
  · rcases List.mem_cons.mp hx with e | e
    · subst e
      refine ⟨nA.symm, by rw [eT, if_pos rfl], by rw [eN, if_pos rfl], fun _ => ⟨?_, ?_⟩, fun z => absurd z (show ¬ (5 : Nat) = 109 from by decide)⟩
      · rw [eR, if_neg (fun z => nA z.1.symm), if_pos ⟨rfl, rfl⟩]
      · rw [eI, if_neg (fun z => absurd z.2 (by decide)), if_pos rfl]
        rfl
    · obtain ⟨w0, w1, w2, w3, w4⟩ := h.2.1 x e
      have nx := nL x e
      refine ⟨w0, by rw [eT, if_neg nx]; exact w1, by rw [eN, if_neg nx]; exact w2, fun z => ⟨?_, ?_⟩, fun z k => ?_⟩
      · rw [eR, if_neg (fun z => w0 z.1), if_neg (fun z => nx z.1), if_neg nx]
        exact (w3 z).1
      · rw [eI, if_neg (fun z => nx z.1), if_neg nx]
        exact (w3 z).2
      · rw [eR, if_neg (fun z => w0 z.1), if_neg (fun z => nx z.1), if_neg nx]
        exact w4 z k
  · by_cases c : a = q
    · exact Or.inr ⟨_, List.mem_cons_self, c⟩
    · rw [eT, if_neg c] at ha
      rcases h.2.2.1 a ha with e | ⟨x, e1, e2⟩
      · exact Or.inl e
      · exact Or.inr ⟨x, List.mem_cons_of_mem _ e1, e2⟩
  · rcases List.mem_cons.mp hx with e | e
    · subst e
      show (5 : Nat) ≠ 0
      decide
    · exact h.2.2.2.2 x e
theorem mdS_arr (h : mdS eda σ A L) (hq : sgT σ q = 0) (h0 : t ≠ 0) (h5 : t ≠ 5) : mdS eda (sgPR (sgNw σ q t n9) A k (some q)) A ((q, t, n9) :: L) := by
  obtain ⟨nA, nL⟩ := mdS_ne h hq
  have eT : ∀ a, sgT (sgPR (sgNw σ q t n9) A k (some q)) a = if a = q then t else sgT σ a := fun _ => rfl
  have eN : ∀ a, sgN (sgPR (sgNw σ q t n9) A k (some q)) a = if a = q then n9 else sgN σ a := fun _ => rfl
  have eI : ∀ a j, sgI (sgPR (sgNw σ q t n9) A k (some q)) a j = if a = q then 0 else sgI σ a j := fun _ _ => rfl
  have eR : ∀ a j, sgR (sgPR (sgNw σ q t n9) A k (some q)) a j = if a = A ∧ j = k then some q else if a = q then none else sgR σ a j := fun _ _ => rfl
  refine ⟨by rw [eT, if_neg nA]; exact h.1, fun x hx => ?_, fun a ha => ?_, List.pairwise_cons.mpr ⟨fun x hx => (nL x hx).symm, h.2.2.2.1⟩, fun x hx => ?_⟩
  · rcases List.mem_cons.mp hx with e | e
    · subst e
      refine ⟨nA.symm, by rw [eT, if_pos rfl], by rw [eN, if_pos rfl], fun z => absurd z h5, fun _ k => ?_⟩
      rw [eR, if_neg (fun z => nA z.1.symm), if_pos rfl]
    · obtain ⟨w0, w1, w2, w3, w4⟩ := h.2.1 x e
      have nx := nL x e
      refine ⟨w0, by rw [eT, if_neg nx]; exact w1, by rw [eN, if_neg nx]; exact w2, fun z => ⟨?_, ?_⟩, fun z k => ?_⟩
      · rw [eR, if_neg (fun z => w0 z.1), if_neg nx]
        exact (w3 z).1
      · rw [eI, if_neg nx]
        exact (w3 z).2
      · rw [eR, if_neg (fun z => w0 z.1), if_neg nx]
        exact w4 z k
  · by_cases c : a = q
    · exact Or.inr ⟨_, List.mem_cons_self, c⟩
    · rw [eT, if_neg c] at ha
      rcases h.2.2.1 a ha with e | ⟨x, e1, e2⟩
      · exact Or.inl e
      · exact Or.inr ⟨x, List.mem_cons_of_mem _ e1, e2⟩
  · rcases List.mem_cons.mp hx with e | e
    · subst e
      exact h0
    · exact h.2.2.2.2 x e
theorem mdS_PI (h : mdS eda σ A L) : mdS eda (sgPI σ A k v) A L := by
  refine ⟨h.1, fun x hx => ?_, h.2.2.1, h.2.2.2.1, h.2.2.2.2⟩
  obtain ⟨w0, w1, w2, w3, w4⟩ := h.2.1 x hx
  refine ⟨w0, w1, w2, fun z => ⟨(w3 z).1, ?_⟩, w4⟩
  rw [sgI_PI, if_neg (fun z => w0 z.1)]
  exact (w3 z).2
theorem mdL_R (nA : A ≠ q) : sgR (mdL eda σ A q k) A j = if j = k then some q else sgR σ A j := by
  show (if A = A ∧ j = k then some q else if A = q ∧ j = 1 then some eda else if A = q then none else sgR σ A j) = _
  by_cases c : j = k
  · rw [if_pos ⟨rfl, c⟩, if_pos c]
  · rw [if_neg (fun z => c z.2), if_neg (fun z => nA z.1), if_neg nA, if_neg c]
theorem mdA_R (nA : A ≠ q) : sgR (sgPR (sgNw σ q t n9) A k (some q)) A j = if j = k then some q else sgR σ A j := by
  show (if A = A ∧ j = k then some q else if A = q then none else sgR σ A j) = _
  by_cases c : j = k
  · rw [if_pos ⟨rfl, c⟩, if_pos c]
  · rw [if_neg (fun z => c z.2), if_neg nA, if_neg c]
theorem mdL_I (nA : A ≠ q) : sgI (mdL eda σ A q k) A j = sgI σ A j := by
  show (if A = q ∧ j = 0 then 0 else if A = q then 0 else sgI σ A j) = _
  rw [if_neg (fun z => nA z.1), if_neg nA]
theorem mdA_I (nA : A ≠ q) : sgI (sgPR (sgNw σ q t n9) A k (some q)) A j = sgI σ A j := by
  show (if A = q then 0 else sgI σ A j) = _
  rw [if_neg nA]
/-- the host, as it stands before it is listed -/
theorem dv_facts {d e f h9 : Nat} {sp po pw ow ki v6 : Int32} (hd : sgT σ d = 0) (he : sgT (sgNw σ d 16 0) e = 0) (hf : sgT (sgNw (sgNw σ d 16 0) e 108 4) f = 0) (hh : sgT (sgNw (sgNw (sgNw σ d 16 0) e 108 4) f 101 4) h9 = 0) (hF : sgPI (dvF σ d e f h9 sp po pw ow ki) d 6 v6 = σ2) : oFr σ σ2 ∧ sgT σ2 d = 16 ∧ (sgT σ2 e = 108 ∧ sgN σ2 e = 4 ∧ sgR σ2 d 13 = some e ∧ ∀ j, sgR σ2 e j = none) ∧ (sgT σ2 f = 101 ∧ sgN σ2 f = 4 ∧ sgR σ2 d 14 = some f) ∧ (sgT σ2 h9 = 100 ∧ sgN σ2 h9 = 4 ∧ sgR σ2 d 15 = some h9) ∧ (sgI σ2 d 0 = sp ∧ sgI σ2 d 6 = v6 ∧ sgI σ2 d 7 = -1) ∧ (∀ a, sgT σ a = 0 → sgT σ2 a ≠ 0 → a = h9 ∨ a = f ∨ a = e ∨ a = d) ∧ (sgT σ e = 0 ∧ sgT σ d = 0) := by
  subst hF
  have ned := nw_ne he (by decide)
  have e0 := nw_0 he (by decide)
  have nfe := nw_ne hf (by decide)
  have f1 := nw_0 hf (by decide)
  have nfd := nw_ne f1 (by decide)
  have f0 := nw_0 f1 (by decide)
  have nhf := nw_ne hh (by decide)
  have h1 := nw_0 hh (by decide)
  have nhe := nw_ne h1 (by decide)
  have h2 := nw_0 h1 (by decide)
  have nhd := nw_ne h2 (by decide)
  have h0 := nw_0 h2 (by decide)
  refine ⟨oFr_PI (oFr_PI (oFr_PI (oFr_PI (oFr_PI (oFr_PI (oFr_PI (oFr_PR (oFr_nw (oFr_PR (oFr_nw (oFr_PR (oFr_nw (oFr_PI (oFr_PI (oFr_PI (oFr_nw oFr_rf hd) hd) hd) hd) (by exact he)) hd) (by exact hf)) hd) (by exact hh)) hd) hd) hd) hd) hd) hd) hd) hd, ?_, ⟨?_, ?_, ?_, fun j => ?_⟩, ⟨?_, ?_, ?_⟩, ⟨?_, ?_, ?_⟩, ⟨?_, ?_, ?_⟩, fun a z q => ?_, e0, hd⟩
  · show sgT (dvF σ d e f h9 sp po pw ow ki) d = 16
    rw [dvF_T, if_neg (Ne.symm nhd), if_neg (Ne.symm nfd), if_neg (Ne.symm ned), if_pos rfl]
  · show sgT (dvF σ d e f h9 sp po pw ow ki) e = 108
    rw [dvF_T, if_neg (Ne.symm nhe), if_neg (Ne.symm nfe), if_pos rfl]
  · show sgN (dvF σ d e f h9 sp po pw ow ki) e = 4
    rw [dvF_N, if_neg (Ne.symm nhe), if_neg (Ne.symm nfe), if_pos rfl]
  · show sgR (dvF σ d e f h9 sp po pw ow ki) d 13 = some e
    rw [dvF_R, if_neg (fun z => absurd z.2 (by decide)), if_neg (Ne.symm nhd), if_neg (fun z => absurd z.2 (by decide)), if_neg (Ne.symm nfd), if_pos ⟨rfl, rfl⟩]
  · show sgR (dvF σ d e f h9 sp po pw ow ki) e j = none
    rw [dvF_R, if_neg (fun z => ned z.1), if_neg (Ne.symm nhe), if_neg (fun z => ned z.1), if_neg (Ne.symm nfe), if_neg (fun z => ned z.1), if_pos rfl]
  · show sgT (dvF σ d e f h9 sp po pw ow ki) f = 101
    rw [dvF_T, if_neg (Ne.symm nhf), if_pos rfl]
  · show sgN (dvF σ d e f h9 sp po pw ow ki) f = 4
    rw [dvF_N, if_neg (Ne.symm nhf), if_pos rfl]
  · show sgR (dvF σ d e f h9 sp po pw ow ki) d 14 = some f
    rw [dvF_R, if_neg (fun z => absurd z.2 (by decide)), if_neg (Ne.symm nhd), if_pos ⟨rfl, rfl⟩]
  · show sgT (dvF σ d e f h9 sp po pw ow ki) h9 = 100
    rw [dvF_T, if_pos rfl]
  · show sgN (dvF σ d e f h9 sp po pw ow ki) h9 = 4
    rw [dvF_N, if_pos rfl]
  · show sgR (dvF σ d e f h9 sp po pw ow ki) d 15 = some h9
    rw [dvF_R, if_pos ⟨rfl, rfl⟩]
  · rw [sgI_nk (by decide), dvF_I, if_neg (fun z => absurd z.2 (by decide)), if_neg (fun z => absurd z.2 (by decide)), if_neg (fun z => absurd z.2 (by decide)), if_neg (fun z => absurd z.2 (by decide)), if_neg (fun z => absurd z.2 (by decide)), if_pos ⟨rfl, rfl⟩]
  · rw [sgI_PI, if_pos ⟨rfl, rfl⟩]
  · rw [sgI_nk (by decide), dvF_I, if_neg (fun z => absurd z.2 (by decide)), if_neg (fun z => absurd z.2 (by decide)), if_neg (fun z => absurd z.2 (by decide)), if_neg (fun z => absurd z.2 (by decide)), if_neg (fun z => absurd z.2 (by decide)), if_neg (fun z => absurd z.2 (by decide)), if_neg (Ne.symm nhd), if_neg (Ne.symm nfd), if_neg (Ne.symm ned), if_neg (fun z => absurd z.2 (by decide)), if_pos ⟨rfl, rfl⟩]
  · have q2 : sgT (dvF σ d e f h9 sp po pw ow ki) a ≠ 0 := q
    by_cases c1 : a = h9
    · exact Or.inl c1
    · by_cases c2 : a = f
      · exact Or.inr (Or.inl c2)
      · by_cases c3 : a = e
        · exact Or.inr (Or.inr (Or.inl c3))
        · by_cases c4 : a = d
          · exact Or.inr (Or.inr (Or.inr c4))
          · rw [dvF_T, if_neg c1, if_neg c2, if_neg c3, if_neg c4] at q2
            exact absurd z q2
def gM (A d r t e G D e9 : Nat) : GH := (fun a => if a = e9 then D else A, fun _ => 0, fun a => if a = d then 1 else if a = r then 2 else if a = t then 3 else if a = e then 4 else 5, fun _ => D, fun _ => 0, fun _ => False)
theorem inv_mk {d p r t e w G h D e9 f9 h9 : Nat} {σ3 : SG} (hM : mdS eda σ A [(h, 100, 16), (G, 5, 0), (w, 100, 0), (e, 5, 0), (t, 5, 0), (r, 5, 0), (p, 109, 12), (d, 5, 0)])
    (R1 : sgR σ A 1 = some d) (R2 : sgR σ A 2 = some p) (R3 : sgR σ A 3 = some r) (R4 : sgR σ A 4 = some t) (R5 : sgR σ A 5 = some e) (R6 : sgR σ A 6 = some w) (R8 : sgR σ A 8 = some G) (R12 : sgR σ A 12 = some h) (I9 : sgI σ A 9 = 0) (I10 : sgI σ A 10 = -1) (I11 : sgI σ A 11 = 100)
    (hO : oFr σ σ2) (tD : sgT σ2 D = 16) (hE : sgT σ2 e9 = 108 ∧ sgN σ2 e9 = 4 ∧ sgR σ2 D 13 = some e9 ∧ ∀ j, sgR σ2 e9 j = none) (hF : sgT σ2 f9 = 101 ∧ sgN σ2 f9 = 4 ∧ sgR σ2 D 14 = some f9) (hH : sgT σ2 h9 = 100 ∧ sgN σ2 h9 = 4 ∧ sgR σ2 D 15 = some h9) (hI : sgI σ2 D 0 = 104 ∧ sgI σ2 D 6 = 99 ∧ sgI σ2 D 7 = -1) (hnew : ∀ a, sgT σ a = 0 → sgT σ2 a ≠ 0 → a = h9 ∨ a = f9 ∨ a = e9 ∨ a = D)
    (ha : sgAd d eda D 0 σ2 σ3) (hed : sgT σ3 eda = 0) : nY (gM A d r t e G D e9) ∧ nH (gM A d r t e G D e9) ∧ Inv eda ia (A, d, p, r, t, e, G, h) (gM A d r t e G D e9) 1 200 100 σ3 := by
  obtain ⟨tA, hc, hall, hpw, -⟩ := hM
  simp only [List.pairwise_cons, List.mem_cons, List.not_mem_nil, or_false, forall_eq_or_imp, forall_eq, List.Pairwise.nil, and_true, false_imp_iff, imp_true_iff, implies_true] at hpw hc
  obtain ⟨⟨nh1, nh2, nh3, nh4, nh5, nh6, nh7⟩, ⟨nG1, nG2, nG3, nG4, nG5, nG6⟩, ⟨nw1, nw2, nw3, nw4, nw5⟩, ⟨ne1, ne2, ne3, ne4⟩, ⟨nt1, nt2, nt3⟩, ⟨nr1, nr2⟩, np1⟩ := hpw
  obtain ⟨⟨hA1, th, Nh, -, -⟩, ⟨hA2, tG, -, lG, -⟩, ⟨hA3, tw, Nw, -, -⟩, ⟨hA4, te, -, le, -⟩, ⟨hA5, tt, -, lt, -⟩, ⟨hA6, tr, -, lr, -⟩, ⟨hA7, tp, Np, -, lp⟩, ⟨hA8, td, -, ld, -⟩⟩ := hc
  obtain ⟨r2, a1, a2, a3, a4, a5, a9, a6, a7, a8⟩ := ha
  have ed2 : sgT σ2 eda = 0 := by
    by_cases z : sgT σ2 eda = 0
    · exact z
    · rw [(a6 eda z).1] at hed
      exact absurd hed z
  have ned : ∀ a, sgT σ2 a ≠ 0 → a ≠ eda := fun a h1 z => h1 (by rw [z]; exact ed2)
  -- a cell of old in the end
  have oT : ∀ a u, sgT σ a = u → u ≠ 0 → sgT σ3 a = u ∧ sgN σ3 a = sgN σ a := fun a u h1 h0 => by
    have q := hO a (by rw [h1]; exact h0)
    have q2 := a6 a (by rw [q.1, h1]; exact h0)
    exact ⟨q2.1.trans (q.1.trans h1), q2.2.trans q.2.1⟩
  have oF : ∀ a u, sgT σ a = u → u ≠ 0 → a ≠ d → ∀ k, sgI σ3 a k = sgI σ a k ∧ sgR σ3 a k = sgR σ a k := fun a u h1 h0 hd k => by
    have q := hO a (by rw [h1]; exact h0)
    have n2 : sgT σ2 a ≠ 0 := by rw [q.1, h1]; exact h0
    have q2 := (a8 a k n2).2 hd
    exact ⟨q2.1.trans (q.2.2 k).1, (q2.2 (ned a n2)).trans (q.2.2 k).2⟩
  have nT : ∀ a u, sgT σ2 a = u → u ≠ 0 → sgT σ3 a = u ∧ sgN σ3 a = sgN σ2 a := fun a u h1 h0 => by
    have q2 := a6 a (by rw [h1]; exact h0)
    exact ⟨q2.1.trans h1, q2.2⟩
  have td2 : sgT σ2 d = 5 := (hO d (by rw [td]; decide)).1.trans td
  have nF : ∀ a u, sgT σ2 a = u → u ≠ 0 → u ≠ 5 → ∀ k, sgI σ3 a k = sgI σ2 a k ∧ sgR σ3 a k = sgR σ2 a k := fun a u h1 h0 h5 k => by
    have n2 : sgT σ2 a ≠ 0 := by rw [h1]; exact h0
    have q2 := (a8 a k n2).2 (fun z => h5 (by rw [← h1, z]; exact td2))
    exact ⟨q2.1, q2.2 (ned a n2)⟩
  have tr2 : sgT σ3 r2 = 110 := a2.2.2.1
  -- every cell
  have all : ∀ a, sgT σ3 a ≠ 0 → a = r2 ∨ (a = h9 ∨ a = f9 ∨ a = e9 ∨ a = D) ∨ (a = A ∨ a = h ∨ a = G ∨ a = w ∨ a = e ∨ a = t ∨ a = r ∨ a = p ∨ a = d) := fun a ha => by
    by_cases z2 : sgT σ2 a = 0
    · exact Or.inl ((a7 a z2).resolve_left ha)
    · by_cases z1 : sgT σ a = 0
      · exact Or.inr (Or.inl (hnew a z1 z2))
      · rcases hall a z1 with q | ⟨x, q1, q2⟩
        · exact Or.inr (Or.inr (Or.inl q))
        · simp only [List.mem_cons, List.not_mem_nil, or_false] at q1
          refine Or.inr (Or.inr (Or.inr ?_))
          rcases q1 with q | q | q | q | q | q | q | q <;> (rw [q] at q2; simp only [q2, true_or, or_true])
  have TA := (oT A 20 tA (by decide)).1
  have Td := (oT d 5 td (by decide)).1
  have Tr := (oT r 5 tr (by decide)).1
  have Tt := (oT t 5 tt (by decide)).1
  have Te := (oT e 5 te (by decide)).1
  have TG := (oT G 5 tG (by decide)).1
  have Tp := oT p 109 tp (by decide)
  have Tw := oT w 100 tw (by decide)
  have Th := oT h 100 th (by decide)
  have TD := (nT D 16 tD (by decide)).1
  have TE := nT e9 108 hE.1 (by decide)
  have TF := nT f9 101 hF.1 (by decide)
  have TH := nT h9 100 hH.1 (by decide)
  have nAd : A ≠ d := fun z => by rw [z, td] at tA; exact absurd tA (by decide)
  have only : ∀ a u, sgT σ3 a = u → u ≠ 0 → (u = 110 ∧ a = r2) ∨ (u = 5 ∧ (a = d ∨ a = r ∨ a = t ∨ a = e ∨ a = G)) ∨ (u = 16 ∧ a = D) ∨ (u = 108 ∧ a = e9) ∨ u = 20 ∨ u = 100 ∨ u = 101 ∨ u = 109 := fun a u h1 h0 => by
    rcases all a (by rw [h1]; exact h0) with q | (q | q | q | q) | (q | q | q | q | q | q | q | q | q)
    · exact Or.inl ⟨h1.symm.trans (by rw [q]; exact tr2), q⟩
    · exact Or.inr (Or.inr (Or.inr (Or.inr (Or.inr (Or.inl (h1.symm.trans (by rw [q]; exact TH.1)))))))
    · exact Or.inr (Or.inr (Or.inr (Or.inr (Or.inr (Or.inr (Or.inl (h1.symm.trans (by rw [q]; exact TF.1))))))))
    · exact Or.inr (Or.inr (Or.inr (Or.inl ⟨h1.symm.trans (by rw [q]; exact TE.1), q⟩)))
    · exact Or.inr (Or.inr (Or.inl ⟨h1.symm.trans (by rw [q]; exact TD), q⟩))
    · exact Or.inr (Or.inr (Or.inr (Or.inr (Or.inl (h1.symm.trans (by rw [q]; exact TA))))))
    · exact Or.inr (Or.inr (Or.inr (Or.inr (Or.inr (Or.inl (h1.symm.trans (by rw [q]; exact Th.1)))))))
    · exact Or.inr (Or.inl ⟨h1.symm.trans (by rw [q]; exact TG), Or.inr (Or.inr (Or.inr (Or.inr q)))⟩)
    · exact Or.inr (Or.inr (Or.inr (Or.inr (Or.inr (Or.inl (h1.symm.trans (by rw [q]; exact Tw.1)))))))
    · exact Or.inr (Or.inl ⟨h1.symm.trans (by rw [q]; exact Te), Or.inr (Or.inr (Or.inr (Or.inl q)))⟩)
    · exact Or.inr (Or.inl ⟨h1.symm.trans (by rw [q]; exact Tt), Or.inr (Or.inr (Or.inl q))⟩)
    · exact Or.inr (Or.inl ⟨h1.symm.trans (by rw [q]; exact Tr), Or.inr (Or.inl q)⟩)
    · exact Or.inr (Or.inr (Or.inr (Or.inr (Or.inr (Or.inr (Or.inr (h1.symm.trans (by rw [q]; exact Tp.1))))))))
    · exact Or.inr (Or.inl ⟨h1.symm.trans (by rw [q]; exact Td), Or.inl q⟩)
  have no : ∀ a u {P : Prop}, sgT σ3 a = u → u ≠ 0 → u ≠ 110 → u ≠ 5 → u ≠ 16 → u ≠ 108 → u ≠ 20 → u ≠ 100 → u ≠ 101 → u ≠ 109 → P := fun a u P h1 h0 g1 g2 g3 g4 g5 g6 g7 g8 => by
    rcases only a u h1 h0 with q | q | q | q | q | q | q | q
    · exact absurd q.1 g1
    · exact absurd q.1 g2
    · exact absurd q.1 g3
    · exact absurd q.1 g4
    · exact absurd q g5
    · exact absurd q g6
    · exact absurd q g7
    · exact absurd q g8
  have five : ∀ l, sgT σ3 l = 5 → l = d ∨ (l ≠ d ∧ (l = r ∨ l = t ∨ l = e ∨ l = G) ∧ sgR σ3 l 1 = some eda ∧ (sgI σ3 l 2).toInt = 0) := fun l h5 => by
    rcases only l 5 h5 (by decide) with q | ⟨-, q⟩ | q | q | q | q | q | q
    · exact absurd q.1 (by decide)
    · rcases q with q | q | q | q | q
      · exact Or.inl q
      · have nd : l ≠ d := by rw [q]; exact nr2
        have f := fun k => oF l 5 (by rw [q]; exact tr) (by decide) nd k
        exact Or.inr ⟨nd, Or.inl q, by rw [(f 1).2, q]; exact (lr trivial).1, by rw [(f 2).1, q]; exact (lr trivial).2⟩
      · have nd : l ≠ d := by rw [q]; exact nt3
        have f := fun k => oF l 5 (by rw [q]; exact tt) (by decide) nd k
        exact Or.inr ⟨nd, Or.inr (Or.inl q), by rw [(f 1).2, q]; exact (lt trivial).1, by rw [(f 2).1, q]; exact (lt trivial).2⟩
      · have nd : l ≠ d := by rw [q]; exact ne4
        have f := fun k => oF l 5 (by rw [q]; exact te) (by decide) nd k
        exact Or.inr ⟨nd, Or.inr (Or.inr (Or.inl q)), by rw [(f 1).2, q]; exact (le trivial).1, by rw [(f 2).1, q]; exact (le trivial).2⟩
      · have nd : l ≠ d := by rw [q]; exact nG6
        have f := fun k => oF l 5 (by rw [q]; exact tG) (by decide) nd k
        exact Or.inr ⟨nd, Or.inr (Or.inr (Or.inr q)), by rw [(f 1).2, q]; exact (lG trivial).1, by rw [(f 2).1, q]; exact (lG trivial).2⟩
    · exact absurd q.1 (by decide)
    · exact absurd q.1 (by decide)
    · exact absurd q (by decide)
    · exact absurd q (by decide)
    · exact absurd q (by decide)
    · exact absurd q (by decide)
  have zd : sgSz σ3 d = 1 := by unfold sgSz; rw [a2.2.2.2.1]; rfl
  have z5 : ∀ l, sgT σ3 l = 5 → l ≠ d → sgSz σ3 l = 0 := fun l h5 nd => by
    rcases five l h5 with q | ⟨-, -, -, q⟩
    · exact absurd q nd
    · unfold sgSz
      rw [q]
      rfl
  have aT : ∀ k, sgI σ3 A k = sgI σ A k ∧ sgR σ3 A k = sgR σ A k := oF A 20 tA (by decide) nAd
  have fD := nF D 16 tD (by decide) (by decide)
  have nDe : D ≠ e9 := fun z => by rw [z, hE.1] at tD; exact absurd tD (by decide)
  have nAD : A ≠ D := fun z => by rw [z, TD] at TA; exact absurd TA (by decide)
  have nAe : A ≠ e9 := fun z => by rw [z, TE.1] at TA; exact absurd TA (by decide)
  have h99 : (99 : Int32) ≠ 117 := by decide
  refine ⟨fun _ z => z, fun x => ?_, ⟨fun l t5 _ => ?_, fun l l2 r9 t5 t52 _ _ q1 q2 => ?_, fun a j y q1 q2 => ?_, hed⟩, fun l t5 j hj => ?_, fun l t5 => ?_, fun D1 q => ?_, fun e1 q j x _ hx => ?_, fun x q => no x 17 q (by decide) (by decide) (by decide) (by decide) (by decide) (by decide) (by decide) (by decide) (by decide), fun x q => no x 19 q (by decide) (by decide) (by decide) (by decide) (by decide) (by decide) (by decide) (by decide) (by decide), fun x q => no x 18 q (by decide) (by decide) (by decide) (by decide) (by decide) (by decide) (by decide) (by decide) (by decide), ⟨⟨TA, ?_, ?_, ?_, ?_, ?_, ?_, ?_, ⟨Td, ?_⟩, ⟨Tr, ?_⟩, ⟨Tt, ?_⟩, ⟨Te, ?_⟩, ⟨TG, ?_⟩, ⟨Tp.1, Tp.2.trans Np⟩, ⟨Th.1, Th.2.trans Nh⟩, ⟨w, ?_, Tw.1, Or.inl (Tw.2.trans Nw)⟩, fun l t5 r1 => ?_⟩, ⟨zd, Nat.le_refl _⟩, ?_⟩, fun k p9 _ hp => ?_, ⟨fun _ => 0, fun k _ => Or.inl ?_⟩, fun k _ _ q => ?_, fun k h1 hk => ?_, ?_, ?_, ?_⟩
  · show (if (if x = e9 then D else A) = e9 then D else A) ≠ D
    by_cases c : x = e9
    · rw [if_pos c, if_neg nDe]
      exact nAD
    · rw [if_neg c, if_neg nAe]
      exact nAD
  · rcases five l t5 with q | ⟨nd, -, q1, q2⟩
    · rw [q]
      exact ⟨r2, by rw [zd]; exact Or.inl a2, by rw [zd]; decide⟩
    · have z := z5 l t5 nd
      exact ⟨eda, by rw [z]; exact Or.inr ⟨t5, q1, rfl, rfl, q2⟩, by rw [z]; decide⟩
  · rcases five l t5 with c | ⟨nd, -, c1, c2⟩
    · rcases five l2 t52 with e2 | ⟨nd2, -, e1, e2⟩
      · exact Or.inl (c.trans e2.symm)
      · exact Or.inr (Option.some.inj (q2.symm.trans e1))
    · exact Or.inr (Option.some.inj (q1.symm.trans c1))
  · have e1 : a = r2 := by
      rcases only a 110 q1 (by decide) with q | q | q | q | q | q | q | q
      · exact q.2
      · exact absurd q.1 (by decide)
      · exact absurd q.1 (by decide)
      · exact absurd q.1 (by decide)
      · exact absurd q (by decide)
      · exact absurd q (by decide)
      · exact absurd q (by decide)
      · exact absurd q (by decide)
    rw [e1] at q2
    rcases a5 j y q2 with q | ⟨j2, q, -⟩
    · rw [q]
      exact Or.inr (Or.inl TD)
    · rw [ed2] at q
      exact absurd q (by decide)
  · rcases five l t5 with c | ⟨nd, -, -⟩
    · subst c
      rw [zd] at hj
      obtain rfl : j = 0 := by omega
      refine ⟨D, by rw [sgAt_of a2.2.1]; exact a3, ?_⟩
      have r1 : gRo (gM A l r t e G D e9) l = 1 := if_pos rfl
      unfold iEl
      rw [r1]
      exact ⟨TD, rfl, rfl⟩
    · rw [z5 l t5 nd] at hj
      omega
  · rcases five l t5 with c | ⟨nd, -, -⟩
    · rw [c, zd, show gRo (gM A d r t e G D e9) d = 1 from if_pos rfl]
      decide
    · rw [z5 l t5 nd]
      exact Nat.zero_le _
  · have e1 : D1 = D := by
      rcases only D1 16 q (by decide) with q | q | q | q | q | q | q | q
      · exact absurd q.1 (by decide)
      · exact absurd q.1 (by decide)
      · exact q.2
      · exact absurd q.1 (by decide)
      · exact absurd q (by decide)
      · exact absurd q (by decide)
      · exact absurd q (by decide)
      · exact absurd q (by decide)
    rw [e1]
    exact ⟨e9, f9, h9, (fD 13).2.trans hE.2.2.1, (fD 14).2.trans hF.2.2, (fD 15).2.trans hH.2.2, TE.1, TE.2.trans hE.2.1, if_pos rfl, TF.1, TF.2.trans hF.2.1, TH.1, TH.2.trans hH.2.1⟩
  · have e2 : e1 = e9 := by
      rcases only e1 108 q (by decide) with q | q | q | q | q | q | q | q
      · exact absurd q.1 (by decide)
      · exact absurd q.1 (by decide)
      · exact absurd q.1 (by decide)
      · exact q.2
      · exact absurd q (by decide)
      · exact absurd q (by decide)
      · exact absurd q (by decide)
      · exact absurd q (by decide)
    rw [e2, (nF e9 108 hE.1 (by decide) (by decide) j).2, hE.2.2.2 j] at hx
    exact absurd hx (by simp)
  · exact (aT 1).2.trans R1
  · exact (aT 2).2.trans R2
  · exact (aT 3).2.trans R3
  · exact (aT 4).2.trans R4
  · exact (aT 5).2.trans R5
  · exact (aT 8).2.trans R8
  · exact (aT 12).2.trans R12
  · exact if_pos rfl
  · show (if r = d then 1 else if r = r then 2 else if r = t then 3 else if r = e then 4 else 5) = 2
    rw [if_neg nr2, if_pos rfl]
  · show (if t = d then 1 else if t = r then 2 else if t = t then 3 else if t = e then 4 else 5) = 3
    rw [if_neg nt3, if_neg nt1, if_pos rfl]
  · show (if e = d then 1 else if e = r then 2 else if e = t then 3 else if e = e then 4 else 5) = 4
    rw [if_neg ne4, if_neg ne2, if_neg ne1, if_pos rfl]
  · show (if G = d then 1 else if G = r then 2 else if G = t then 3 else if G = e then 4 else 5) = 5
    rw [if_neg nG6, if_neg nG4, if_neg nG3, if_neg nG2]
  · exact (aT 6).2.trans R6
  · rcases five l t5 with c | ⟨nd, c, -⟩
    · exact c
    · have r9 : (if l = d then 1 else if l = r then 2 else if l = t then 3 else if l = e then 4 else 5) = 1 := r1
      rw [if_neg nd] at r9
      by_cases c1 : l = r
      · rw [if_pos c1] at r9
        exact absurd r9 (by decide)
      · rw [if_neg c1] at r9
        by_cases c2 : l = t
        · rw [if_pos c2] at r9
          exact absurd r9 (by decide)
        · rw [if_neg c2] at r9
          by_cases c3 : l = e
          · rw [if_pos c3] at r9
            exact absurd r9 (by decide)
          · rw [if_neg c3] at r9
            exact absurd r9 (by decide)
  · unfold iMi
    rw [show sgI σ3 (kA (A, d, p, r, t, e, G, h)) 9 = 0 from (aT 9).1.trans I9, show sgI σ3 (kA (A, d, p, r, t, e, G, h)) 10 = -1 from (aT 10).1.trans I10, show sgI σ3 (kA (A, d, p, r, t, e, G, h)) 11 = 100 from (aT 11).1.trans I11]
    decide
  · have npd : p ≠ d := np1
    have hp2 : sgR σ3 p k = some p9 := hp
    rw [(oF p 109 tp (by decide) npd k).2, lp trivial k] at hp2
    exact absurd hp2 (by simp)
  · show (sgI σ3 D 7).toInt = -1
    rw [(fD 7).1, hI.2.2]
    rfl
  · show ¬ sgI σ3 D 6 = 117
    rw [(fD 6).1, hI.2.1]
    exact h99
  · omega
  · show (sgI σ3 D 7).toInt = -1
    rw [(fD 7).1, hI.2.2]
    rfl
  · exact (fD 6).1.trans hI.2.1
  · exact (fD 0).1.trans hI.1
end MDA
