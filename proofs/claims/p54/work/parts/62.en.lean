section ENA
/-! a new End, and its place at a Device -/
variable {eda n S hw : Nat} {ia : Nat → Nat} {K : KM} {g : GH} {σ : SG} {x l e j : Nat} {i0 gr : Int32}
def gE (g : GH) (x l e j : Nat) : GH := (fun a => if a = x then e else if a = l then x else gOw g a, fun a => if a = x then j else gIx g a, fun a => if a = l then 6 else gRo g a, g.2.2.2.1, g.2.2.2.2.1, g.2.2.2.2.2)
def enF (eda : Nat) (σ : SG) (x l : Nat) (i0 gr : Int32) : SG := enT eda (sgNw σ x 17 0) x l i0 gr
theorem enF_T (b : Nat) : sgT (enF eda σ x l i0 gr) b = if b = l then 5 else if b = x then 17 else sgT σ b := rfl
theorem enF_I (b k : Nat) : sgI (enF eda σ x l i0 gr) b k = if b = x ∧ k = 1 then gr else if b = x ∧ k = 0 then i0 else if b = x ∧ k = 4 then -1 else if b = l ∧ k = 0 then 0 else if b = l then 0 else if b = x then 0 else sgI σ b k := rfl
theorem enF_R (b k : Nat) : sgR (enF eda σ x l i0 gr) b k = if b = x ∧ k = 3 then some l else if b = l ∧ k = 1 then some eda else if b = l then none else if b = x then none else sgR σ b k := rfl
theorem inv_enN (h : Inv eda ia K g n S hw σ) (hx : sgT σ x = 0) (hl : sgT (sgNw σ x 17 0) l = 0) (h1 : 1 ≤ gr.toInt) (h8 : gr.toInt ≤ 8) (hed : sgT (enF eda σ x l i0 gr) eda = 0) (e j : Nat) : Inv eda ia K (gE g x l e j) n S hw (enF eda σ x l i0 gr) ∧ oFr σ (enF eda σ x l i0 gr) ∧ sgT (enF eda σ x l i0 gr) x = 17 := by
  have nlx := nw_ne hl (by decide)
  have l0 := nw_0 hl (by decide)
  have hO : oFr σ (enF eda σ x l i0 gr) := oFr_PI (oFr_PI (oFr_PI (oFr_PR (oFr_PR (oFr_PI (oFr_nw (oFr_nw oFr_rf hx) (by exact hl)) l0) l0) hx) hx) hx) hx
  have tX : sgT (enF eda σ x l i0 gr) x = 17 := by rw [enF_T, if_neg (Ne.symm nlx), if_pos rfl]
  have tL : sgT (enF eda σ x l i0 gr) l = 5 := by rw [enF_T, if_pos rfl]
  have cs : ∀ b t, sgT σ b = 0 → sgT (enF eda σ x l i0 gr) b = t → t ≠ 0 → (b = l ∧ t = 5) ∨ (b = x ∧ t = 17) := fun b t z q q0 => by
    by_cases c1 : b = l
    · exact Or.inl ⟨c1, by rw [← q, c1]; exact tL⟩
    · by_cases c2 : b = x
      · exact Or.inr ⟨c2, by rw [← q, c2]; exact tX⟩
      · rw [enF_T, if_neg c1, if_neg c2, z] at q
        exact absurd q.symm q0
  have nt : ∀ (b t : Nat) {P : Prop}, sgT σ b = 0 → sgT (enF eda σ x l i0 gr) b = t → t ≠ 0 → t ≠ 5 → t ≠ 17 → P := fun b t P z q q0 q1 q2 => by
    rcases cs b t z q q0 with c | c
    · exact absurd c.2 q1
    · exact absurd c.2 q2
  refine ⟨inv_nw h hO (fun a ha => ⟨?_, ?_, ?_⟩) (fun _ _ => rfl) (fun _ => rfl) (fun _ z => z) hed (fun a z q => nt a 110 z q (by decide) (by decide) (by decide)) (fun b z q => ?_) (fun b z q => nt b 16 z q (by decide) (by decide) (by decide)) (fun b k y z q _ _ => nt b 108 z q (by decide) (by decide) (by decide)) (fun b z q => ?_) (fun b z q => nt b 19 z q (by decide) (by decide) (by decide)) (fun b z q => nt b 18 z q (by decide) (by decide) (by decide)), hO, tX⟩
  · show (if a = x then e else if a = l then x else gOw g a) = gOw g a
    rw [if_neg (fun z => ha (by rw [z]; exact hx)), if_neg (fun z => ha (by rw [z]; exact l0))]
  · show (if a = x then j else gIx g a) = gIx g a
    rw [if_neg (fun z => ha (by rw [z]; exact hx))]
  · show (if a = l then 6 else gRo g a) = gRo g a
    rw [if_neg (fun z => ha (by rw [z]; exact l0))]
  · rcases cs b 5 z q (by decide) with c | c
    · rw [c.1]
      refine ⟨?_, ?_, ?_⟩
      · show (if l = l then 6 else gRo g l) ≠ 1
        rw [if_pos rfl]
        decide
      · rw [enF_R, if_neg (fun w => nlx w.1), if_pos ⟨rfl, rfl⟩]
      · rw [enF_I, if_neg (fun w => nlx w.1), if_neg (fun w => nlx w.1), if_neg (fun w => nlx w.1), if_neg (fun w => absurd w.2 (by decide)), if_pos rfl]
        rfl
    · exact absurd c.2 (by decide)
  · rcases cs b 17 z q (by decide) with c | c
    · exact absurd c.2 (by decide)
    · rw [c.1]
      have i1 : sgI (enF eda σ x l i0 gr) x 1 = gr := by rw [enF_I, if_pos ⟨rfl, rfl⟩]
      refine ⟨l, ?_, tL, ?_, ?_, by rw [i1]; exact h1, by rw [i1]; exact h8, Or.inr (Or.inl ?_)⟩
      · rw [enF_R, if_pos ⟨rfl, rfl⟩]
      · show (if l = l then 6 else gRo g l) = 6
        rw [if_pos rfl]
      · show (if l = x then e else if l = l then x else gOw g l) = x
        rw [if_neg nlx, if_pos rfl]
      · rw [enF_I, if_neg (fun w => absurd w.2 (by decide)), if_neg (fun w => absurd w.2 (by decide)), if_pos ⟨rfl, rfl⟩]
        rfl
theorem nH_E (h : nH g) (he : gOw g e ≠ gDv g 0) (he2 : e ≠ gDv g 0) (hx : x ≠ gDv g 0) : nH (gE g x l e j) := fun a z => by
  have k1 : ∀ a, gOw (gE g x l e j) a = if a = x then e else if a = l then x else gOw g a := fun _ => rfl
  have z2 : gOw (gE g x l e j) (gOw (gE g x l e j) a) = gDv g 0 := z
  by_cases c : gOw (gE g x l e j) a = x
  · rw [k1 (gOw (gE g x l e j) a), if_pos c] at z2
    exact he2 z2
  · by_cases c2 : gOw (gE g x l e j) a = l
    · rw [k1 (gOw (gE g x l e j) a), if_neg c, if_pos c2] at z2
      exact hx z2
    · rw [k1 (gOw (gE g x l e j) a), if_neg c, if_neg c2] at z2
      by_cases c3 : a = x
      · rw [k1 a, if_pos c3] at z2
        exact he z2
      · by_cases c4 : a = l
        · exact c (by rw [k1 a, if_neg c3, if_pos c4])
        · rw [k1 a, if_neg c3, if_neg c4] at z2
          exact h a z2
/-- an End put at its place -/
theorem inv_es (h : Inv eda ia K g n S hw σ) (te : sgT σ e = 108) (hz : sgR σ e j = none) (tx : sgT σ x = 17) (ow : gOw g x = e) (ix : gIx g x = j) : Inv eda ia K g n S hw (sgPR σ e j (some x)) := by
  have fR : ∀ a k t, sgT σ a = t → t ≠ 108 → sgR (sgPR σ e j (some x)) a k = sgR σ a k := fun a k t h1 h2 => by
    show (if a = e ∧ k = j then some x else sgR σ a k) = _
    rw [if_neg (fun z => h2 (by rw [← h1, z.1]; exact te))]
  have hT : tFr σ (sgPR σ e j (some x)) := fun _ _ => ⟨rfl, rfl⟩
  have rE : ∀ e2 j2 y, sgT σ e2 = 108 → sgR σ e2 j2 = some y → sgR (sgPR σ e j (some x)) e2 j2 = some y := fun e2 j2 y _ hy => by
    show (if e2 = e ∧ j2 = j then some x else sgR σ e2 j2) = _
    by_cases c : e2 = e ∧ j2 = j
    · rw [c.1, c.2, hz] at hy
      exact absurd hy (by simp)
    · rw [if_neg c]
      exact hy
  obtain ⟨hS2, hq⟩ := sgLS_fr (σ2 := sgPR σ e j (some x)) (inv_LS h) hT (fun a z => ⟨by show sgT σ a ≠ 5; rw [z]; decide, by show sgT σ a ≠ 110; rw [z]; decide⟩) (inv_LS h).2.2.2 (fun a ha => ⟨fR a 1 5 ha (by decide), rfl⟩) (fun a k ha => fR a k 110 ha (by decide))
  have rD : ∀ d, sgT σ d = 16 → sgR (sgPR σ e j (some x)) d 13 = sgR σ d 13 := fun d hd => fR d 13 16 hd (by decide)
  obtain ⟨e1, e2⟩ := (inv_M h).2.1
  refine ⟨hS2, iL_tr hT gFr_rf (fun _ _ _ _ _ => rfl) (inv_L h) (fun l t2 => Or.inl ⟨t2, hq l t2 id⟩), iB_tr gFr_rf (inv_B h) (Nat.le_refl _) (fun l t2 => Or.inl ⟨t2, Nat.le_of_eq (hq l t2 id).1⟩), iD_tr hT gFr_rf (inv_D h) (fun d t2 => Or.inl ⟨t2, fR d 13 16 t2 (by decide), fR d 14 16 t2 (by decide), fR d 15 16 t2 (by decide)⟩), iN_tr hT gFr_rf (inv_N h) (fun e2 t2 j2 y hj hx => ?_), iE_tr hT gFr_rf (inv_E h) (fun y t2 => Or.inl ⟨t2, fR y 3 17 t2 (by decide), rfl, fun l q1 q2 q3 q4 q5 => iK1_tr hT id rfl (Nat.le_of_eq (hq l q2 id).1.symm) rfl (fun _ _ => rfl) q5⟩), iT_tr hT (inv_T h) (fun t t2 => Or.inl ⟨t2, fR t 0 19 t2 (by decide)⟩), iP_tr hT gFr_rf (inv_P h) (Nat.le_refl _) (fun _ _ => rfl) rD rE (fun p t2 => Or.inl ⟨t2, fR p 9 18 t2 (by decide), fun _ _ => rfl, fun l e x q1 q2 _ _ _ _ q7 q8 => iRw_tr hT (inv_T h) (hq l q2 id).1 (hq l q2 id).2 rfl (fun _ _ z => z) (fun t ht => ⟨rfl, fR t 0 19 ht (by decide), Or.inl rfl⟩) q8⟩), ⟨iMr_tr hT gFr_rf (inv_Mr h) (fun k _ => fR _ k 20 (inv_A h) (by decide)) (Or.inl (fR _ 6 20 (inv_A h) (by decide))) (fun l t2 => Or.inl t2), ⟨(hq _ (inv_tD h).1 id).1.trans e1, e2⟩, (inv_M h).2.2⟩, iO_tr h (fun _ => rfl) (fun _ _ => rfl) hT (fun k p _ hp => by rw [fR _ k 109 (inv_tP h).1 (by decide)] at hp; exact hp) (fun _ _ _ _ => rfl) rD rE (fun d hd hu _ => hu), iR_tr h (fun _ _ => rfl) (fun _ _ z => z) (fun _ _ _ _ => rfl)⟩
  have hx2 : (if e2 = e ∧ j2 = j then some x else sgR σ e2 j2) = some y := hx
  by_cases c : e2 = e ∧ j2 = j
  · rw [if_pos c] at hx2
    obtain rfl := Option.some.inj hx2
    exact Or.inr ⟨tx, ow.trans c.1.symm, ix.trans c.2.symm⟩
  · rw [if_neg c] at hx2
    exact Or.inl ⟨t2, hx2⟩
end ENA
