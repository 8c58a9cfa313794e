section JNA
variable {p : Program} {l : Launch} {e : Env} {R : Room} {s : State} {m : MethodId} {args : Array Value} {below : List Frame} {meth : Method} {c : Code} {H : Heap} {locs : List Loc} {Q : State → Prop} {pc : Nat} {ls : Array Slot} {rest : List Value} {k N : Nat}
/-- paths that meet again -/
theorem sg_jn (pc2 : Nat) {P : Heap → List Loc → Nat → Array Slot → List Value → Prop} (h1 : ∀ H locs N ls st, P H locs N ls st → W p l e R s m args below meth c H locs k N Q (F0 m pc2 ls st)) (h2 : (∀ H locs N ls st, P H locs N ls st → W p l e R s m args below meth c H locs k N Q (F0 m pc2 ls st)) → W p l e R s m args below meth c H locs k N Q (F0 m pc ls rest)) : W p l e R s m args below meth c H locs k N Q (F0 m pc ls rest) := h2 h1
/-- a fact kept from arithmetic's sight -/
def sgHd (P : Prop) : Prop := P
end JNA
section PPA
/-! a new Pipe, and its place -/
variable {eda n S hw : Nat} {ia : Nat → Nat} {K : KM} {g : GH} {σ F : SG} {p l x r : Nat} {dv ep ki iv X Y v t : Int32}
def gP (g : GH) (p l : Nat) : GH := (fun a => if a = l then p else if a = p then p else gOw g a, g.2.1, fun a => if a = l then 7 else gRo g a, g.2.2.2.1, g.2.2.2.2.1, g.2.2.2.2.2)
def ppF (eda : Nat) (σ : SG) (p l : Nat) (dv ep ki iv : Int32) : SG := ppT eda (sgNw σ p 18 0) p l dv ep ki iv
theorem ppF_T (b : Nat) : sgT (ppF eda σ p l dv ep ki iv) b = if b = l then 5 else if b = p then 18 else sgT σ b := rfl
theorem ppF_I (b k : Nat) : sgI (ppF eda σ p l dv ep ki iv) b k = if b = p ∧ k = 3 then iv else if b = p ∧ k = 2 then ki else if b = p ∧ k = 1 then ep else if b = p ∧ k = 0 then dv else if b = l ∧ k = 0 then 0 else if b = l then 0 else if b = p ∧ k = 8 then 32 else if b = p ∧ k = 4 then -1 else if b = p then 0 else sgI σ b k := rfl
theorem ppF_R (b k : Nat) : sgR (ppF eda σ p l dv ep ki iv) b k = if b = p ∧ k = 9 then some l else if b = l ∧ k = 1 then some eda else if b = l then none else if b = p then none else sgR σ b k := rfl
theorem ppF_4 : sgI (ppF eda σ p l dv ep ki iv) p 0 = dv ∧ sgI (ppF eda σ p l dv ep ki iv) p 1 = ep ∧ sgI (ppF eda σ p l dv ep ki iv) p 2 = ki ∧ sgI (ppF eda σ p l dv ep ki iv) p 3 = iv := by
  refine ⟨?_, ?_, ?_, ?_⟩
  · rw [ppF_I, if_neg (fun z => absurd z.2 (by decide)), if_neg (fun z => absurd z.2 (by decide)), if_neg (fun z => absurd z.2 (by decide)), if_pos ⟨rfl, rfl⟩]
  · rw [ppF_I, if_neg (fun z => absurd z.2 (by decide)), if_neg (fun z => absurd z.2 (by decide)), if_pos ⟨rfl, rfl⟩]
  · rw [ppF_I, if_neg (fun z => absurd z.2 (by decide)), if_pos ⟨rfl, rfl⟩]
  · rw [ppF_I, if_pos ⟨rfl, rfl⟩]
theorem inv_ppN (h : Inv eda ia K g n S hw σ) (hp : sgT σ p = 0) (hl : sgT (sgNw σ p 18 0) l = 0) (h1 : 1 ≤ dv.toInt) (h2 : dv.toInt < n) (h3 : 1 ≤ ep.toInt) (h4 : ep.toInt ≤ 3) (hk : ki = 98 ∨ iv = 1 ∨ iv = 2 ∨ iv = 4 ∨ iv = 8) (hx : iEn g σ dv.toInt.toNat ep.toInt.toNat = some x) (hed : sgT (ppF eda σ p l dv ep ki iv) eda = 0) : Inv eda ia K (gP g p l) n S hw (ppF eda σ p l dv ep ki iv) ∧ oFr σ (ppF eda σ p l dv ep ki iv) ∧ sgT (ppF eda σ p l dv ep ki iv) p = 18 := by
  have nlp := nw_ne hl (by decide)
  have l0 := nw_0 hl (by decide)
  have hO : oFr σ (ppF eda σ p l dv ep ki iv) := oFr_PI (oFr_PI (oFr_PI (oFr_PI (oFr_PR (oFr_PR (oFr_PI (oFr_nw (oFr_PI (oFr_PI (oFr_nw oFr_rf hp) hp) hp) (by exact hl)) l0) l0) hp) hp) hp) hp) hp
  have tX : sgT (ppF eda σ p l dv ep ki iv) p = 18 := by rw [ppF_T, if_neg (Ne.symm nlp), if_pos rfl]
  have tL : sgT (ppF eda σ p l dv ep ki iv) l = 5 := by rw [ppF_T, if_pos rfl]
  have cs : ∀ b t, sgT σ b = 0 → sgT (ppF eda σ p l dv ep ki iv) b = t → t ≠ 0 → (b = l ∧ t = 5) ∨ (b = p ∧ t = 18) := fun b t z q q0 => by
    by_cases c1 : b = l
    · exact Or.inl ⟨c1, by rw [← q, c1]; exact tL⟩
    · by_cases c2 : b = p
      · exact Or.inr ⟨c2, by rw [← q, c2]; exact tX⟩
      · rw [ppF_T, if_neg c1, if_neg c2, z] at q
        exact absurd q.symm q0
  have nt : ∀ (b t : Nat) {P : Prop}, sgT σ b = 0 → sgT (ppF eda σ p l dv ep ki iv) b = t → t ≠ 0 → t ≠ 5 → t ≠ 18 → P := fun b t P z q q0 q1 q2 => by
    rcases cs b t z q q0 with c | c
    · exact absurd c.2 q1
    · exact absurd c.2 q2
  refine ⟨inv_nw h hO (fun a ha => ⟨?_, rfl, ?_⟩) (fun _ _ => rfl) (fun _ => rfl) (fun _ z => z) hed (fun a z q => nt a 110 z q (by decide) (by decide) (by decide)) (fun b z q => ?_) (fun b z q => nt b 16 z q (by decide) (by decide) (by decide)) (fun b k y z q _ _ => nt b 108 z q (by decide) (by decide) (by decide)) (fun b z q => nt b 17 z q (by decide) (by decide) (by decide)) (fun b z q => nt b 19 z q (by decide) (by decide) (by decide)) (fun b z q => ?_), hO, tX⟩
  · show (if a = l then p else if a = p then p else gOw g a) = gOw g a
    rw [if_neg (fun z => ha (by rw [z]; exact l0)), if_neg (fun z => ha (by rw [z]; exact hp))]
  · show (if a = l then 7 else gRo g a) = gRo g a
    rw [if_neg (fun z => ha (by rw [z]; exact l0))]
  · rcases cs b 5 z q (by decide) with c | c
    · rw [c.1]
      refine ⟨?_, ?_, ?_⟩
      · show (if l = l then 7 else gRo g l) ≠ 1
        rw [if_pos rfl]
        decide
      · rw [ppF_R, if_neg (fun w => nlp w.1), if_pos ⟨rfl, rfl⟩]
      · rw [ppF_I, if_neg (fun w => nlp w.1), if_neg (fun w => nlp w.1), if_neg (fun w => nlp w.1), if_neg (fun w => nlp w.1), if_neg (fun w => absurd w.2 (by decide)), if_pos rfl]
        rfl
    · exact absurd c.2 (by decide)
  · rcases cs b 18 z q (by decide) with c | c
    · exact absurd c.2 (by decide)
    · rw [c.1]
      obtain ⟨i0, i1, i2, i3⟩ := @ppF_4 eda σ p l dv ep ki iv
      have hkn : dv.toInt.toNat < n := by omega
      obtain ⟨e, f, h9, q1, -, -, q2, q3, -⟩ := inv_ends h hkn
      have td := (inv_dv h hkn).2.1
      have ed : pDv (gP g p l) (ppF eda σ p l dv ep ki iv) p = gDv g dv.toInt.toNat := by unfold pDv; rw [i0]; rfl
      unfold iEn at hx
      rw [q1] at hx
      have hx2 : sgR σ e ep.toInt.toNat = some x := hx
      have tx := (inv_N h e q2 _ x (by omega) hx2).1
      refine ⟨l, e, x, ?_, tL, if_pos rfl, ?_, ?_, ?_, ?_, ?_, ?_, ?_, ?_⟩
      · rw [ppF_R, if_pos ⟨rfl, rfl⟩]
      · show (if l = l then p else if l = p then p else gOw g l) = p
        rw [if_pos rfl]
      · unfold iPn
        rw [i0, i1, i2, i3]
        exact ⟨h1, h2, h3, h4, hk⟩
      · rw [ed]
        exact (hO _ (t_nz td (by decide))).1.trans td
      · rw [ed]
        exact ((hO _ (t_nz td (by decide))).2.2 13).2.trans q1
      · exact (hO _ (t_nz q2 (by decide))).1.trans q2
      · rw [i1]
        exact ((hO _ (t_nz q2 (by decide))).2.2 _).2.trans hx2
      · exact (hO _ (t_nz tx (by decide))).1.trans tx
      · have z0 : sgSz (ppF eda σ p l dv ep ki iv) l = 0 := by
          unfold sgSz
          rw [ppF_I, if_neg (fun w => nlp w.1), if_neg (fun w => nlp w.1), if_neg (fun w => nlp w.1), if_neg (fun w => nlp w.1), if_neg (fun w => absurd w.2 (by decide)), if_pos rfl]
          rfl
        refine ⟨fun j k t hj _ _ _ => ?_, fun j t hj _ => ?_⟩
        · rw [z0] at hj
          omega
        · rw [z0] at hj
          omega
theorem nH_P (h : nH g) (hp : p ≠ gDv g 0) : nH (gP g p l) := fun a z => by
  have k1 : ∀ a, gOw (gP g p l) a = if a = l then p else if a = p then p else gOw g a := fun _ => rfl
  have z2 : gOw (gP g p l) (gOw (gP g p l) a) = gDv g 0 := z
  have hn : ¬ gOw (gP g p l) a = p := fun c => by
    rw [c, k1 p] at z2
    by_cases c2 : p = l
    · rw [if_pos c2] at z2
      exact hp z2
    · rw [if_neg c2, if_pos rfl] at z2
      exact hp z2
  by_cases c : gOw (gP g p l) a = l
  · rw [k1 (gOw (gP g p l) a), if_pos c] at z2
    exact hp z2
  · rw [k1 (gOw (gP g p l) a), if_neg c, if_neg hn] at z2
    by_cases c3 : a = l
    · exact hn (by rw [k1 a, if_pos c3])
    · by_cases c4 : a = p
      · exact hn (by rw [k1 a, if_neg c3, if_pos c4])
      · rw [k1 a, if_neg c3, if_neg c4] at z2
        exact h a z2
/-- an End stands where it stood -/
theorem iEn_nw {g2 : GH} {k j : Nat} (h : Inv eda ia K g n S hw σ) (hO : oFr σ F) (hk : k < n) (hj : j < 4) (hd : gDv g2 k = gDv g k) (he : iEn g σ k j = some x) : iEn g2 F k j = some x := by
  obtain ⟨e, f, h9, q1, -, -, q2, q3, -⟩ := inv_ends h hk
  unfold iEn at he ⊢
  rw [q1] at he
  have he2 : sgR σ e j = some x := he
  rw [hd, ((hO _ (t_nz (inv_dv h hk).2.1 (by decide))).2.2 13).2, q1]
  exact ((hO _ (t_nz q2 (by decide))).2.2 j).2.trans he2
/-- no other open Pipe ends there -/
theorem op_no (h : Inv eda ia K g n S hw σ) (hX : 0 ≤ X.toInt ∧ X.toInt < n) (hYb : 1 ≤ Y.toInt ∧ Y.toInt ≤ 3) (hx : iEn g σ X.toInt.toNat Y.toInt.toNat = some x) (hno : ∀ k q, k < 12 → sgR σ (kP K) k = some q → ¬ (sgI σ q 0 = X ∧ sgI σ q 1 = Y)) : ∀ k q, k < 12 → sgR σ (kP K) k = some q → ∀ e, sgR σ (pDv g σ q) 13 = some e → ¬ sgR σ e (sgI σ q 1).toInt.toNat = some x := by
  intro k q hk hq e he hq2
  have tq := inv_pp h hk hq
  obtain ⟨e2, x2, ⟨pn1, pn2, pn3, pn4, -⟩, w1, w2, w3, w4, w5⟩ := inv_pe h tq
  obtain rfl := Option.some.inj (he.symm.trans w1)
  have hkq : (sgI σ q 0).toInt.toNat < n := by omega
  have hkX : X.toInt.toNat < n := by omega
  obtain ⟨e3, f, h9, q1, -, -, q2, q3, -⟩ := inv_ends h hkX
  unfold iEn at hx
  rw [q1] at hx
  have hx2 : sgR σ e3 Y.toInt.toNat = some x := hx
  obtain ⟨-, a1, a2⟩ := inv_N h e w2 _ x (by omega) hq2
  obtain ⟨-, b1, b2⟩ := inv_N h e3 q2 _ x (by omega) hx2
  have ee : e = e3 := a1.symm.trans b1
  have hg1 := inv_gow h hkq (show sgR σ (gDv g (sgI σ q 0).toInt.toNat) 13 = some e from he)
  have hg2 := inv_gow h hkX q1
  rw [ee, hg2] at hg1
  have hk2 := inv_inj h hkX hkq hg1
  have hj2 : (sgI σ q 1).toInt.toNat = Y.toInt.toNat := a2.symm.trans b2
  exact hno k q hk hq ⟨i_eq.mpr (by omega), i_eq.mpr (by omega)⟩
theorem op_no2 (h : Inv eda ia K g n S hw σ) (hO : oFr σ F) (hp : sgT σ p = 0) (hno : ∀ k q, k < 12 → sgR σ (kP K) k = some q → ¬ (sgI σ q 0 = X ∧ sgI σ q 1 = Y)) : ∀ k q, k < 12 → sgR (sgPI (sgPI F p 4 v) (kA K) 0 t) (kP K) k = some q → ¬ (sgI (sgPI (sgPI F p 4 v) (kA K) 0 t) q 0 = X ∧ sgI (sgPI (sgPI F p 4 v) (kA K) 0 t) q 1 = Y) := fun k q hk hq z => by
  have q1 : sgR σ (kP K) k = some q := by rw [← ((hO (kP K) (t_nz (inv_tP h).1 (by decide))).2.2 k).2]; exact hq
  have tq := inv_pp h hk q1
  have nA : q ≠ kA K := fun w => by rw [w, inv_A h] at tq; exact absurd tq (by decide)
  have np : q ≠ p := fun w => by rw [w, hp] at tq; exact absurd tq (by decide)
  have e : ∀ j, sgI (sgPI (sgPI F p 4 v) (kA K) 0 t) q j = sgI σ q j := fun j => by
    rw [sgI_PI, if_neg (fun w => nA w.1), sgI_PI, if_neg (fun w => np w.1)]
    exact ((hO q (t_nz tq (by decide))).2.2 j).1
  exact hno k q hk q1 ⟨by rw [← e 0]; exact z.1, by rw [← e 1]; exact z.2⟩
def gC (g : GH) (x p : Nat) (y2 : Nat → Prop) : GH := (g.1, g.2.1, g.2.2.1, g.2.2.2.1, fun y => if y = x then p else gCp g y, y2)
/-- a Pipe put at its place -/
theorem inv_op (h : Inv eda ia K g n S hw σ) (hY : nY g) (tp : sgT σ p = 18) (hx : ∀ e y, sgR σ (pDv g σ p) 13 = some e → sgR σ e (sgI σ p 1).toInt.toNat = some y → y = x) (hno : ∀ k q, k < 12 → sgR σ (kP K) k = some q → ∀ e, sgR σ (pDv g σ q) 13 = some e → ¬ sgR σ e (sgI σ q 1).toInt.toNat = some x) (hu : ¬ sgI σ (pDv g σ p) 6 = 117) : Inv eda ia K (gC g x p (fun a => a = x)) n S hw (sgPR σ (kP K) r (some p)) := by
  have te := (inv_tP h).1
  have fR : ∀ a k t, sgT σ a = t → t ≠ 109 → sgR (sgPR σ (kP K) r (some p)) a k = sgR σ a k := fun a k t h1 h2 => by
    show (if a = kP K ∧ k = r then some p else sgR σ a k) = _
    rw [if_neg (fun z => h2 (by rw [← h1, z.1]; exact te))]
  have hT : tFr σ (sgPR σ (kP K) r (some p)) := fun _ _ => ⟨rfl, rfl⟩
  have gF : gFr σ g (gC g x p (fun a => a = x)) := fun _ _ => ⟨rfl, rfl, rfl⟩
  have rE : ∀ e2 j2 y, sgT σ e2 = 108 → sgR σ e2 j2 = some y → sgR (sgPR σ (kP K) r (some p)) e2 j2 = some y := fun e2 j2 y q1 hy => by rw [fR e2 j2 108 q1 (by decide)]; exact hy
  obtain ⟨hS2, hq⟩ := sgLS_fr (σ2 := sgPR σ (kP K) r (some p)) (inv_LS h) hT (fun a z => ⟨by show sgT σ a ≠ 5; rw [z]; decide, by show sgT σ a ≠ 110; rw [z]; decide⟩) (inv_LS h).2.2.2 (fun a ha => ⟨fR a 1 5 ha (by decide), rfl⟩) (fun a k ha => fR a k 110 ha (by decide))
  have rD : ∀ d, sgT σ d = 16 → sgR (sgPR σ (kP K) r (some p)) d 13 = sgR σ d 13 := fun d hd => fR d 13 16 hd (by decide)
  obtain ⟨e1, e2⟩ := (inv_M h).2.1
  refine ⟨hS2, iL_tr hT gF (fun _ _ _ _ _ => rfl) (inv_L h) (fun l t2 => Or.inl ⟨t2, hq l t2 id⟩), iB_tr gF (inv_B h) (Nat.le_refl _) (fun l t2 => Or.inl ⟨t2, Nat.le_of_eq (hq l t2 id).1⟩), iD_tr hT gF (inv_D h) (fun d t2 => Or.inl ⟨t2, fR d 13 16 t2 (by decide), fR d 14 16 t2 (by decide), fR d 15 16 t2 (by decide)⟩), iN_tr hT gF (inv_N h) (fun e2 t2 j2 y hj hx => Or.inl ⟨t2, by rw [← fR e2 j2 108 t2 (by decide)]; exact hx⟩), iE_tr hT gF (inv_E h) (fun y t2 => Or.inl ⟨t2, fR y 3 17 t2 (by decide), rfl, fun l q1 q2 q3 q4 q5 => ?_⟩), iT_tr hT (inv_T h) (fun t t2 => Or.inl ⟨t2, fR t 0 19 t2 (by decide)⟩), iP_tr hT gF (inv_P h) (Nat.le_refl _) (fun _ _ => rfl) rD rE (fun p t2 => Or.inl ⟨t2, fR p 9 18 t2 (by decide), fun _ _ => rfl, fun l e x q1 q2 _ _ _ _ q7 q8 => iRw_tr hT (inv_T h) (hq l q2 id).1 (hq l q2 id).2 rfl (fun t _ z => absurd z (hY t)) (fun t ht => ⟨rfl, fR t 0 19 ht (by decide), Or.inl rfl⟩) q8⟩), ⟨iMr_tr hT gF (inv_Mr h) (fun k _ => fR _ k 20 (inv_A h) (by decide)) (Or.inl (fR _ 6 20 (inv_A h) (by decide))) (fun l t2 => Or.inl t2), ⟨(hq _ (inv_tD h).1 id).1.trans e1, e2⟩, (inv_M h).2.2⟩, fun k q hk hq9 => ?_, iR_tr h (fun _ _ => rfl) (fun k _ z => absurd z (hY _)) (fun _ _ _ _ => rfl)⟩
  · by_cases c : y = x
    · exact Or.inl c
    · exact iK1_tr hT (fun z => absurd z (hY y)) rfl (Nat.le_of_eq (hq l q2 id).1.symm) (if_neg c) (fun _ _ => rfl) q5
  · have hq8 : (if kP K = kP K ∧ k = r then some p else sgR σ (kP K) k) = some q := hq9
    have main : sgT σ q = 18 ∧ (∀ e y, sgR σ (pDv g σ q) 13 = some e → sgR σ e (sgI σ q 1).toInt.toNat = some y → gCp (gC g x p (fun a => a = x)) y = q) ∧ ¬ sgI σ (pDv g σ q) 6 = 117 := by
      by_cases c : k = r
      · rw [if_pos ⟨rfl, c⟩] at hq8
        obtain rfl := Option.some.inj hq8
        exact ⟨tp, fun e y q1 q2 => if_pos (hx e y q1 q2), hu⟩
      · rw [if_neg (fun z => c z.2)] at hq8
        obtain ⟨w1, w2, w3⟩ := inv_O h k q hk hq8
        exact ⟨w1, fun e y q1 q2 => (if_neg (fun z => hno k q hk hq8 e q1 (by rw [← z]; exact q2))).trans (w2 e y q1 q2), w3⟩
    obtain ⟨w1, w2, w3⟩ := main
    obtain ⟨e9, x9, ⟨pn1, pn2, pn3, pn4, -⟩, u1, u2, u3, u4, u5⟩ := inv_pe h w1
    refine ⟨w1, fun e y q1 q2 => ?_, w3⟩
    have td := (inv_dv h (k := (sgI σ q 0).toInt.toNat) (by omega)).2.1
    have q1b : sgR σ (pDv g σ q) 13 = some e := by rw [← rD (pDv g σ q) td]; exact q1
    obtain rfl := Option.some.inj (q1b.symm.trans u1)
    exact w2 e y q1b (by rw [← fR e _ 108 u2 (by decide)]; exact q2)
/-- and its End reset -/
theorem inv_op2 (h : Inv eda ia K (gC g x p (fun a => a = x)) n S hw σ) (tx : sgT σ x = 17) (h4 : (sgI σ x 4).toInt = -1) : Inv eda ia K (gC g x p (fun _ => False)) n S hw σ := by
  refine inv_Ydn h (y2 := fun _ => False) (fun y l _ _ _ hy _ => Or.inl (by rw [show y = x from hy]; exact h4)) (fun t l j x9 p9 e9 ht hy => ?_) ?_
  · rw [show t = x from hy, tx] at ht
    exact absurd ht (by decide)
  · obtain ⟨r1, r2, r3, r4, r5, r6⟩ := inv_R h
    have nd : ∀ k, k < n → ¬ gDv g k = x := fun k hk z => by
      have q : sgT σ (gDv g k) = 16 := (inv_dv h hk).2.1
      rw [z, tx] at q
      exact absurd q (by decide)
    exact ⟨r1, fun k hk _ => r2 k hk (nd k hk), fun k h1 hk _ => r3 k h1 hk (nd k hk), r4, r5, r6⟩
theorem op_th (h : Inv eda ia K g n S hw σ) {k q : Nat} (hk : k < 12) (hq : sgR σ (kP K) k = some q) : sgI (sgPI σ (kA K) 0 t) q 0 = sgI σ q 0 ∧ sgI (sgPI σ (kA K) 0 t) q 1 = sgI σ q 1 := by
  have nA : q ≠ kA K := fun w => by
    have tq := inv_pp h hk hq
    rw [w, inv_A h] at tq
    exact absurd tq (by decide)
  exact ⟨by rw [sgI_PI, if_neg (fun w => nA w.1)], by rw [sgI_PI, if_neg (fun w => nA w.1)]⟩
theorem op_pp {G : SG} {g2 : GH} (hG : G = sgPI (sgPI F p 4 v) (kA K) 0 t) (f0 : sgI F p 0 = X) (f1 : sgI F p 1 = Y) (nA : p ≠ kA K) (hd : ∀ k, gDv g2 k = gDv g k) : sgI G p 0 = X ∧ sgI G p 1 = Y ∧ pDv g2 G p = gDv g X.toInt.toNat := by
  have e : ∀ j, j ≠ 4 → sgI G p j = sgI F p j := fun j hj => by rw [hG, sgI_PI, if_neg (fun w => nA w.1), sgI_PI, if_neg (fun w => hj w.2)]
  refine ⟨(e 0 (by decide)).trans f0, (e 1 (by decide)).trans f1, ?_⟩
  unfold pDv
  rw [e 0 (by decide), f0, hd]
theorem op_one {g2 : GH} (h : Inv eda ia K g n S hw σ) (hO : oFr σ F) (hk : X.toInt.toNat < n) (hj : Y.toInt.toNat < 4) (hx : iEn g σ X.toInt.toNat Y.toInt.toNat = some x) (f0 : sgI F p 0 = X) (f1 : sgI F p 1 = Y) (nA : p ≠ kA K) (hd : ∀ k, gDv g2 k = gDv g k) {e z : Nat} (q1 : sgR (sgPI (sgPI F p 4 v) (kA K) 0 t) (pDv g2 (sgPI (sgPI F p 4 v) (kA K) 0 t) p) 13 = some e) (q2 : sgR (sgPI (sgPI F p 4 v) (kA K) 0 t) e (sgI (sgPI (sgPI F p 4 v) (kA K) 0 t) p 1).toInt.toNat = some z) : z = x := by
  obtain ⟨-, i1, ep⟩ := op_pp (K := K) (v := v) (t := t) rfl f0 f1 nA hd
  have w := iEn_nw (g2 := g) h hO hk hj rfl hx
  rw [ep] at q1
  rw [i1] at q2
  unfold iEn at w
  rw [show sgR F (gDv g X.toInt.toNat) 13 = some e from q1] at w
  exact Option.some.inj (q2.symm.trans w)
theorem op_st {g2 : GH} (f0 : sgI F p 0 = X) (f1 : sgI F p 1 = Y) (nA : p ≠ kA K) (hd : ∀ k, gDv g2 k = gDv g k) (hst : sgI F (gDv g X.toInt.toNat) 6 = 99) : ¬ sgI (sgPI (sgPI F p 4 v) (kA K) 0 t) (pDv g2 (sgPI (sgPI F p 4 v) (kA K) 0 t) p) 6 = 117 := by
  obtain ⟨-, -, ep⟩ := op_pp (K := K) (v := v) (t := t) rfl f0 f1 nA hd
  rw [ep, sgI_nk (by decide), sgI_nk (by decide), hst]
  decide
theorem op_en (h : Inv eda ia K g n S hw σ) {k j : Nat} (hk : k < n) (hj : j < 4) (he : iEn g σ k j = some x) {v : Option Nat} : ∃ e : Nat, sgR (sgPR σ (kP K) r v) (gDv g k) 13 = some e ∧ sgT σ e = 108 ∧ sgN σ e = 4 ∧ sgR (sgPR σ (kP K) r v) e j = some x ∧ sgT σ x = 17 := by
  have te := (inv_tP h).1
  have fR : ∀ a k t, sgT σ a = t → t ≠ 109 → sgR (sgPR σ (kP K) r v) a k = sgR σ a k := fun a k t h1 h2 => by rw [sgR_PR, if_neg (fun z => h2 (by rw [← h1, z.1]; exact te))]
  obtain ⟨e, f, h9, q1, -, -, q2, q3, -⟩ := inv_ends h hk
  unfold iEn at he
  rw [q1] at he
  have he2 : sgR σ e j = some x := he
  exact ⟨e, (fR _ 13 16 (inv_dv h hk).2.1 (by decide)).trans q1, q2, q3, (fR e j 108 q2 (by decide)).trans he2, (inv_N h e q2 j x hj he2).1⟩
theorem nH_C {y2 : Nat → Prop} (h : nH g) : nH (gC g x p y2) := h
theorem nY_C : nY (gC g x p (fun _ => False)) := fun _ z => z
end PPA
