section DVA
/-! a new Device -/
variable {eda n S hw : Nat} {ia : Nat → Nat} {K : KM} {g : GH} {σ : SG} {d e f h9 : Nat} {sp po pw ow ki : Int32}
def gN (g : GH) (n d e : Nat) : GH := (fun a => if a = e then d else if a = d then d else gOw g a, fun a => if a = d then n else gIx g a, g.2.2.1, fun k => if k = n then d else gDv g k, g.2.2.2.2.1, g.2.2.2.2.2)
def dvF (σ : SG) (d e f h9 : Nat) (sp po pw ow ki : Int32) : SG := dvT (sgNw σ d 16 0) d e f h9 sp po pw ow ki
theorem dvF_T (b : Nat) : sgT (dvF σ d e f h9 sp po pw ow ki) b = if b = h9 then 100 else if b = f then 101 else if b = e then 108 else if b = d then 16 else sgT σ b := rfl
theorem dvF_N (b : Nat) : sgN (dvF σ d e f h9 sp po pw ow ki) b = if b = h9 then 4 else if b = f then 4 else if b = e then 4 else if b = d then 0 else sgN σ b := rfl
theorem dvF_R (b j : Nat) : sgR (dvF σ d e f h9 sp po pw ow ki) b j = if b = d ∧ j = 15 then some h9 else if b = h9 then none else if b = d ∧ j = 14 then some f else if b = f then none else if b = d ∧ j = 13 then some e else if b = e then none else if b = d then none else sgR σ b j := rfl
theorem dvF_I (b j : Nat) : sgI (dvF σ d e f h9 sp po pw ow ki) b j = if b = d ∧ j = 5 then pw else if b = d ∧ j = 4 then ki else if b = d ∧ j = 3 then ow else if b = d ∧ j = 2 then pw else if b = d ∧ j = 1 then po else if b = d ∧ j = 0 then sp else if b = h9 then 0 else if b = f then 0 else if b = e then 0 else if b = d ∧ j = 10 then -1 else if b = d ∧ j = 7 then -1 else if b = d ∧ j = 6 then 117 else if b = d then 0 else sgI σ b j := rfl
theorem dvF_67 (n1 : d ≠ e) (n2 : d ≠ f) (n3 : d ≠ h9) : (sgI (dvF σ d e f h9 sp po pw ow ki) d 7).toInt = -1 ∧ sgI (dvF σ d e f h9 sp po pw ow ki) d 6 = 117 := by
  constructor
  · rw [dvF_I, if_neg (fun z => absurd z.2 (by decide)), if_neg (fun z => absurd z.2 (by decide)), if_neg (fun z => absurd z.2 (by decide)), if_neg (fun z => absurd z.2 (by decide)), if_neg (fun z => absurd z.2 (by decide)), if_neg (fun z => absurd z.2 (by decide)), if_neg n3, if_neg n2, if_neg n1, if_neg (fun z => absurd z.2 (by decide)), if_pos ⟨rfl, rfl⟩]
    rfl
  · rw [dvF_I, if_neg (fun z => absurd z.2 (by decide)), if_neg (fun z => absurd z.2 (by decide)), if_neg (fun z => absurd z.2 (by decide)), if_neg (fun z => absurd z.2 (by decide)), if_neg (fun z => absurd z.2 (by decide)), if_neg (fun z => absurd z.2 (by decide)), if_neg n3, if_neg n2, if_neg n1, if_neg (fun z => absurd z.2 (by decide)), if_neg (fun z => absurd z.2 (by decide)), if_pos ⟨rfl, rfl⟩]
theorem inv_dvN (h : Inv eda ia K g n S hw σ) (hd : sgT σ d = 0) (he : sgT (sgNw σ d 16 0) e = 0) (hf : sgT (sgNw (sgNw σ d 16 0) e 108 4) f = 0) (hh : sgT (sgNw (sgNw (sgNw σ d 16 0) e 108 4) f 101 4) h9 = 0) (hed : sgT (dvF σ d e f h9 sp po pw ow ki) eda = 0) : Inv eda ia K (gN g n d e) n S hw (dvF σ d e f h9 sp po pw ow ki) ∧ oFr σ (dvF σ d e f h9 sp po pw ow ki) ∧ sgT (dvF σ d e f h9 sp po pw ow ki) d = 16 ∧ (sgI (dvF σ d e f h9 sp po pw ow ki) d 7).toInt = -1 ∧ sgI (dvF σ d e f h9 sp po pw ow ki) d 6 = 117 := by
  have ned := nw_ne he (by decide)
  have e0 := nw_0 he (by decide)
  have nfe := nw_ne hf (by decide)
  have f1 := nw_0 hf (by decide)
  have nfd := nw_ne f1 (by decide)
  have f0 := nw_0 f1 (by decide)
  have nhf := nw_ne hh (by decide)
  have h1 := nw_0 hh (by decide)
  have nhe := nw_ne h1 (by decide)
  have h2 := nw_0 h1 (by decide)
  have nhd := nw_ne h2 (by decide)
  have h0 := nw_0 h2 (by decide)
  have hO : oFr σ (dvF σ d e f h9 sp po pw ow ki) := oFr_PI (oFr_PI (oFr_PI (oFr_PI (oFr_PI (oFr_PI (oFr_PR (oFr_nw (oFr_PR (oFr_nw (oFr_PR (oFr_nw (oFr_PI (oFr_PI (oFr_PI (oFr_nw oFr_rf hd) hd) hd) hd) (by exact he)) hd) (by exact hf)) hd) (by exact hh)) hd) hd) hd) hd) hd) hd) hd
  have tD : sgT (dvF σ d e f h9 sp po pw ow ki) d = 16 := by rw [dvF_T, if_neg (Ne.symm nhd), if_neg (Ne.symm nfd), if_neg (Ne.symm ned), if_pos rfl]
  have tE : sgT (dvF σ d e f h9 sp po pw ow ki) e = 108 := by rw [dvF_T, if_neg (Ne.symm nhe), if_neg (Ne.symm nfe), if_pos rfl]
  have tF : sgT (dvF σ d e f h9 sp po pw ow ki) f = 101 := by rw [dvF_T, if_neg (Ne.symm nhf), if_pos rfl]
  have tH : sgT (dvF σ d e f h9 sp po pw ow ki) h9 = 100 := by rw [dvF_T, if_pos rfl]
  have cs : ∀ b t, sgT σ b = 0 → sgT (dvF σ d e f h9 sp po pw ow ki) b = t → t ≠ 0 → (b = h9 ∧ t = 100) ∨ (b = f ∧ t = 101) ∨ (b = e ∧ t = 108) ∨ (b = d ∧ t = 16) := fun b t z q q0 => by
    by_cases c1 : b = h9
    · exact Or.inl ⟨c1, by rw [← q, c1]; exact tH⟩
    · by_cases c2 : b = f
      · exact Or.inr (Or.inl ⟨c2, by rw [← q, c2]; exact tF⟩)
      · by_cases c3 : b = e
        · exact Or.inr (Or.inr (Or.inl ⟨c3, by rw [← q, c3]; exact tE⟩))
        · by_cases c4 : b = d
          · exact Or.inr (Or.inr (Or.inr ⟨c4, by rw [← q, c4]; exact tD⟩))
          · rw [dvF_T, if_neg c1, if_neg c2, if_neg c3, if_neg c4, z] at q
            exact absurd q.symm q0
  have nt : ∀ (b t : Nat) {P : Prop}, sgT σ b = 0 → sgT (dvF σ d e f h9 sp po pw ow ki) b = t → t ≠ 0 → t ≠ 100 → t ≠ 101 → t ≠ 108 → t ≠ 16 → P := fun b t P z q q0 q1 q2 q3 q4 => by
    rcases cs b t z q q0 with c | c | c | c
    · exact absurd c.2 q1
    · exact absurd c.2 q2
    · exact absurd c.2 q3
    · exact absurd c.2 q4
  refine ⟨inv_nw h hO (fun a ha => ⟨?_, ?_, rfl⟩) (fun k hk => ?_) (fun _ => rfl) (fun _ z => z) hed (fun a z q => nt a 110 z q (by decide) (by decide) (by decide) (by decide) (by decide)) (fun l z q => nt l 5 z q (by decide) (by decide) (by decide) (by decide) (by decide)) (fun b z q => ?_) (fun b j x z q hj hx => ?_) (fun b z q => nt b 17 z q (by decide) (by decide) (by decide) (by decide) (by decide)) (fun b z q => nt b 19 z q (by decide) (by decide) (by decide) (by decide) (by decide)) (fun b z q => nt b 18 z q (by decide) (by decide) (by decide) (by decide) (by decide)), hO, tD, dvF_67 (Ne.symm ned) (Ne.symm nfd) (Ne.symm nhd)⟩
  · show (if a = e then d else if a = d then d else gOw g a) = gOw g a
    rw [if_neg (fun z => ha (by rw [z]; exact e0)), if_neg (fun z => ha (by rw [z]; exact hd))]
  · show (if a = d then n else gIx g a) = gIx g a
    rw [if_neg (fun z => ha (by rw [z]; exact hd))]
  · show (if k = n then d else gDv g k) = gDv g k
    rw [if_neg (by omega)]
  · rcases cs b 16 z q (by decide) with c | c | c | c
    · exact absurd c.2 (by decide)
    · exact absurd c.2 (by decide)
    · exact absurd c.2 (by decide)
    · rw [c.1]
      refine ⟨e, f, h9, ?_, ?_, ?_, tE, ?_, ?_, tF, ?_, tH, ?_⟩
      · rw [dvF_R, if_neg (fun z => absurd z.2 (by decide)), if_neg (Ne.symm nhd), if_neg (fun z => absurd z.2 (by decide)), if_neg (Ne.symm nfd), if_pos ⟨rfl, rfl⟩]
      · rw [dvF_R, if_neg (fun z => absurd z.2 (by decide)), if_neg (Ne.symm nhd), if_pos ⟨rfl, rfl⟩]
      · rw [dvF_R, if_pos ⟨rfl, rfl⟩]
      · rw [dvF_N, if_neg (Ne.symm nhe), if_neg (Ne.symm nfe), if_pos rfl]
      · show (if e = e then d else if e = d then d else gOw g e) = d
        rw [if_pos rfl]
      · rw [dvF_N, if_neg (Ne.symm nhf), if_pos rfl]
      · rw [dvF_N, if_pos rfl]
  · rcases cs b 108 z q (by decide) with c | c | c | c
    · exact absurd c.2 (by decide)
    · exact absurd c.2 (by decide)
    · rw [c.1, dvF_R, if_neg (fun z => ned z.1), if_neg (Ne.symm nhe), if_neg (fun z => ned z.1), if_neg (Ne.symm nfe), if_neg (fun z => ned z.1), if_pos rfl] at hx
      exact absurd hx (by simp)
    · exact absurd c.2 (by decide)
/-- the tree with a Device more -/
theorem iR_dvN {g2 : GH} {σ2 σ3 : SG} (h : Inv eda ia K g2 n S hw σ2) (hd : gDv g2 n = d) (td : sgT σ2 d = 16) (h7 : (sgI σ2 d 7).toInt = -1) (h6 : sgI σ2 d 6 = 117) (hI : ∀ a k, sgT σ2 a ≠ 0 → sgT σ2 a ≠ 5 → sgI σ3 a k = sgI σ2 a k) : iR g2 (n + 1) σ3 := by
  obtain ⟨⟨rk, hrk⟩, r2, r3, r4, r5, r6⟩ := inv_R h
  have n1 := (inv_sz h).2.1
  have tk : ∀ k, k < n → sgT σ2 (gDv g2 k) = 16 := fun k hk => (inv_dv h hk).2.1
  have fk : ∀ k j, k < n → sgI σ3 (gDv g2 k) j = sgI σ2 (gDv g2 k) j := fun k j hk => hI _ j (by rw [tk k hk]; decide) (by rw [tk k hk]; decide)
  have eH : ∀ k, k < n → iHb g2 σ3 k = iHb g2 σ2 k := fun k hk => by unfold iHb; rw [fk k 7 hk]
  have eS : ∀ k, k < n → iSt g2 σ3 k = iSt g2 σ2 k := fun k hk => by unfold iSt; rw [fk k 6 hk]
  have nH : iHb g2 σ3 n = -1 := by unfold iHb; rw [hd, hI d 7 (by rw [td]; decide) (by rw [td]; decide)]; exact h7
  have nS : iSt g2 σ3 n = 117 := by unfold iSt; rw [hd, hI d 6 (by rw [td]; decide) (by rw [td]; decide)]; exact h6
  refine ⟨⟨rk, fun k hk => ?_⟩, fun k hk y q => ?_, fun k h1 hk y => ?_, (eH 0 n1).trans r4, (eS 0 n1).trans r5, (fk 0 0 n1).trans r6⟩
  · by_cases c : k = n
    · rw [c]
      exact Or.inl nH
    · rw [eH k (by omega)]
      rcases hrk k (by omega) with z | ⟨z1, z2, z3⟩
      · exact Or.inl z
      · exact Or.inr ⟨z1, by omega, z3⟩
  · by_cases c : k = n
    · rw [c] at q
      exact absurd nH q
    · rw [eH k (by omega)] at q ⊢
      rcases hrk k (by omega) with z | ⟨z1, z2, z3⟩
      · exact absurd z q
      · rw [eS _ (by omega)]
        exact r2 k (by omega) y q
  · by_cases c : k = n
    · rw [c]
      exact ⟨fun _ => nH, fun _ => nS⟩
    · rw [eH k (by omega), eS k (by omega)]
      exact r3 k h1 (by omega) y
theorem dv_iEl {σ2 : SG} (h : Inv eda ia K (gN g n d e) n S hw σ2) (td : sgT σ2 d = 16) : iEl ia (gN g n d e) σ2 (kD K) (sgSz σ2 (kD K)) d := by
  rw [(inv_M h).2.1.1]
  unfold iEl
  rw [(inv_tD h).2]
  exact ⟨td, if_pos rfl, if_pos rfl⟩
theorem nH_N (h : nH g) (n1 : 0 < n) (hd : d ≠ gDv g 0) : nH (gN g n d e) := fun x z => by
  have e0 : gDv (gN g n d e) 0 = gDv g 0 := (show (if 0 = n then d else gDv g 0) = gDv g 0 from by rw [if_neg (by omega)])
  have k1 : ∀ a, gOw (gN g n d e) a = if a = e then d else if a = d then d else gOw g a := fun _ => rfl
  have hn : ¬ gOw (gN g n d e) x = d := fun c => by
    rw [c, e0, k1 d] at z
    by_cases c2 : d = e
    · rw [if_pos c2] at z
      exact hd z
    · rw [if_neg c2, if_pos rfl] at z
      exact hd z
  by_cases c : gOw (gN g n d e) x = e
  · rw [e0, k1 (gOw (gN g n d e) x), if_pos c] at z
    exact hd z
  · rw [e0, k1 (gOw (gN g n d e) x), if_neg c, if_neg hn] at z
    by_cases c3 : x = e
    · exact hn (by rw [k1 x, if_pos c3])
    · by_cases c4 : x = d
      · exact hn (by rw [k1 x, if_neg c3, if_pos c4])
      · rw [k1 x, if_neg c3, if_neg c4] at z
        exact h x z
theorem m_n16 {x : Int32} {n : Nat} (h : x.toInt = n) (h2 : n ≤ 16) (c : ¬ x = 16) : n < 16 := by
  have q := m_neI c
  have : (16 : Int32).toInt = 16 := rfl
  omega
theorem m_decN {x : Int32} {n : Nat} (h : x.toInt = ((n + 1 : Nat) : Int)) (h2 : n ≤ 16) : (x - 1).toInt = n := by
  rw [m_sub1 (by omega) (by omega), h]
  omega
def mkOk (sp po pw ki : Int32) : Prop := (sp = 108 ∨ sp = 102 ∨ sp = 104) ∧ ((0 : Int32).toInt ≤ po.toInt ∧ po.toInt ≤ (4 : Int32).toInt) ∧ ((1 : Int32).toInt ≤ pw.toInt ∧ pw.toInt ≤ (5 : Int32).toInt) ∧ ((0 : Int32).toInt ≤ ki.toInt ∧ ki.toInt ≤ (99 : Int32).toInt) ∧ ¬ (sp = 108 ∧ ¬ po ≤ 0)
end DVA
