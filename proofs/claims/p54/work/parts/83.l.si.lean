section CLS5
/-- behind k frames of reserveFor: u for the host, w for the hub tr, where the pipe at p is due -/
def resN (Y : CY) (σ : SG) (p : Nat) (u w tr : Int32) (k : Int) (s2 : SG) : Prop := (∀ a, sgT s2 a = sgT σ a ∧ sgN s2 a = sgN σ a) ∧ (∀ a j, sgR s2 a j = sgR σ a j) ∧ (∀ a j, a ≠ yh Y → a ≠ yk Y → sgI s2 a j = sgI σ a j) ∧
  (∀ f : Int32, 0 ≤ f.toInt → f.toInt < 8 → sgI s2 (yh Y) f.toInt.toNat = if f.toInt < k ∧ due σ p f then sgI σ (yh Y) f.toInt.toNat + u else sgI σ (yh Y) f.toInt.toNat) ∧
  ∀ f h : Int32, 0 ≤ f.toInt → f.toInt < 8 → 0 ≤ h.toInt → h.toInt < 16 → sgI s2 (yk Y) (h.toInt * 8 + f.toInt).toNat = if f.toInt < k ∧ due σ p f ∧ tr = h then sgI σ (yk Y) (h.toInt * 8 + f.toInt).toNat + w else sgI σ (yk Y) (h.toInt * 8 + f.toInt).toNat
section
variable {Y : CY} {σ s2 : SG} {p : Nat} {u w tr g : Int32}
theorem resN_0 : resN Y σ p u w tr 0 σ := ⟨fun _ => ⟨rfl, rfl⟩, fun _ _ => rfl, fun _ _ _ _ => rfl, fun f h0 _ => (if_neg (fun z => by omega)).symm, fun f h h0 _ _ _ => (if_neg (fun z => by omega)).symm⟩
theorem resN_n (h : resN Y σ p u w tr g.toInt s2) (hd : ¬ due σ p g) : resN Y σ p u w tr (g.toInt + 1) s2 := by
  have key : ∀ f : Int32, due σ p f → (f.toInt < g.toInt + 1 ↔ f.toInt < g.toInt) := fun f hf => ⟨fun z => by
    have : f.toInt ≠ g.toInt := fun e => hd (by rw [← i_eq.mpr e]; exact hf)
    omega, fun z => by omega⟩
  refine ⟨h.1, h.2.1, h.2.2.1, fun f f0 f1 => ?_, fun f k f0 f1 k0 k1 => ?_⟩
  · rw [h.2.2.2.1 f f0 f1]
    by_cases hf : due σ p f
    · simp only [key f hf]
    · rw [if_neg (fun z => hf z.2), if_neg (fun z => hf z.2)]
  · rw [h.2.2.2.2 f k f0 f1 k0 k1]
    by_cases hf : due σ p f
    · simp only [key f hf]
    · rw [if_neg (fun z => hf z.2.1), if_neg (fun z => hf z.2.1)]
theorem f_nat {f k : Int32} (h0 : 0 ≤ f.toInt) (k0 : 0 ≤ k.toInt) (e : f.toInt.toNat = k.toInt.toNat) : f = k := i_eq.mpr (by omega)
/-- the host's part of a step -/
theorem resN_h (h : resN Y σ p u w tr g.toInt s2) (g0 : 0 ≤ g.toInt) (g1 : g.toInt < 8) (hd : due σ p g) (f : Int32) (f0 : 0 ≤ f.toInt) (f1 : f.toInt < 8) : sgI (sgPI s2 (yh Y) g.toInt.toNat (sgI s2 (yh Y) g.toInt.toNat + u)) (yh Y) f.toInt.toNat = if f.toInt < g.toInt + 1 ∧ due σ p f then sgI σ (yh Y) f.toInt.toNat + u else sgI σ (yh Y) f.toInt.toNat := by
  rw [sgI_PI]
  by_cases e : f = g
  · subst e
    rw [if_pos ⟨rfl, rfl⟩, h.2.2.2.1 f f0 f1, if_neg (fun z => by omega), if_pos ⟨by omega, hd⟩]
  · rw [if_neg (fun z => e (f_nat f0 g0 z.2)), h.2.2.2.1 f f0 f1]
    have hne : f.toInt ≠ g.toInt := fun z => e (i_eq.mpr z)
    by_cases hf : f.toInt < g.toInt ∧ due σ p f
    · rw [if_pos hf, if_pos ⟨by omega, hf.2⟩]
    · rw [if_neg hf, if_neg (fun z => hf ⟨by omega, z.2⟩)]
theorem resN_A (h : resN Y σ p u w tr g.toInt s2) (hY : yh Y ≠ yk Y) (g0 : 0 ≤ g.toInt) (g1 : g.toInt < 8) (hd : due σ p g) (ht : tr.toInt < 0 ∨ 16 ≤ tr.toInt) : resN Y σ p u w tr (g.toInt + 1) (sgPI s2 (yh Y) g.toInt.toNat (sgI s2 (yh Y) g.toInt.toNat + u)) := by
  refine ⟨h.1, h.2.1, fun a j h1 h2 => by rw [sgI_PI, if_neg (fun z => h1 z.1)]; exact h.2.2.1 a j h1 h2, fun f f0 f1 => resN_h h g0 g1 hd f f0 f1, fun f k f0 f1 k0 k1 => ?_⟩
  rw [sgI_PI, if_neg (fun z => hY z.1.symm), h.2.2.2.2 f k f0 f1 k0 k1, if_neg (fun z => by have := z.2.2; subst this; omega), if_neg (fun z => by have := z.2.2; subst this; omega)]
theorem resN_B (h : resN Y σ p u w tr g.toInt s2) (hY : yh Y ≠ yk Y) (g0 : 0 ≤ g.toInt) (g1 : g.toInt < 8) (hd : due σ p g) (t0 : 0 ≤ tr.toInt) (t1 : tr.toInt < 16) {s1 : SG} (e1 : s1 = sgPI s2 (yh Y) g.toInt.toNat (sgI s2 (yh Y) g.toInt.toNat + u)) : resN Y σ p u w tr (g.toInt + 1) (sgPI s1 (yk Y) (tr * 8 + g).toInt.toNat (sgI s1 (yk Y) (tr * 8 + g).toInt.toNat + w)) := by
  have hx := ix_t t0 t1 g0 g1
  subst e1
  refine ⟨h.1, h.2.1, fun a j h1 h2 => by rw [sgI_PI, if_neg (fun z => h2 z.1), sgI_PI, if_neg (fun z => h1 z.1)]; exact h.2.2.1 a j h1 h2, fun f f0 f1 => ?_, fun f k f0 f1 k0 k1 => ?_⟩
  · rw [sgI_PI, if_neg (fun z => hY z.1)]
    exact resN_h h g0 g1 hd f f0 f1
  · rw [hx]
    have a1 : ∀ m, sgI (sgPI s2 (yh Y) g.toInt.toNat (sgI s2 (yh Y) g.toInt.toNat + u)) (yk Y) m = sgI s2 (yk Y) m := fun m => by rw [sgI_PI, if_neg (fun z => hY z.1.symm)]
    rw [a1]
    by_cases e : f = g ∧ k = tr
    · obtain ⟨e1, e2⟩ := e
      subst e1
      subst e2
      refine (show sgI (sgPI _ (yk Y) (k.toInt * 8 + f.toInt).toNat (sgI s2 (yk Y) (k.toInt * 8 + f.toInt).toNat + w)) (yk Y) (k.toInt * 8 + f.toInt).toNat = sgI s2 (yk Y) (k.toInt * 8 + f.toInt).toNat + w from if_pos ⟨rfl, rfl⟩).trans ?_
      rw [h.2.2.2.2 f k f0 f1 k0 k1]
      exact (congrArg (fun z : Int32 => z + w) (if_neg (fun z => by omega))).trans (if_pos ⟨by omega, hd, rfl⟩).symm
    · have hne : (k.toInt * 8 + f.toInt).toNat ≠ (tr.toInt * 8 + g.toInt).toNat := fun z => e ⟨i_eq.mpr (by omega), i_eq.mpr (by omega)⟩
      refine Eq.trans (b := sgI (sgPI s2 (yh Y) g.toInt.toNat (sgI s2 (yh Y) g.toInt.toNat + u)) (yk Y) (k.toInt * 8 + f.toInt).toNat) (if_neg (fun z => hne z.2)) ?_
      rw [a1, h.2.2.2.2 f k f0 f1 k0 k1]
      by_cases hf : f.toInt < g.toInt ∧ due σ p f ∧ tr = k
      · exact (if_pos hf).trans (if_pos ⟨by omega, hf.2⟩).symm
      · exact (if_neg hf).trans (if_neg (fun z => hf ⟨by
          have : f.toInt ≠ g.toInt := fun q => e ⟨i_eq.mpr q, z.2.2.symm⟩
          omega, z.2⟩)).symm
end
theorem clM_post {l : Launch} {D : va_G} {cy : Nat → ClassId} {ad τ : List Nat} {Y : CY} {σ : SG} {sz : Nat} {y : MethodName} {WS : List Cond} {fr lo : Nat} {av : List Value} {Post Post2 : Option Value → SG → Prop} (h : clM l D cy ad τ Y σ sz y WS fr lo av Post) (hi : ∀ v σ2, Post v σ2 → Post2 v σ2) : clM l D cy ad τ Y σ sz y WS fr lo av Post2 := by
  intro p e ha hc hk s m args below hf happ hP hK
  obtain ⟨k, o, h1, h2, h3, ⟨⟨v, σ2, w1, w2, w3, w4⟩, w6⟩, L, h5, h6⟩ := h p e ha hc hk s m args below hf happ hP hK
  exact ⟨k, o, h1, h2, h3, ⟨⟨v, σ2, w1, w2, w3, hi v σ2 w4⟩, w6⟩, L, h5, h6⟩
end CLS5
