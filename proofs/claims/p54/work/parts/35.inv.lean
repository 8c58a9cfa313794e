section INVA
/-! the reference's state: what every call finds and leaves -/
/-- ghosts: owners (a list's End or Pipe, an End's array, an array of ends' Device, a Transfer's Pipe); places (an End's, a Device's); roles of lists (1 devices, 2 drivers, 3 typed, 4 events, 5 got, 6 an End's, 7 a Pipe's); the devices; an End's last Pipe; what is under way (an End's kept, a Transfer's counts, a Device's place in the tree) -/
abbrev GH : Type := (Nat → Nat) × (Nat → Nat) × (Nat → Nat) × (Nat → Nat) × (Nat → Nat) × (Nat → Prop)
def gOw (g : GH) (a : Nat) : Nat := g.1 a
def gIx (g : GH) (a : Nat) : Nat := g.2.1 a
def gRo (g : GH) (a : Nat) : Nat := g.2.2.1 a
def gDv (g : GH) (j : Nat) : Nat := g.2.2.2.1 j
def gCp (g : GH) (x : Nat) : Nat := g.2.2.2.2.1 x
def gY (g : GH) (x : Nat) : Prop := g.2.2.2.2.2 x
/-- the model, its devices, pipes, drivers, typed, events, got, what is left of its hubs -/
abbrev KM : Type := Nat × Nat × Nat × Nat × Nat × Nat × Nat × Nat
def kA (K : KM) : Nat := K.1
def kD (K : KM) : Nat := K.2.1
def kP (K : KM) : Nat := K.2.2.1
def kR (K : KM) : Nat := K.2.2.2.1
def kT (K : KM) : Nat := K.2.2.2.2.1
def kE (K : KM) : Nat := K.2.2.2.2.2.1
def kG (K : KM) : Nat := K.2.2.2.2.2.2.1
def kH (K : KM) : Nat := K.2.2.2.2.2.2.2
def iEl (ia : Nat → Nat) (g : GH) (σ : SG) (l j y : Nat) : Prop := match gRo g l with
  | 1 => sgT σ y = 16 ∧ gDv g j = y ∧ gIx g y = j
  | 2 => sgT σ y = 100 ∧ sgN σ y = 2
  | 4 => sgT σ y = 100 ∧ sgN σ y = 3
  | 7 => sgT σ y = 19 ∧ gOw g y = gOw g l
  | _ => sgBx ia σ y
def iCap (S hl ro : Nat) : Nat := match ro with
  | 1 => 16
  | 2 => 8
  | 3 => 16
  | 4 => 6
  | 7 => 4
  | _ => S - hl
def iX : Nat → Prop := fun _ => False
def iL (ia : Nat → Nat) (g : GH) (σ : SG) : Prop := ∀ l, sgT σ l = 5 → ∀ j, j < sgSz σ l → ∃ y, sgAt σ l j = some y ∧ iEl ia g σ l j y
def iB (g : GH) (S hl : Nat) (σ : SG) : Prop := ∀ l, sgT σ l = 5 → sgSz σ l ≤ iCap S hl (gRo g l)
def iD1 (g : GH) (σ : SG) (d : Nat) : Prop := ∃ e f h : Nat, sgR σ d 13 = some e ∧ sgR σ d 14 = some f ∧ sgR σ d 15 = some h ∧ sgT σ e = 108 ∧ sgN σ e = 4 ∧ gOw g e = d ∧ sgT σ f = 101 ∧ sgN σ f = 4 ∧ sgT σ h = 100 ∧ sgN σ h = 4
def iD (g : GH) (σ : SG) : Prop := ∀ d, sgT σ d = 16 → iD1 g σ d
def iN (g : GH) (σ : SG) : Prop := ∀ e, sgT σ e = 108 → ∀ j x : Nat, j < 4 → sgR σ e j = some x → sgT σ x = 17 ∧ gOw g x = e ∧ gIx g x = j
/-- what is kept at an End -/
def iK1 (g : GH) (σ : SG) (x l : Nat) : Prop := gY g x ∨ (sgI σ x 4).toInt = -1 ∨ (1 ≤ (sgI σ x 4).toInt ∧ (sgI σ x 4).toInt ≤ 8 ∧ (sgI σ x 4).toInt ≤ sgSz σ l ∧ sgT σ (gCp g x) = 18 ∧ ¬ sgI σ (gCp g x) 2 = 115)
def iE1 (g : GH) (σ : SG) (x : Nat) : Prop := ∃ l : Nat, sgR σ x 3 = some l ∧ sgT σ l = 5 ∧ gRo g l = 6 ∧ gOw g l = x ∧ 1 ≤ (sgI σ x 1).toInt ∧ (sgI σ x 1).toInt ≤ 8 ∧ iK1 g σ x l
def iE (g : GH) (σ : SG) : Prop := ∀ x, sgT σ x = 17 → iE1 g σ x
def iT (σ : SG) : Prop := ∀ t, sgT σ t = 19 → ∃ b : Nat, sgR σ t 0 = some b ∧ sgT σ b = 100 ∧ sgN σ b ≤ 16
/-- a transfer that waits: of an end that takes or gives -/
def iW (σ : SG) (x t : Nat) : Prop := 0 ≤ (sgI σ t 2).toInt ∧ (sgI σ t 2).toInt < (sgI σ t 1).toInt ∧ (sgI σ t 1).toInt ≤ 16 ∧ (sgI σ x 0 = 0 → ∀ b, sgR σ t 0 = some b → (sgI σ t 1).toInt ≤ sgN σ b)
/-- a Pipe's row -/
def iRw (g : GH) (σ : SG) (l x : Nat) : Prop := (∀ j k t : Nat, j < sgSz σ l → k < sgSz σ l → sgAt σ l j = some t → sgAt σ l k = some t → j = k) ∧ ∀ j t : Nat, j < sgSz σ l → sgAt σ l j = some t → sgT σ t = 19 ∧ (gY g t ∨ iW σ x t)
/-- a Pipe's own numbers -/
def iPn (σ : SG) (n p : Nat) : Prop := 1 ≤ (sgI σ p 0).toInt ∧ (sgI σ p 0).toInt < n ∧ 1 ≤ (sgI σ p 1).toInt ∧ (sgI σ p 1).toInt ≤ 3 ∧ (sgI σ p 2 = 98 ∨ sgI σ p 3 = 1 ∨ sgI σ p 3 = 2 ∨ sgI σ p 3 = 4 ∨ sgI σ p 3 = 8)
/-- a Pipe's device -/
def pDv (g : GH) (σ : SG) (p : Nat) : Nat := gDv g (sgI σ p 0).toInt.toNat
def iP1 (g : GH) (n : Nat) (σ : SG) (p : Nat) : Prop := ∃ l e x : Nat, sgR σ p 9 = some l ∧ sgT σ l = 5 ∧ gRo g l = 7 ∧ gOw g l = p ∧ iPn σ n p ∧ sgT σ (pDv g σ p) = 16 ∧ sgR σ (pDv g σ p) 13 = some e ∧ sgT σ e = 108 ∧ sgR σ e (sgI σ p 1).toInt.toNat = some x ∧ sgT σ x = 17 ∧ iRw g σ l x
def iP (g : GH) (n : Nat) (σ : SG) : Prop := ∀ p, sgT σ p = 18 → iP1 g n σ p
/-- the model's parts -/
def iMr (K : KM) (g : GH) (σ : SG) : Prop := sgT σ (kA K) = 20 ∧ sgR σ (kA K) 1 = some (kD K) ∧ sgR σ (kA K) 2 = some (kP K) ∧ sgR σ (kA K) 3 = some (kR K) ∧ sgR σ (kA K) 4 = some (kT K) ∧ sgR σ (kA K) 5 = some (kE K) ∧ sgR σ (kA K) 8 = some (kG K) ∧ sgR σ (kA K) 12 = some (kH K) ∧ (sgT σ (kD K) = 5 ∧ gRo g (kD K) = 1) ∧ (sgT σ (kR K) = 5 ∧ gRo g (kR K) = 2) ∧ (sgT σ (kT K) = 5 ∧ gRo g (kT K) = 3) ∧ (sgT σ (kE K) = 5 ∧ gRo g (kE K) = 4) ∧ (sgT σ (kG K) = 5 ∧ gRo g (kG K) = 5) ∧ (sgT σ (kP K) = 109 ∧ sgN σ (kP K) = 12) ∧ (sgT σ (kH K) = 100 ∧ sgN σ (kH K) = 16) ∧ (∃ ev : Nat, sgR σ (kA K) 6 = some ev ∧ sgT σ ev = 100 ∧ (sgN σ ev = 0 ∨ sgN σ ev = 3)) ∧ ∀ l, sgT σ l = 5 → gRo g l = 1 → l = kD K
/-- the model's numbers -/
def iMi (K : KM) (S hl : Nat) (σ : SG) : Prop := (-1 ≤ (sgI σ (kA K) 10).toInt ∧ (sgI σ (kA K) 10).toInt ≤ 11) ∧ (sgI σ (kA K) 11).toInt = hl ∧ hl ≤ 100 ∧ 200 ≤ S ∧ S ≤ 60000 ∧ (0 ≤ (sgI σ (kA K) 9).toInt ∧ 100 * (sgI σ (kA K) 9).toInt ≤ S)
def iM (K : KM) (g : GH) (n S hl : Nat) (σ : SG) : Prop := iMr K g σ ∧ (sgSz σ (kD K) = n ∧ 1 ≤ n) ∧ iMi K S hl σ
def iO (K : KM) (g : GH) (σ : SG) : Prop := ∀ k p : Nat, k < 12 → sgR σ (kP K) k = some p → sgT σ p = 18 ∧ (∀ e x, sgR σ (pDv g σ p) 13 = some e → sgR σ e (sgI σ p 1).toInt.toNat = some x → gCp g x = p) ∧ ¬ sgI σ (pDv g σ p) 6 = 117
/-- the hub of a device, the tree -/
def iHb (g : GH) (σ : SG) (k : Nat) : Int := (sgI σ (gDv g k) 7).toInt
def iSt (g : GH) (σ : SG) (k : Nat) : Int32 := sgI σ (gDv g k) 6
def iRk (g : GH) (n : Nat) (σ : SG) : Prop := ∃ rk : Nat → Nat, ∀ k, k < n → iHb g σ k = -1 ∨ (0 ≤ iHb g σ k ∧ iHb g σ k < n ∧ rk (iHb g σ k).toNat < rk k)
def iR (g : GH) (n : Nat) (σ : SG) : Prop := iRk g n σ ∧ (∀ k, k < n → ¬ gY g (gDv g k) → ¬ iHb g σ k = -1 → ¬ iSt g σ (iHb g σ k).toNat = 117) ∧ (∀ k, 1 ≤ k → k < n → ¬ gY g (gDv g k) → (iSt g σ k = 117 ↔ iHb g σ k = -1)) ∧ iHb g σ 0 = -1 ∧ iSt g σ 0 = 99 ∧ sgI σ (gDv g 0) 0 = 104
def Inv (eda : Nat) (ia : Nat → Nat) (K : KM) (g : GH) (n S hl : Nat) (σ : SG) : Prop := sgLS eda ia iX σ ∧ iL ia g σ ∧ iB g S hl σ ∧ iD g σ ∧ iN g σ ∧ iE g σ ∧ iT σ ∧ iP g n σ ∧ iM K g n S hl σ ∧ iO K g σ ∧ iR g n σ
variable {eda n S hl : Nat} {ia : Nat → Nat} {K : KM} {g : GH} {σ σ2 : SG}
theorem inv_LS (h : Inv eda ia K g n S hl σ) : sgLS eda ia iX σ := h.1
theorem inv_L (h : Inv eda ia K g n S hl σ) : iL ia g σ := h.2.1
theorem inv_B (h : Inv eda ia K g n S hl σ) : iB g S hl σ := h.2.2.1
theorem inv_D (h : Inv eda ia K g n S hl σ) : iD g σ := h.2.2.2.1
theorem inv_N (h : Inv eda ia K g n S hl σ) : iN g σ := h.2.2.2.2.1
theorem inv_E (h : Inv eda ia K g n S hl σ) : iE g σ := h.2.2.2.2.2.1
theorem inv_T (h : Inv eda ia K g n S hl σ) : iT σ := h.2.2.2.2.2.2.1
theorem inv_P (h : Inv eda ia K g n S hl σ) : iP g n σ := h.2.2.2.2.2.2.2.1
theorem inv_M (h : Inv eda ia K g n S hl σ) : iM K g n S hl σ := h.2.2.2.2.2.2.2.2.1
theorem inv_Mr (h : Inv eda ia K g n S hl σ) : iMr K g σ := h.2.2.2.2.2.2.2.2.1.1
theorem inv_O (h : Inv eda ia K g n S hl σ) : iO K g σ := h.2.2.2.2.2.2.2.2.2.1
theorem inv_R (h : Inv eda ia K g n S hl σ) : iR g n σ := h.2.2.2.2.2.2.2.2.2.2
theorem inv_dv (h : Inv eda ia K g n S hl σ) {k : Nat} (hk : k < n) : sgAt σ (kD K) k = some (gDv g k) ∧ sgT σ (gDv g k) = 16 ∧ gIx g (gDv g k) = k := by
  have hM := inv_M h
  obtain ⟨⟨-, -, -, -, -, -, -, -, ⟨t1, r1⟩, -⟩, ⟨e1, -⟩, -⟩ := hM
  obtain ⟨y, hy, he⟩ := inv_L h (kD K) t1 k (by rw [e1]; exact hk)
  unfold iEl at he
  rw [r1] at he
  obtain ⟨q1, q2, q3⟩ := he
  subst q2
  exact ⟨hy, q1, q3⟩
end INVA
