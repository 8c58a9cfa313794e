section CLS2
/-! p54: what isSound asks -/
/-- a plugged device's hub is plugged -/
def sA (Y : CY) (σ : SG) : Prop := ∀ i, i < 16 → i ≠ 0 → ¬ sgI σ (yd Y i) 7 = 117 → ∃ b, sgR σ (yd Y i) 8 = some b ∧ sgT σ b = 7 ∧ ¬ sgI σ b 7 = 117
/-- no two addresses alike -/
def sB (Y : CY) (σ : SG) : Prop := ∀ i j, i < 16 → j < i → ¬ sgI σ (yd Y i) 13 = 0 → ¬ sgI σ (yd Y i) 13 = sgI σ (yd Y j) 13
/-- the reserved units are the sums over the pipes, and not too many -/
def sC (Y : CY) (σ : SG) : Prop := (∀ f : Int32, 0 ≤ f.toInt → f.toInt < 8 → (sgI σ (yh Y) f.toInt.toNat).toInt = sumTo (cH Y σ f) 12 ∧ sumTo (cH Y σ f) 12 ≤ 80) ∧ ∀ f h : Int32, 0 ≤ f.toInt → f.toInt < 8 → 0 ≤ h.toInt → h.toInt < 16 → (sgI σ (yk Y) (h.toInt * 8 + f.toInt).toNat).toInt = sumTo (cU Y σ f h) 12 ∧ sumTo (cU Y σ f h) 12 ≤ 48
/-- no byte came that was not sent -/
def sD (Y : CY) (σ : SG) : Prop := ∀ i k, i < 16 → k < 3 → ¬ sgI σ (ye Y i k) 0 = 0 → sgI σ (ye Y i k) 1 = 0 → (sgI σ (yr Y i k) 3).toInt ≤ (sgI σ (ye Y i k) 6).toInt
theorem rk_m1 {Y : CY} {σ : SG} {f : Int32} {j : Nat} : rk Y σ f (-1) j = cH Y σ f j := if_pos (by decide)
theorem rk_ge {Y : CY} {σ : SG} {f h : Int32} {j : Nat} (h0 : 0 ≤ h.toInt) : rk Y σ f h j = cU Y σ f h j := if_neg (by omega)
theorem ix_t {h f : Int32} (h0 : 0 ≤ h.toInt) (h1 : h.toInt < 16) (f0 : 0 ≤ f.toInt) (f1 : f.toInt < 8) : (h * 8 + f).toInt = h.toInt * 8 + f.toInt := by
  have e8 : (8 : Int32).toInt = 8 := rfl
  have e : (h * 8).toInt = h.toInt * 8 := by rw [Int32.toInt_mul, e8, vi_bmod (by omega) (by omega)]
  rw [i_add (by rw [e]; omega) (by rw [e]; omega), e]
end CLS2
