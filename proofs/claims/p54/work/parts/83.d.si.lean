section CLS
/-! p54: the sums of what the pipes reserve -/
def sumTo (f : Nat → Int) : Nat → Int
  | 0 => 0
  | n + 1 => sumTo f n + f n
theorem sumTo_eq {f g : Nat → Int} : ∀ {n : Nat}, (∀ j, j < n → f j = g j) → sumTo f n = sumTo g n
  | 0, _ => rfl
  | n + 1, h => by
    show sumTo f n + f n = sumTo g n + g n
    rw [sumTo_eq (fun j hj => h j (by omega)), h n (by omega)]
theorem sumTo_rg {f : Nat → Int} {u : Int} (hu : 0 ≤ u) : ∀ {n : Nat}, (∀ j, j < n → 0 ≤ f j ∧ f j ≤ u) → 0 ≤ sumTo f n ∧ sumTo f n ≤ n * u
  | 0, _ => by
    show (0 : Int) ≤ 0 ∧ (0 : Int) ≤ ((0 : Nat) : Int) * u
    simp
  | n + 1, h => by
    have h1 := sumTo_rg hu (n := n) (fun j hj => h j (by omega))
    have h2 := h n (by omega)
    show 0 ≤ sumTo f n + f n ∧ sumTo f n + f n ≤ ((n + 1 : Nat) : Int) * u
    have h3 : ((n + 1 : Nat) : Int) * u = (n : Int) * u + u := by rw [Int.natCast_add, Int.add_mul]; simp
    omega
/-- one of them changed -/
theorem sumTo_ch {f g : Nat → Int} {n i : Nat} (hi : i < n) (h : ∀ j, j ≠ i → f j = g j) : sumTo f n = sumTo g n + (f i - g i) := by
  induction n with
  | zero => omega
  | succ n ih =>
    show sumTo f n + f n = sumTo g n + g n + (f i - g i)
    by_cases c : i = n
    · subst c
      rw [sumTo_eq (fun j hj => h j (by omega))]
      omega
    · rw [ih (by omega), h n (fun z => c z.symm)]
      omega
/-- a device's cost for a packet of b bytes -/
def hubC (r : Int32) (b : Int) : Int := if r = 104 then 0 else if r = 102 then 4 + 2 * b else 8 + 8 * b
/-- the pipe at p is due in frame f -/
abbrev due (σ : SG) (p : Nat) (f : Int32) : Prop := f &&& (sgI σ p 4 - 1) = sgI σ p 5
def cH (Y : CY) (σ : SG) (f : Int32) (j : Nat) : Int := match sgR σ (yp Y j) 1, sgR σ (yp Y j) 2 with
  | some _, some e => if due σ (yp Y j) f then 2 + (sgI σ e 3).toInt else 0
  | _, _ => 0
def cU (Y : CY) (σ : SG) (f h : Int32) (j : Nat) : Int := match sgR σ (yp Y j) 1, sgR σ (yp Y j) 2 with
  | some d, some e => if due σ (yp Y j) f ∧ sgI σ d 12 = h then hubC (sgI σ d 11) (sgI σ e 3).toInt else 0
  | _, _ => 0
/-- what the class reckons for the host (below 0) or a hub -/
def rk (Y : CY) (σ : SG) (f h : Int32) (j : Nat) : Int := if h.toInt < 0 then cH Y σ f j else cU Y σ f h j
theorem cl_add1 {x : Int32} (h0 : 0 ≤ x.toInt) (h1 : x.toInt < 2147483647) : (x + Int32.ofInt 1).toInt = x.toInt + 1 := by
  have e : (Int32.ofInt 1).toInt = 1 := rfl
  rw [i_add (by rw [e]; omega) (by rw [e]; omega), e]
theorem hc_f {b : Int32} (h0 : 0 ≤ b.toInt) (h1 : b.toInt ≤ 16) : (4 + 2 * b).toInt = 4 + 2 * b.toInt := by
  have e2 : (2 : Int32).toInt = 2 := rfl
  have e4 : (4 : Int32).toInt = 4 := rfl
  have e : (2 * b).toInt = 2 * b.toInt := by rw [Int32.toInt_mul, e2, vi_bmod (by omega) (by omega)]
  rw [i_add (by rw [e4, e]; omega) (by rw [e4, e]; omega), e4, e]
theorem hc_l {b : Int32} (h0 : 0 ≤ b.toInt) (h1 : b.toInt ≤ 16) : (8 + 8 * b).toInt = 8 + 8 * b.toInt := by
  have e2 : (8 : Int32).toInt = 8 := rfl
  have e : (8 * b).toInt = 8 * b.toInt := by rw [Int32.toInt_mul, e2, vi_bmod (by omega) (by omega)]
  rw [i_add (by rw [e2, e]; omega) (by rw [e2, e]; omega), e2, e]
theorem hc_h {b : Int32} (h0 : 0 ≤ b.toInt) (h1 : b.toInt ≤ 16) : (2 + b).toInt = 2 + b.toInt := by
  have e2 : (2 : Int32).toInt = 2 := rfl
  rw [i_add (by rw [e2]; omega) (by rw [e2]; omega), e2]
theorem hubC_rg {r : Int32} {b : Int} (h0 : 0 ≤ b) (h1 : b ≤ 8) : 0 ≤ hubC r b ∧ hubC r b ≤ 72 := by
  unfold hubC
  split
  · omega
  · split <;> omega
section
variable {cy : Nat → ClassId} {ad τ : List Nat} {Y : CY} {σ : SG} {f h : Int32} {j e d : Nat}
/-- an endpoint's greatest packet -/
theorem en_gr (hV : VL cy ad τ Y σ) (ht : sgT σ e = 8) : 0 ≤ (sgI σ e 3).toInt ∧ (sgI σ e 3).toInt ≤ 8 := VT_in (ci := 7) (t := 0) hV.1 ht (by decide) rfl (by decide) (by decide +kernel)
theorem pi_en (hV : VL cy ad τ Y σ) (hj : j < 12) (he : sgR σ (yp Y j) 2 = some e) : sgT σ e = 8 := (VT_rf (ci := 10) (kd := 5) hV.1 (hV.2.2.2.2.2.2.2.1 j hj).1 (by decide) rfl (by decide +kernel) he).1
theorem pi_dv (hV : VL cy ad τ Y σ) (hj : j < 12) (hd : sgR σ (yp Y j) 1 = some d) : sgT σ d = 7 := (VT_rf (ci := 10) (kd := 4) hV.1 (hV.2.2.2.2.2.2.2.1 j hj).1 (by decide) rfl (by decide +kernel) hd).1
theorem cH_rg (hV : VL cy ad τ Y σ) (hj : j < 12) : 0 ≤ cH Y σ f j ∧ cH Y σ f j ≤ 10 := by
  unfold cH
  split
  · rename_i d e h1 h2
    have := en_gr hV (pi_en hV hj h2)
    split <;> omega
  · omega
theorem cU_rg (hV : VL cy ad τ Y σ) (hj : j < 12) : 0 ≤ cU Y σ f h j ∧ cU Y σ f h j ≤ 72 := by
  unfold cU
  split
  · rename_i d e h1 h2
    have := en_gr hV (pi_en hV hj h2)
    split
    · exact hubC_rg (by omega) (by omega)
    · omega
  · omega
theorem rk_rg (hV : VL cy ad τ Y σ) (hj : j < 12) : 0 ≤ rk Y σ f h j ∧ rk Y σ f h j ≤ 72 := by
  have h1 := cH_rg (f := f) hV hj
  have h2 := cU_rg (f := f) (h := h) hV hj
  unfold rk
  split <;> omega
theorem rk_n1 (h1 : sgR σ (yp Y j) 1 = none) : rk Y σ f h j = 0 := by
  unfold rk cH cU
  rw [h1]
  split <;> rfl
theorem rk_n2 (h1 : sgR σ (yp Y j) 2 = none) : rk Y σ f h j = 0 := by
  unfold rk cH cU
  rw [h1]
  cases sgR σ (yp Y j) 1 <;> (split <;> rfl)
theorem rk_nd (h1 : ¬ due σ (yp Y j) f) : rk Y σ f h j = 0 := by
  unfold rk cH cU
  cases sgR σ (yp Y j) 1 with
  | none => split <;> rfl
  | some d => cases sgR σ (yp Y j) 2 with
    | none => split <;> rfl
    | some e =>
      by_cases h4 : h.toInt < 0
      · rw [if_pos h4]
        exact if_neg h1
      · rw [if_neg h4]
        exact if_neg (fun z => h1 z.1)
theorem rk_h (h1 : sgR σ (yp Y j) 1 = some d) (h2 : sgR σ (yp Y j) 2 = some e) (h3 : due σ (yp Y j) f) (h4 : h.toInt < 0) : rk Y σ f h j = 2 + (sgI σ e 3).toInt := by
  unfold rk cH
  rw [if_pos h4, h1, h2]
  exact if_pos h3
theorem rk_u (h1 : sgR σ (yp Y j) 1 = some d) (h2 : sgR σ (yp Y j) 2 = some e) (h3 : due σ (yp Y j) f) (h4 : ¬ h.toInt < 0) (h5 : sgI σ d 12 = h) : rk Y σ f h j = hubC (sgI σ d 11) (sgI σ e 3).toInt := by
  unfold rk cU
  rw [if_neg h4, h1, h2]
  exact if_pos ⟨h3, h5⟩
theorem rk_v (h1 : sgR σ (yp Y j) 1 = some d) (h2 : sgR σ (yp Y j) 2 = some e) (h4 : ¬ h.toInt < 0) (h5 : ¬ sgI σ d 12 = h) : rk Y σ f h j = 0 := by
  unfold rk cU
  rw [if_neg h4, h1, h2]
  exact if_neg (fun z => h5 z.2)
/-- a further term of the sum -/
theorem rk_st {T : Nat → Int} {i s z : Int32} (h0 : 0 ≤ i.toInt) (h1 : i.toInt ≤ 12) (hs : s.toInt = sumTo T i.toInt.toNat) (hz : z.toInt = s.toInt + T i.toInt.toNat) : z.toInt = sumTo T (i + Int32.ofInt 1).toInt.toNat := by
  rw [cl_add1 h0 (by omega), show (i.toInt + 1).toNat = i.toInt.toNat + 1 by omega]
  show _ = sumTo T i.toInt.toNat + T i.toInt.toNat
  omega
end
end CLS
