section CSI
/-! p54: the invariant -/
/-- the same in field k of the cells tagged t -/
def agI (σ σ2 : SG) (t k : Nat) : Prop := ∀ a, sgT σ a = t → sgI σ2 a k = sgI σ a k
def agR (σ σ2 : SG) (t k : Nat) : Prop := ∀ a, sgT σ a = t → sgR σ2 a k = sgR σ a k
def siT (Y : CY) (σ : SG) : Prop :=
  (∀ i, i < 16 → i ≠ 0 → ¬ sgI σ (yd Y i) 7 = 117 → ∃ h, h < 16 ∧ sgR σ (yd Y i) 8 = some (yd Y h) ∧ ¬ sgI σ (yd Y h) 7 = 117 ∧ (sgI σ (yd Y i) 10).toInt = (sgI σ (yd Y h) 10).toInt + 1) ∧
  (∀ i, i < 16 → sgI σ (yd Y i) 7 = 117 → sgR σ (yd Y i) 8 = none) ∧
  (¬ sgI σ (yd Y 0) 7 = 117 ∧ sgR σ (yd Y 0) 8 = none ∧ (sgI σ (yd Y 0) 10).toInt = 0) ∧
  (∀ i, i < 16 → ¬ sgI σ (yd Y i) 7 = 117 → 0 ≤ (sgI σ (yd Y i) 10).toInt ∧ (sgI σ (yd Y i) 10).toInt ≤ 5) ∧
  (∀ i : Nat, i < 16 → (sgI σ (yX Y) 1).toInt ≤ (i : Int) → sgI σ (yd Y i) 7 = 117) ∧
  (∀ i, i < 16 → sgI σ (yd Y i) 7 = 117 ∨ sgI σ (yd Y i) 7 = 110 ∨ i = 0 → sgI σ (yd Y i) 13 = 0) ∧ sB Y σ
def siP1 (Y : CY) (σ : SG) (j : Nat) : Prop := (sgR σ (yp Y j) 1 = none ∧ sgR σ (yp Y j) 2 = none ∧ sgI σ (yp Y j) 13 = 0) ∨
  ∃ i k, i < 16 ∧ k < 3 ∧ sgR σ (yp Y j) 1 = some (yd Y i) ∧ sgR σ (yp Y j) 2 = some (ye Y i k) ∧ ¬ sgI σ (yd Y i) 7 = 117
def siP (Y : CY) (σ : SG) : Prop := ∀ j, j < 12 → siP1 Y σ j
/-- the place of a pipe's x-th transfer -/
def tx (Y : CY) (σ : SG) (j : Nat) (x : Int32) : Nat := yt Y j ((sgI σ (yp Y j) 12 + x) &&& 3).toInt.toNat
def siR1 (Y : CY) (σ : SG) (j : Nat) : Prop := ∀ e, sgR σ (yp Y j) 2 = some e → sgI σ e 1 = 0 → ∀ x : Int32, 0 ≤ x.toInt → x.toInt < (sgI σ (yp Y j) 13).toInt → 0 ≤ (sgI σ (tx Y σ j x) 2).toInt ∧ (sgI σ (tx Y σ j x) 2).toInt ≤ (sgI σ (tx Y σ j x) 1).toInt ∧ (sgI σ (tx Y σ j x) 1).toInt ≤ 16
def siR (Y : CY) (σ : SG) : Prop := ∀ j, j < 12 → siR1 Y σ j
def siD (Y : CY) (σ : SG) (B : Int) : Prop := ∀ i k, i < 16 → k < 3 → (sgI σ (ye Y i k) 1 = 0 → (sgI σ (yr Y i k) 3).toInt ≤ (sgI σ (ye Y i k) 6).toInt ∧ (sgI σ (ye Y i k) 6).toInt ≤ B ∧ 0 ≤ (sgI σ (ye Y i k) 6).toInt) ∧ (sgI σ (ye Y i k) 0 = 0 → sgI σ (ye Y i k) 1 = 0)
/-- frames are few: what is sent grows with them -/
def siB (Y : CY) (σ : SG) (B : Int) : Prop := 0 ≤ (sgI σ (yX Y) 7).toInt ∧ (sgI σ (yX Y) 7).toInt * 100000 ≤ B
def SI (Y : CY) (σ : SG) (B : Int) : Prop := siT Y σ ∧ siP Y σ ∧ sC Y σ ∧ siR Y σ ∧ siD Y σ B ∧ siB Y σ B
section
variable {cy : Nat → ClassId} {ad τ : List Nat} {Y : CY} {σ σ1 σ2 : SG} {B B2 : Int} {i j k h t a e d n : Nat} {x f g : Int32}
theorem ag_I {t k a k2 : Nat} (h : sgT σ a ≠ t ∨ k ≠ k2) : agI σ (sgPI σ a k2 x) t k := fun b hb => by
  rw [sgI_PI, if_neg (fun z => by rcases h with w | w; exact w (by rw [← z.1]; exact hb); exact w z.2)]
theorem ag_r {t k a k2 : Nat} {x : Option Nat} (h : sgT σ a ≠ t ∨ k ≠ k2) : agR σ (sgPR σ a k2 x) t k := fun b hb => by
  rw [sgR_PR, if_neg (fun z => by rcases h with w | w; exact w (by rw [← z.1]; exact hb); exact w z.2)]
theorem ag_rI {t k a k2 : Nat} : agR σ (sgPI σ a k2 x) t k := fun _ _ => rfl
theorem ag_IR {t k a k2 : Nat} {x : Option Nat} : agI σ (sgPR σ a k2 x) t k := fun _ _ => rfl
theorem ag_rf {t k : Nat} : agI σ σ t k ∧ agR σ σ t k := ⟨fun _ _ => rfl, fun _ _ => rfl⟩
theorem ag_It (h0 : ∀ a, sgT σ a = t → sgT σ1 a = t) (h : agI σ σ1 t k) (h2 : agI σ1 σ2 t k) : agI σ σ2 t k := fun a ha => (h2 a (h0 a ha)).trans (h a ha)
theorem ag_Rt (h0 : ∀ a, sgT σ a = t → sgT σ1 a = t) (h : agR σ σ1 t k) (h2 : agR σ1 σ2 t k) : agR σ σ2 t k := fun a ha => (h2 a (h0 a ha)).trans (h a ha)
theorem siT_eq (hL : LY Y σ) (h : siT Y σ) (h7 : agI σ σ2 7 7) (h10 : agI σ σ2 7 10) (h13 : agI σ σ2 7 13) (h8 : agR σ σ2 7 8) (h1 : agI σ σ2 15 1) : siT Y σ2 := by
  obtain ⟨a1, a2, ⟨a3, a4, a5⟩, a6, a7, a8, a9⟩ := h
  have t : ∀ i, i < 16 → sgT σ (yd Y i) = 7 := fun i hi => (hL.2.2.1 i hi).1
  refine ⟨fun i hi h0 hs => ?_, fun i hi hs => ?_, ⟨?_, ?_, ?_⟩, fun i hi hs => ?_, fun i hi hs => ?_, fun i hi hs => ?_, fun i j hi hj hs => ?_⟩
  · rw [h7 _ (t i hi)] at hs
    obtain ⟨h, b1, b2, b3, b4⟩ := a1 i hi h0 hs
    exact ⟨h, b1, by rw [h8 _ (t i hi)]; exact b2, by rw [h7 _ (t h b1)]; exact b3, by rw [h10 _ (t i hi), h10 _ (t h b1)]; exact b4⟩
  · rw [h7 _ (t i hi)] at hs
    rw [h8 _ (t i hi)]
    exact a2 i hi hs
  · rw [h7 _ (t 0 (by decide))]; exact a3
  · rw [h8 _ (t 0 (by decide))]; exact a4
  · rw [h10 _ (t 0 (by decide))]; exact a5
  · rw [h7 _ (t i hi)] at hs
    rw [h10 _ (t i hi)]
    exact a6 i hi hs
  · rw [h1 _ hL.1.1] at hs
    rw [h7 _ (t i hi)]
    exact a7 i hi hs
  · rw [h7 _ (t i hi)] at hs
    rw [h13 _ (t i hi)]
    exact a8 i hi hs
  · rw [h13 _ (t i hi)] at hs ⊢
    rw [h13 _ (t j (by omega))]
    exact a9 i j hi hj hs
theorem siP1_eq (hL : LY Y σ) (h : siP1 Y σ j) (h7 : ∀ i, i < 16 → ¬ sgI σ (yd Y i) 7 = 117 → sgR σ (yp Y j) 1 = some (yd Y i) → ¬ sgI σ2 (yd Y i) 7 = 117) (h1 : sgR σ2 (yp Y j) 1 = sgR σ (yp Y j) 1) (h2 : sgR σ2 (yp Y j) 2 = sgR σ (yp Y j) 2) (h13 : sgI σ2 (yp Y j) 13 = sgI σ (yp Y j) 13) : siP1 Y σ2 j := by
  unfold siP1
  rw [h1, h2, h13]
  rcases h with h | ⟨i, k, b1, b2, b3, b4, b5⟩
  · exact Or.inl h
  · exact Or.inr ⟨i, k, b1, b2, b3, b4, h7 i b1 b5 b3⟩
theorem siP_eq (hL : LY Y σ) (h : siP Y σ) (h7 : agI σ σ2 7 7) (h1 : agR σ σ2 11 1) (h2 : agR σ σ2 11 2) (h13 : agI σ σ2 11 13) : siP Y σ2 := by
  intro j hj
  have t := (hL.2.2.2.2.2.2.1 j hj).1
  exact siP1_eq hL (h j hj) (fun i hi w _ => by rw [h7 _ (hL.2.2.1 i hi).1]; exact w) (h1 _ t) (h2 _ t) (h13 _ t)
theorem cH_eq (hV : VL cy ad τ Y σ) (hj : j < 12) (h1 : sgR σ2 (yp Y j) 1 = sgR σ (yp Y j) 1) (h2 : sgR σ2 (yp Y j) 2 = sgR σ (yp Y j) 2) (h4 : sgI σ2 (yp Y j) 4 = sgI σ (yp Y j) 4) (h5 : sgI σ2 (yp Y j) 5 = sgI σ (yp Y j) 5) (hg : ∀ e, sgR σ (yp Y j) 2 = some e → sgI σ2 e 3 = sgI σ e 3) : cH Y σ2 f j = cH Y σ f j := by
  unfold cH
  rw [h1, h2]
  cases e1 : sgR σ (yp Y j) 1 with
  | none => rfl
  | some d => cases e2 : sgR σ (yp Y j) 2 with
    | none => rfl
    | some e =>
      show (if f &&& (sgI σ2 (yp Y j) 4 - 1) = sgI σ2 (yp Y j) 5 then 2 + (sgI σ2 e 3).toInt else 0) = (if f &&& (sgI σ (yp Y j) 4 - 1) = sgI σ (yp Y j) 5 then 2 + (sgI σ e 3).toInt else 0)
      rw [h4, h5, hg e e2]
theorem cU_eq (hV : VL cy ad τ Y σ) (hj : j < 12) (h1 : sgR σ2 (yp Y j) 1 = sgR σ (yp Y j) 1) (h2 : sgR σ2 (yp Y j) 2 = sgR σ (yp Y j) 2) (h4 : sgI σ2 (yp Y j) 4 = sgI σ (yp Y j) 4) (h5 : sgI σ2 (yp Y j) 5 = sgI σ (yp Y j) 5) (hg : ∀ e, sgR σ (yp Y j) 2 = some e → sgI σ2 e 3 = sgI σ e 3) (hd : ∀ d, sgR σ (yp Y j) 1 = some d → sgI σ2 d 11 = sgI σ d 11 ∧ sgI σ2 d 12 = sgI σ d 12) : cU Y σ2 f g j = cU Y σ f g j := by
  unfold cU
  rw [h1, h2]
  cases e1 : sgR σ (yp Y j) 1 with
  | none => rfl
  | some d => cases e2 : sgR σ (yp Y j) 2 with
    | none => rfl
    | some e =>
      show (if f &&& (sgI σ2 (yp Y j) 4 - 1) = sgI σ2 (yp Y j) 5 ∧ sgI σ2 d 12 = g then hubC (sgI σ2 d 11) (sgI σ2 e 3).toInt else 0) = (if f &&& (sgI σ (yp Y j) 4 - 1) = sgI σ (yp Y j) 5 ∧ sgI σ d 12 = g then hubC (sgI σ d 11) (sgI σ e 3).toInt else 0)
      rw [h4, h5, hg e e2, (hd d e1).1, (hd d e1).2]
theorem sC_eq (hV : VL cy ad τ Y σ) (h : sC Y σ) (h11 : ∀ j d, j < 12 → sgR σ (yp Y j) 1 = some d → sgI σ2 d 11 = sgI σ d 11 ∧ sgI σ2 d 12 = sgI σ d 12) (h3 : ∀ j e, j < 12 → sgR σ (yp Y j) 2 = some e → sgI σ2 e 3 = sgI σ e 3) (h1 : agR σ σ2 11 1) (h2 : agR σ σ2 11 2) (h4 : agI σ σ2 11 4) (h5 : agI σ σ2 11 5) (hh : ∀ j, sgI σ2 (yh Y) j = sgI σ (yh Y) j) (hk : ∀ j, sgI σ2 (yk Y) j = sgI σ (yk Y) j) : sC Y σ2 := by
  have t : ∀ j, j < 12 → sgT σ (yp Y j) = 11 := fun j hj => (hV.2.2.2.2.2.2.2.1 j hj).1
  have c1 : ∀ f, sumTo (cH Y σ2 f) 12 = sumTo (cH Y σ f) 12 := fun f => sumTo_eq (fun j hj => cH_eq hV hj (h1 _ (t j hj)) (h2 _ (t j hj)) (h4 _ (t j hj)) (h5 _ (t j hj)) (fun e he => h3 j e hj he))
  have c2 : ∀ f g, sumTo (cU Y σ2 f g) 12 = sumTo (cU Y σ f g) 12 := fun f g => sumTo_eq (fun j hj => cU_eq hV hj (h1 _ (t j hj)) (h2 _ (t j hj)) (h4 _ (t j hj)) (h5 _ (t j hj)) (fun e he => h3 j e hj he) (fun d hd => h11 j d hj hd))
  exact ⟨fun f f0 f1 => by rw [hh, c1]; exact h.1 f f0 f1, fun f g f0 f1 g0 g1 => by rw [hk, c2]; exact h.2 f g f0 f1 g0 g1⟩
/-- the sums when one pipe's part changes -/
theorem sC_ch (h : sC Y σ) (hj : j < 12) (hH : ∀ f n, n < 12 → n ≠ j → cH Y σ2 f n = cH Y σ f n) (hU : ∀ f g n, n < 12 → n ≠ j → cU Y σ2 f g n = cU Y σ f g n)
    (h1 : ∀ f : Int32, 0 ≤ f.toInt → f.toInt < 8 → (sgI σ2 (yh Y) f.toInt.toNat).toInt = (sgI σ (yh Y) f.toInt.toNat).toInt + (cH Y σ2 f j - cH Y σ f j) ∧ (sgI σ (yh Y) f.toInt.toNat).toInt + (cH Y σ2 f j - cH Y σ f j) ≤ 80)
    (h2 : ∀ f g : Int32, 0 ≤ f.toInt → f.toInt < 8 → 0 ≤ g.toInt → g.toInt < 16 → (sgI σ2 (yk Y) (g.toInt * 8 + f.toInt).toNat).toInt = (sgI σ (yk Y) (g.toInt * 8 + f.toInt).toNat).toInt + (cU Y σ2 f g j - cU Y σ f g j) ∧ (sgI σ (yk Y) (g.toInt * 8 + f.toInt).toNat).toInt + (cU Y σ2 f g j - cU Y σ f g j) ≤ 48) : sC Y σ2 := by
  have sm : ∀ {u v : Nat → Int}, (∀ n, n < 12 → n ≠ j → u n = v n) → sumTo u 12 = sumTo v 12 + (u j - v j) := by
    intro u v huv
    have e : ∀ {m : Nat}, m ≤ 12 → sumTo u m = sumTo v m + (if j < m then u j - v j else 0) := by
      intro m
      induction m with
      | zero => intro _; rw [if_neg (by omega)]; rfl
      | succ m ih =>
        intro hm
        show sumTo u m + u m = sumTo v m + v m + _
        rw [ih (by omega)]
        by_cases c : m = j
        · subst c
          rw [if_neg (by omega), if_pos (by omega)]
          omega
        · rw [huv m (by omega) c]
          by_cases c2 : j < m
          · rw [if_pos c2, if_pos (by omega)]; omega
          · rw [if_neg c2, if_neg (by omega)]; omega
    rw [e (Nat.le_refl _), if_pos hj]
  refine ⟨fun f f0 f1 => ?_, fun f g f0 f1 g0 g1 => ?_⟩
  · have q1 := (h.1 f f0 f1).1
    have q2 := h1 f f0 f1
    have q3 := sm (u := cH Y σ2 f) (v := cH Y σ f) (fun n hn hne => hH f n hn hne)
    omega
  · have q1 := (h.2 f g f0 f1 g0 g1).1
    have q2 := h2 f g f0 f1 g0 g1
    have q3 := sm (u := cU Y σ2 f g) (v := cU Y σ f g) (fun n hn hne => hU f g n hn hne)
    omega
theorem tx_eq (h : sgI σ2 (yp Y j) 12 = sgI σ (yp Y j) 12) : tx Y σ2 j x = tx Y σ j x := by
  unfold tx
  rw [h]
theorem tx_T (hL : LY Y σ) (hj : j < 12) : sgT σ (tx Y σ2 j x) = 13 := by
  have := c_and3 (sgI σ2 (yp Y j) 12 + x)
  exact ((hL.2.2.2.2.2.2.2.1 j hj).2.2 _ (by omega)).2
theorem siR1_eq (hV : VL cy ad τ Y σ) (hj : j < 12) (h : siR1 Y σ j) (h2 : sgR σ2 (yp Y j) 2 = sgR σ (yp Y j) 2) (h12 : sgI σ2 (yp Y j) 12 = sgI σ (yp Y j) 12) (h13 : sgI σ2 (yp Y j) 13 = sgI σ (yp Y j) 13) (h1 : agI σ σ2 8 1) (g1 : agI σ σ2 13 1) (g2 : agI σ σ2 13 2) : siR1 Y σ2 j := by
  intro e he hi x x0 x1
  rw [h2] at he
  rw [h1 _ (pi_en hV hj he)] at hi
  rw [h13] at x1
  rw [tx_eq h12, g1 _ (tx_T hV.2 hj), g2 _ (tx_T hV.2 hj)]
  exact h e he hi x x0 x1
theorem siR_eq (hV : VL cy ad τ Y σ) (h : siR Y σ) (h2 : agR σ σ2 11 2) (h12 : agI σ σ2 11 12) (h13 : agI σ σ2 11 13) (h1 : agI σ σ2 8 1) (g1 : agI σ σ2 13 1) (g2 : agI σ σ2 13 2) : siR Y σ2 := by
  intro j hj
  have t := (hV.2.2.2.2.2.2.2.1 j hj).1
  exact siR1_eq hV hj (h j hj) (h2 _ t) (h12 _ t) (h13 _ t) h1 g1 g2
theorem siD_eq (hL : LY Y σ) (h : siD Y σ B) (h0 : agI σ σ2 8 0) (h1 : agI σ σ2 8 1) (h6 : agI σ σ2 8 6) (h3 : ∀ i k, i < 16 → k < 3 → sgI σ2 (yr Y i k) 3 = sgI σ (yr Y i k) 3) : siD Y σ2 B := by
  intro i k hi hk
  have t := (hL.2.2.2.2.1 i k hi hk).1
  rw [h0 _ t, h1 _ t, h3 i k hi hk, h6 _ t]
  exact h i k hi hk
theorem siB_eq (h : siB Y σ B) (hX : sgI σ2 (yX Y) 7 = sgI σ (yX Y) 7) : siB Y σ2 B := by
  unfold siB
  rw [hX]
  exact h
theorem siB_up (h : siB Y σ B) (hB : B ≤ B2) : siB Y σ B2 := ⟨h.1, by have := h.2; omega⟩
theorem sX {k m : Nat} (hV : VL cy ad τ Y σ) (ht : ¬ sgT σ a = 15) : sgI (sgPI σ a k x) (yX Y) m = sgI σ (yX Y) m := by
  rw [sgI_PI, if_neg (fun z => ht (by rw [← z.1]; exact hV.2.1.1))]
theorem SI_up (h : SI Y σ B) (hB : B ≤ B2) : SI Y σ B2 := ⟨h.1, h.2.1, h.2.2.1, h.2.2.2.1, fun i k hi hk => ⟨fun q => by
  have := (h.2.2.2.2.1 i k hi hk).1 q
  omega, (h.2.2.2.2.1 i k hi hk).2⟩, siB_up h.2.2.2.2.2 hB⟩
/-- all that it reads is the same -/
theorem SI_eq (hV : VL cy ad τ Y σ) (h : SI Y σ B) (h7 : ∀ k, k = 7 ∨ k = 10 ∨ k = 11 ∨ k = 12 ∨ k = 13 → agI σ σ2 7 k) (h8 : agR σ σ2 7 8) (hX : agI σ σ2 15 1) (hX7 : agI σ σ2 15 7) (hp : ∀ k, k = 1 ∨ k = 2 → agR σ σ2 11 k) (hq : ∀ k, k = 4 ∨ k = 5 ∨ k = 12 ∨ k = 13 → agI σ σ2 11 k) (he : ∀ k, k = 0 ∨ k = 1 ∨ k = 3 ∨ k = 6 → agI σ σ2 8 k) (ht : ∀ k, k = 1 ∨ k = 2 → agI σ σ2 13 k) (hr : ∀ i k, i < 16 → k < 3 → sgI σ2 (yr Y i k) 3 = sgI σ (yr Y i k) 3) (hh : ∀ j, sgI σ2 (yh Y) j = sgI σ (yh Y) j) (hk : ∀ j, sgI σ2 (yk Y) j = sgI σ (yk Y) j) : SI Y σ2 B :=
  ⟨siT_eq hV.2 h.1 (h7 _ (by omega)) (h7 _ (by omega)) (h7 _ (by omega)) h8 hX, siP_eq hV.2 h.2.1 (h7 _ (by omega)) (hp _ (by omega)) (hp _ (by omega)) (hq _ (by omega)), sC_eq hV h.2.2.1 (fun j d hj hd => ⟨h7 11 (by omega) _ (pi_dv hV hj hd), h7 12 (by omega) _ (pi_dv hV hj hd)⟩) (fun j e hj hx => he 3 (by omega) _ (pi_en hV hj hx)) (hp _ (by omega)) (hp _ (by omega)) (hq _ (by omega)) (hq _ (by omega)) hh hk, siR_eq hV h.2.2.2.1 (hp _ (by omega)) (hq _ (by omega)) (hq _ (by omega)) (he _ (by omega)) (ht _ (by omega)) (ht _ (by omega)), siD_eq hV.2 h.2.2.2.2.1 (he _ (by omega)) (he _ (by omega)) (he _ (by omega)) hr, siB_eq h.2.2.2.2.2 (hX7 _ hV.2.1.1)⟩
/-- fields that it reads -/
def siF (t k : Nat) : Bool := [(7, 7), (7, 10), (7, 11), (7, 12), (7, 13), (15, 1), (15, 7), (11, 4), (11, 5), (11, 12), (11, 13), (8, 0), (8, 1), (8, 3), (8, 6), (13, 1), (13, 2), (6, 3)].contains (t, k)
/-- another field is written -/
theorem SI_PI (hV : VL cy ad τ Y σ) (h : SI Y σ B) (ht : sgT σ a = t) (hk : siF t k = false) (h1 : t < 100) : SI Y (sgPI σ a k x) B := by
  have q : ∀ t9 k9, siF t9 k9 = true → agI σ (sgPI σ a k x) t9 k9 := fun t9 k9 h9 => ag_I (Classical.byContradiction fun z => by
    have z1 : sgT σ a = t9 ∧ k9 = k := by
      constructor
      · exact Classical.byContradiction fun w => z (Or.inl w)
      · exact Classical.byContradiction fun w => z (Or.inr w)
    rw [← z1.1, ht, z1.2, hk] at h9
    cases h9)
  refine SI_eq hV h (fun k hk => q _ _ (by rcases hk with rfl | rfl | rfl | rfl | rfl <;> rfl)) ag_rI (q _ _ rfl) (q _ _ rfl) (fun _ _ => ag_rI) (fun k hk => q _ _ (by rcases hk with rfl | rfl | rfl | rfl <;> rfl)) (fun k hk => q _ _ (by rcases hk with rfl | rfl | rfl | rfl <;> rfl)) (fun k hk => q _ _ (by rcases hk with rfl | rfl <;> rfl)) (fun i k9 hi hk => q 6 3 rfl _ (hV.2.2.2.2.2.1 i k9 hi hk).2.2) (fun j => ?_) (fun j => ?_)
  · exact (ag_I (Or.inl (by rw [ht]; omega)) : agI σ (sgPI σ a k x) 100 j) _ hV.2.2.2.2.2.2.2.2.2.2.1.1
  · exact (ag_I (Or.inl (by rw [ht]; omega)) : agI σ (sgPI σ a k x) 100 j) _ hV.2.2.2.2.2.2.2.2.2.2.1.2.2.1
/-- a plugged device's state -/
theorem SI_st (hV : VL cy ad τ Y σ) (h : SI Y σ B) (hi : i < 16) (h1 : ¬ sgI σ (yd Y i) 7 = 117) (h2 : ¬ x = 117) (h3 : ¬ x = 110) : SI Y (sgPI σ (yd Y i) 7 x) B := by
  obtain ⟨⟨a1, a2, ⟨a3, a4, a5⟩, a6, a7, a8, a9⟩, b, c, d, e⟩ := h
  have tg := (hV.2.2.2.1 i hi).1
  have es : ∀ n, n < 16 → sgI (sgPI σ (yd Y i) 7 x) (yd Y n) 7 = if n = i then x else sgI σ (yd Y n) 7 := fun n hn => by
    rw [sgI_PI]
    by_cases z : n = i
    · rw [if_pos ⟨by rw [z], rfl⟩, if_pos z]
    · rw [if_neg (fun w => z (hV.2.2.2.2.2.2.2.2.2.2.2.1 n i hn hi w.1)), if_neg z]
  have eu : ∀ n, n < 16 → (sgI (sgPI σ (yd Y i) 7 x) (yd Y n) 7 = 117 ↔ sgI σ (yd Y n) 7 = 117) := fun n hn => by
    rw [es n hn]
    by_cases z : n = i
    · rw [if_pos z, z]
      exact ⟨fun w => absurd w h2, fun w => absurd w h1⟩
    · rw [if_neg z]
  have eo : ∀ b m, m ≠ 7 → sgI (sgPI σ (yd Y i) 7 x) b m = sgI σ b m := fun b m hm => c_nk hm
  refine ⟨⟨fun n hn h0 hs => ?_, fun n hn hs => ?_, ⟨?_, a4, ?_⟩, fun n hn hs => ?_, fun n hn hs => ?_, fun n hn hs => ?_, fun n m hn hm hs => ?_⟩, fun n hn => ?_, ?_, ?_, ?_, siB_eq e.2 (sX hV (by rw [tg]; decide))⟩
  · rw [eu n hn] at hs
    obtain ⟨h, q1, q2, q3, q4⟩ := a1 n hn h0 hs
    exact ⟨h, q1, q2, fun z => q3 ((eu h q1).mp z), by rw [eo _ _ (by decide), eo _ _ (by decide)]; exact q4⟩
  · exact a2 n hn ((eu n hn).mp hs)
  · exact fun z => a3 ((eu 0 (by decide)).mp z)
  · rw [eo _ _ (by decide)]; exact a5
  · rw [eu n hn] at hs
    rw [eo _ _ (by decide)]
    exact a6 n hn hs
  · rw [eo _ _ (by decide)] at hs
    exact (eu n hn).mpr (a7 n hn hs)
  · rw [eo _ _ (by decide)]
    rw [eu n hn, es n hn] at hs
    refine a8 n hn ?_
    rcases hs with hs | hs | hs
    · exact Or.inl hs
    · by_cases z : n = i
      · rw [if_pos z] at hs; exact absurd hs h3
      · rw [if_neg z] at hs; exact Or.inr (Or.inl hs)
    · exact Or.inr (Or.inr hs)
  · rw [eo _ _ (by decide)] at hs ⊢
    rw [eo _ _ (by decide)]
    exact a9 n m hn hm hs
  · exact siP1_eq hV.2 (b n hn) (fun i9 q1 q5 _ z => q5 ((eu i9 q1).mp z)) rfl rfl (eo _ _ (by decide))
  · exact sC_eq hV c (fun _ _ _ _ => ⟨eo _ _ (by decide), eo _ _ (by decide)⟩) (fun _ _ _ _ => eo _ _ (by decide)) ag_rI ag_rI (fun _ _ => eo _ _ (by decide)) (fun _ _ => eo _ _ (by decide)) (fun j => (ag_I (Or.inl (by rw [tg]; decide)) : agI σ _ 100 j) _ hV.2.2.2.2.2.2.2.2.2.2.1.1) (fun j => (ag_I (Or.inl (by rw [tg]; decide)) : agI σ _ 100 j) _ hV.2.2.2.2.2.2.2.2.2.2.1.2.2.1)
  · exact siR_eq hV d ag_rI (fun _ _ => eo _ _ (by decide)) (fun _ _ => eo _ _ (by decide)) (fun _ _ => eo _ _ (by decide)) (fun _ _ => eo _ _ (by decide)) (fun _ _ => eo _ _ (by decide))
  · exact siD_eq hV.2 e.1 (fun _ _ => eo _ _ (by decide)) (fun _ _ => eo _ _ (by decide)) (fun _ _ => eo _ _ (by decide)) (fun _ _ _ _ => eo _ _ (by decide))
end
end CSI
