section CSI8
/-! p54: what is carried through a transaction -/
variable {cy : Nat → ClassId} {ad τ : List Nat} {Y : CY} {σ σ1 σ2 σ3 σ26 : SG} {B B2 n m : Int} {i j k h t T a b e d ci kd : Nat} {x y f g z p w : Int32} {M : List (Nat × Nat × Nat)}
def TA (Y : CY) (σ : SG) (j i k T : Nat) (n : Int) (w : Int32) : Prop := TQ Y σ j i k ∧ TP Y σ j i k T n ∧ sgI σ (ye Y i k) 1 = w
theorem TA_PI {t k9 : Nat} (hV : VL cy ad τ Y σ) (hj : j < 12) (hi : i < 16) (hk : k < 3) (hT : T < 4) (h : TA Y σ j i k T n w) (ht : sgT σ a = t) (hF : tqF t k9 = false) : TA Y (sgPI σ a k9 x) j i k T n w :=
  ⟨TQ_PI hV hj h.1 ht (fun z w => by subst z; subst w; cases hF), TP_PI hV hj hi hk hT h.2.1 ht hF, ((ag_F ht hF rfl : agI σ (sgPI σ a k9 x) 8 1) _ (hV.2.2.2.2.2.1 i k hi hk).1).trans h.2.2⟩
theorem TA_kept (hV : VL cy ad τ Y σ) (hV2 : VL cy ad τ Y σ2) (hk9 : vi_kept τ M (cwL cy ad σ) (cwL cy ad σ2)) (hM : SIM M = true) (hj : j < 12) (hi : i < 16) (hk : k < 3) (hT : T < 4) (h : TA Y σ j i k T n w) : TA Y σ2 j i k T n w :=
  ⟨TQ_kept hV hV2 hk9 hM hj h.1, TP_kept hV hV2 hk9 hM hj hi hk hT h.2.1, (SIM_I (ci := 7) hV hV2 hk9 hM rfl (by decide) rfl (by decide) _ (hV.2.2.2.2.2.1 i k hi hk).1).trans h.2.2⟩
theorem TA_ad (hV : VL cy ad τ Y σ) (hj : j < 12) (hi : i < 16) (hk : k < 3) (hT : T < 4) (ha : sgT σ a = 6) (hR : adR Y a σ σ2) (h : TA Y σ j i k T n w) : TA Y σ2 j i k T n w :=
  have te := (hV.2.2.2.2.2.1 i k hi hk).1
  ⟨TQ_ad hV hj ha hR h.1, TP_ad hV hj hi hk hT ha hR h.2.1, (hR.2.2.1 _ 1 (by rw [te]; decide) (Or.inl (fun z => by rw [z, ha] at te; exact absurd te (by decide)))).trans h.2.2⟩
theorem ta_of (_ : VL cy ad τ Y σ) (h : TA Y σ j i k T n w) : TA Y σ j i k T n w := h
theorem tq_of (_ : VL cy ad τ Y σ) (h : TQ Y σ j i k) : TQ Y σ j i k := h
theorem sn_of (hV : VL cy ad τ Y σ) : ∃ sn, sgR σ (yX Y) 12 = some sn ∧ sgT σ sn = 12 := by
  obtain ⟨sn, h1, h2, -⟩ := VT_nn (ci := 14) (k := 12) (kd := 20) hV.1 hV.2.1.1 (by decide) rfl (by decide +kernel)
  exact ⟨sn, h1, h2.trans (by decide)⟩
theorem fl_of (hV : VL cy ad τ Y σ) (ht : sgT σ e = 8) : ∃ b, sgR σ e 8 = some b ∧ sgT σ b = 10 ∧ ∃ q : Nat, τ[q]? = some 6 ∧ ad[q]? = some b := by
  obtain ⟨b, h1, h2, h3⟩ := VT_nn (ci := 7) (k := 8) (kd := 6) hV.1 ht (by decide) rfl (by decide +kernel)
  exact ⟨b, h1, h2.trans (by decide), h3⟩
def GP (Y : CY) (σ : SG) (i k : Nat) (n B : Int) : Prop := (sgI σ (yr Y i k) 3).toInt + n ≤ (sgI σ (ye Y i k) 6).toInt ∧ (sgI σ (ye Y i k) 6).toInt ≤ B ∧ 0 ≤ n
theorem gp_of (_ : VL cy ad τ Y σ) (h : GP Y σ i k n B) : GP Y σ i k n B := h
theorem vi_chr {alts : List VAlt} {alt : VAlt} {av : List Value} {w : va_W} {v : Option Value} (hall : (alts.all fun a => match a.1 with | b :: _ => (b.1 == 1) && (decide (0 ≤ b.2.1) && decide (b.2.2 ≤ 65535)) | [] => false) = true) (ha : alt ∈ alts) (h : vi_alt ad τ av w alt v) : ∃ z : Int32, v = some (.int z) ∧ sgF 1 z := by
  have h1 := List.all_eq_true.mp hall _ ha
  obtain ⟨ar, a2, a3, a4⟩ := alt
  rcases ar with _ | ⟨b, ar⟩
  · cases h1
  · obtain ⟨x, rfl, hx, -⟩ := h.1
    have h2 : ((b.1 == 1) && (decide (0 ≤ b.2.1) && decide (b.2.2 ≤ 65535))) = true := h1
    rw [Bool.and_eq_true, Bool.and_eq_true, decide_eq_true_eq, decide_eq_true_eq] at h2
    obtain ⟨y, e, y1, y2⟩ := vi_i (by simpa using h2.1) hx
    exact ⟨y, by rw [e], ⟨Int.le_trans h2.2.1 y1, Int.le_trans y2 h2.2.2⟩⟩
theorem flt_q3 {y x : Int32} {b : Nat} {r : Option Nat} : (3, Value.int y) :: List.filter (fun q => !(q.1 == 3) && !(q.1 + 1 == 3 && q.2.category == 2)) [(2, va_rf r), (1, Value.int x), (0, Value.ref b)] = [(3, Value.int y), (2, va_rf r), (1, Value.int x), (0, Value.ref b)] := by
  cases r <;> rfl
theorem flt_q4 {y x i3 : Int32} {b : Nat} {r : Option Nat} : (3, Value.int y) :: List.filter (fun q => !(q.1 == 3) && !(q.1 + 1 == 3 && q.2.category == 2)) [(2, va_rf r), (3, Value.int i3), (1, Value.int x), (0, Value.ref b)] = [(3, Value.int y), (2, va_rf r), (1, Value.int x), (0, Value.ref b)] := by
  cases r <;> rfl
/-- a frame more -/
theorem SI_fr (hV : VL cy ad τ Y σ) (h : SI Y σ B) (hB : B ≤ 1000000000) : SI Y (sgPI σ (yX Y) 7 (sgI σ (yX Y) 7 + 1)) (B + 100000) := by
  have q : ∀ t k, t ≠ 15 ∨ k ≠ 7 → agI σ (sgPI σ (yX Y) 7 (sgI σ (yX Y) 7 + 1)) t k := fun t k hh => ag_I (hh.elim (fun w => Or.inl (by rw [hV.2.1.1]; exact fun z => w z.symm)) Or.inr)
  have u := SI_up (B2 := B + 100000) h (by omega)
  have e1 : (1 : Int32).toInt = 1 := rfl
  have r := h.2.2.2.2.2
  have ev : (sgI σ (yX Y) 7 + 1).toInt = (sgI σ (yX Y) 7).toInt + 1 := by
    have r1 := r.1
    have r2 := r.2
    rw [i_add (by rw [e1]; omega) (by rw [e1]; omega), e1]
  refine ⟨siT_eq hV.2 u.1 (q 7 7 (by decide)) (q 7 10 (by decide)) (q 7 13 (by decide)) ag_rI (q 15 1 (by decide)), siP_eq hV.2 u.2.1 (q 7 7 (by decide)) ag_rI ag_rI (q 11 13 (by decide)), sC_eq hV u.2.2.1 (fun j d hj hd => ⟨q 7 11 (by decide) _ (pi_dv hV hj hd), q 7 12 (by decide) _ (pi_dv hV hj hd)⟩) (fun j e hj he => q 8 3 (by decide) _ (pi_en hV hj he)) ag_rI ag_rI (q 11 4 (by decide)) (q 11 5 (by decide)) (fun m => q 100 m (Or.inl (by decide)) _ hV.2.2.2.2.2.2.2.2.2.2.1.1) (fun m => q 100 m (Or.inl (by decide)) _ hV.2.2.2.2.2.2.2.2.2.2.1.2.2.1), siR_eq hV u.2.2.2.1 ag_rI (q 11 12 (by decide)) (q 11 13 (by decide)) (q 8 1 (by decide)) (q 13 1 (by decide)) (q 13 2 (by decide)), siD_eq hV.2 u.2.2.2.2.1 (q 8 0 (by decide)) (q 8 1 (by decide)) (q 8 6 (by decide)) (fun i k hi hk => q 6 3 (by decide) _ (hV.2.2.2.2.2.1 i k hi hk).2.2), ?_⟩
  unfold siB
  rw [show sgI (sgPI σ (yX Y) 7 (sgI σ (yX Y) 7 + 1)) (yX Y) 7 = sgI σ (yX Y) 7 + 1 from if_pos ⟨rfl, rfl⟩, ev]
  have r1 := r.1
  have r2 := r.2
  omega
theorem ln_rg (hV : VL cy ad τ Y σ) (ht : sgT σ a = 11) : 0 ≤ (sgI σ a 0).toInt ∧ (sgI σ a 0).toInt ≤ 11 := VT_in (ci := 10) (t := 0) hV.1 ht (by decide) rfl (by decide) (by decide +kernel)
end CSI8
