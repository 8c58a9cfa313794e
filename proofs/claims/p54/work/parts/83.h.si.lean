section CLS3
/-! p54: states that differ in one cell -/
def oneC (a : Nat) (σ σ2 : SG) : Prop := (∀ b, sgT σ2 b = sgT σ b ∧ sgN σ2 b = sgN σ b) ∧ ∀ b k, b ≠ a → sgI σ2 b k = sgI σ b k ∧ sgR σ2 b k = sgR σ b k
theorem oneC_rf {a : Nat} {σ : SG} : oneC a σ σ := ⟨fun _ => ⟨rfl, rfl⟩, fun _ _ _ => ⟨rfl, rfl⟩⟩
theorem oneC_PI {a k : Nat} {x : Int32} {σ σ2 : SG} (h : oneC a σ σ2) : oneC a σ (sgPI σ2 a k x) := ⟨h.1, fun b j hb => ⟨by rw [sgI_PI, if_neg (fun z => hb z.1)]; exact (h.2 b j hb).1, (h.2 b j hb).2⟩⟩
theorem oneC_PR {a k : Nat} {x : Option Nat} {σ σ2 : SG} (h : oneC a σ σ2) : oneC a σ (sgPR σ2 a k x) := ⟨h.1, fun b j hb => ⟨(h.2 b j hb).1, by rw [sgR_PR, if_neg (fun z => hb z.1)]; exact (h.2 b j hb).2⟩⟩
/-- a device behind its leave -/
def gone (d : Nat) (σ σ2 : SG) : Prop := oneC d σ σ2 ∧ sgI σ2 d 7 = 117 ∧ sgR σ2 d 8 = none ∧ sgI σ2 d 10 = -1 ∧ sgI σ2 d 12 = -1 ∧ sgI σ2 d 13 = 0 ∧ (∀ k, k ≠ 8 → sgR σ2 d k = sgR σ d k) ∧ ∀ k, (k < 7 ∨ k = 9 ∨ k = 15 ∨ k = 17) → sgI σ2 d k = sgI σ d k
theorem c_nk {a k b j : Nat} {x : Int32} {σ : SG} (h : j ≠ k) : sgI (sgPI σ a k x) b j = sgI σ b j := by rw [sgI_PI, if_neg (fun z => h z.2)]
theorem c_IR {a k b j : Nat} {x : Option Nat} {σ : SG} : sgI (sgPR σ a k x) b j = sgI σ b j := rfl
theorem c_RI {a k b j : Nat} {x : Int32} {σ : SG} : sgR (sgPI σ a k x) b j = sgR σ b j := rfl
theorem gone_ok {d : Nat} {x : Int32} {σ : SG} : gone d σ (sgPI (sgPI (sgPI (sgPI (sgPI (sgPI (sgPR (sgPI σ d 7 117) d 8 none) d 10 (-1)) d 11 x) d 12 (-1)) d 13 0) d 14 (-1)) d 16 0) := by
  refine ⟨oneC_PI (oneC_PI (oneC_PI (oneC_PI (oneC_PI (oneC_PI (oneC_PR (oneC_PI oneC_rf))))))), ?_, ?_, ?_, ?_, ?_, fun k hk => ?_, fun k hk => ?_⟩
  · simp only [sgI_PI, c_IR]; simp
  · simp only [sgR_PR, c_RI]; simp
  · simp only [sgI_PI, c_IR]; simp
  · simp only [sgI_PI, c_IR]; simp
  · simp only [sgI_PI, c_IR]; simp
  · simp only [sgR_PR, c_RI]
    exact if_neg (fun z => hk z.2)
  · simp only [sgI_PI, c_IR]
    rw [if_neg (fun z => by omega), if_neg (fun z => by omega), if_neg (fun z => by omega), if_neg (fun z => by omega), if_neg (fun z => by omega), if_neg (fun z => by omega), if_neg (fun z => by omega)]
theorem c_and3 (x : Int32) : 0 ≤ (x &&& 3).toInt ∧ (x &&& 3).toInt ≤ 3 := by
  have h := vi_and_le x 3 (by decide)
  have e : (3 : Int32).toInt = 3 := rfl
  omega
theorem k_pe {cy : Nat → ClassId} {ad τ : List Nat} {Y : CY} {σ : SG} {j e : Nat} (hV : VL cy ad τ Y σ) (hj : j < 12) (he : sgR σ (yp Y j) 2 = some e) : sgT σ e = 8 := pi_en hV hj he
end CLS3
