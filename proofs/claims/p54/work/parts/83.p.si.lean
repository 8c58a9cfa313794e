section CLS7
/-- the same but for the events' cell, arrays of ints other than the reserved units', and the pipe p's row of transfers -/
def evJ (Y : CY) (p : Nat) (σ σ2 : SG) : Prop := (∀ a, sgT σ a ≠ 0 → sgT σ2 a = sgT σ a ∧ sgN σ2 a = sgN σ a) ∧
  (∀ a k t ci, sgT σ a = ci + 1 → ci + 1 < 100 → ci ≠ 8 → (sgC ci)[k]? = some t → t < 3 → (a ≠ p ∨ (k ≠ 12 ∧ k ≠ 13)) → sgI σ2 a k = sgI σ a k) ∧
  (∀ a k ci, sgT σ a = ci + 1 → ci + 1 < 100 → (sgC ci)[k]? = some 3 → sgR σ2 a k = sgR σ a k) ∧
  (∀ j, sgI σ2 (yh Y) j = sgI σ (yh Y) j) ∧ (∀ j, sgI σ2 (yk Y) j = sgI σ (yk Y) j) ∧ ∀ a t j, sgT σ a = 100 + t → sgIA t = false → sgR σ2 a j = sgR σ a j
theorem evJ_rf {Y : CY} {p : Nat} {σ : SG} : evJ Y p σ σ := ⟨fun _ _ => ⟨rfl, rfl⟩, fun _ _ _ _ _ _ _ _ _ _ => rfl, fun _ _ _ _ _ _ => rfl, fun _ => rfl, fun _ => rfl, fun _ _ _ _ _ => rfl⟩
theorem evJ_tr {Y : CY} {p : Nat} {σ σ1 σ2 : SG} (h : evJ Y p σ σ1) (h2 : evJ Y p σ1 σ2) : evJ Y p σ σ2 := by
  have t : ∀ {a n : Nat}, sgT σ a = n → n ≠ 0 → sgT σ1 a = n := fun h0 h1 => ((h.1 _ (by rw [h0]; exact h1)).1).trans h0
  refine ⟨fun a ha => ?_, fun a k t9 ci h0 h1 h8 h3 h4 h5 => ?_, fun a k ci h0 h1 h3 => ?_, fun j => (h2.2.2.2.1 j).trans (h.2.2.2.1 j), fun j => (h2.2.2.2.2.1 j).trans (h.2.2.2.2.1 j), fun a t9 j h0 h1 => ?_⟩
  · obtain ⟨e1, e2⟩ := h.1 a ha
    obtain ⟨e3, e4⟩ := h2.1 a (by rw [e1]; exact ha)
    exact ⟨e3.trans e1, e4.trans e2⟩
  · exact (h2.2.1 a k t9 ci (t h0 (by omega)) h1 h8 h3 h4 h5).trans (h.2.1 a k t9 ci h0 h1 h8 h3 h4 h5)
  · exact (h2.2.2.1 a k ci (t h0 (by omega)) h1 h3).trans (h.2.2.1 a k ci h0 h1 h3)
  · exact (h2.2.2.2.2.2 a t9 j (t h0 (by omega)) h1).trans (h.2.2.2.2.2 a t9 j h0 h1)
theorem evJ_PI {Y : CY} {p k : Nat} {x : Int32} {σ : SG} (hk : k = 12 ∨ k = 13) (h1 : p ≠ yh Y) (h2 : p ≠ yk Y) : evJ Y p σ (sgPI σ p k x) :=
  ⟨fun _ _ => ⟨rfl, rfl⟩, fun a k9 _ _ _ _ _ _ _ h5 => by rw [sgI_PI, if_neg (fun z => by rcases h5 with w | w; exact w z.1; omega)], fun _ _ _ _ _ _ => rfl, fun j => by rw [sgI_PI, if_neg (fun z => h1 z.1.symm)], fun j => by rw [sgI_PI, if_neg (fun z => h2 z.1.symm)], fun _ _ _ _ _ => rfl⟩
theorem evJ_drop {Y : CY} {p : Nat} {σ : SG} (h1 : p ≠ yh Y) (h2 : p ≠ yk Y) : evJ Y p σ (dropd p σ) := evJ_tr (evJ_PI (Or.inl rfl) h1 h2) (evJ_PI (Or.inr rfl) h1 h2)
theorem Mev_no {ci k d : Nat} (h : (ci, k, d) ∈ Mev) : (ci = 8 ∧ 4 ≤ k) ∨ ci = 200 := by
  simp only [Mev, List.mem_cons, Prod.mk.injEq, List.not_mem_nil, or_false] at h
  omega
theorem evJ_of {cy : Nat → ClassId} {ad τ : List Nat} {Y : CY} {p : Nat} {σ σ2 : SG} (hV : VL cy ad τ Y σ) (hV2 : VL cy ad τ Y σ2) (hk : vi_kept τ Mev (cwL cy ad σ) (cwL cy ad σ2)) : evJ Y p σ σ2 := by
  obtain ⟨LX, LD, Ld, LE, Le, LP9, Lp, Lt, LU, LA, Lz⟩ := hV.2
  obtain ⟨b1, x1, -, x2⟩ := VT_nn (ci := 13) (k := 0) (kd := 21) hV.1 LU.1 (by decide) rfl (by decide +kernel)
  obtain ⟨b2, y1, -, y2⟩ := VT_nn (ci := 13) (k := 1) (kd := 13) hV.1 LU.1 (by decide) rfl (by decide +kernel)
  have e1 : b1 = yh Y := Option.some.inj (x1.symm.trans LU.2.1)
  have e2 : b2 = yk Y := Option.some.inj (y1.symm.trans LU.2.2)
  subst e1
  rw [e2] at y2
  refine ⟨fun a ha => kp_T hV.1 hV2.1 ha, fun a k t ci h0 h1 h8 h3 h4 _ => kp_I hV.1 hV2.1 hk h0 h1 h3 h4 (fun d _ hd => by have := Mev_no hd; omega), fun a k ci h0 h1 h3 => kp_R hV.1 hV2.1 hk h0 h1 h3 (fun d _ hd => ?_), fun j => ?_, fun j => ?_, fun a t j h0 h1 => by rw [kp_aR hV.1 hV2.1 hk h0 h1]⟩
  · rcases Mev_no hd with ⟨rfl, h9⟩ | h9
    · match k, h9, h3 with
      | k + 4, _, h3 =>
        have h3 : ([0, 0, 0, 0, 0, 0] : List Nat)[k]? = some 3 := h3
        have := List.mem_of_getElem? h3
        simp at this
    · omega
  · rw [kp_aI (t := 0) (kd := 21) hV.1 hV2.1 hk LA.1 rfl x2 (fun hd => by have := Mev_no hd; simp [Mev] at hd)]
  · rw [kp_aI (t := 0) (kd := 13) hV.1 hV2.1 hk LA.2.2.1 rfl y2 (fun hd => by simp [Mev] at hd)]
end CLS7
