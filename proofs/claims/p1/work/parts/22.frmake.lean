abbrev HubW (cy : Nat → ClassId) (h0 q1 q2 q3 q4 q5 q6 q7 q8 q9 q10 q11 q12 q13 q14 q15 q16 q17 : Nat) (f g : Nat → Option Nat) : va_W := [(h0, .inr (14, [.ref q1, .int 0, .ref q2, .ref q3, .int 0, .ref q4, .int 11, .int 0, .ref q5, .ref q7, .ref q9, .ref q13, .ref q17])), (q1, .inl (cy 4, 16, .inr (.inr (.inr (.inr (f)))))), (q2, .inl (cy 0, 8, .inl (fun _ => 0))), (q3, .inl (cy 0, 8, .inl (fun _ => 0))), (q4, .inl (cy 6, 12, .inr (.inr (.inr (.inr (g)))))), (q5, .inr (5, [.ref q6, .int 0, .int 0, .int 0])), (q6, .inl (cy 0, 32, .inl (fun _ => 0))), (q7, .inr (5, [.ref q8, .int 0, .int 0, .int 0])), (q8, .inl (cy 0, 32, .inl (fun _ => 0))), (q9, .inr (13, [.ref q10, .ref q11, .int 0, .ref q12, .int 0])), (q10, .inl (cy 0, 8, .inl (fun _ => 0))), (q11, .inl (cy 0, 128, .inl (fun _ => 0))), (q12, .inl (cy 0, 16, .inl (fun _ => 0))), (q13, .inr (8, [.ref q14, .ref q15, .ref q16, .int 0, .int 0, .int 0, .int 0, .int 0, .int (-1), .int 0])), (q14, .inl (cy 1, 8, .inl (fun _ => 0))), (q15, .inl (cy 0, 8, .inl (fun _ => 0))), (q16, .inl (cy 0, 8, .inl (fun _ => 0))), (q17, .inr (11, [.int 0, .int 0, .int 0]))]
def fr_ad (h0 q1 q2 q3 q4 q5 q6 q7 q8 q9 q10 q11 q12 q13 q14 q15 q16 q17 : Nat) (Z : Nat → DevZ) (P : Nat → Nat × Nat) : Nat → Nat := fun n => if n < 18 then ([h0, q1, q2, q3, q4, q5, q6, q7, q8, q9, q10, q11, q12, q13, q14, q15, q16, q17] : List Nat).getD n 0 else if n < 116 then (Z (n - 100)).1 else if n < 136 then (Z (n - 120)).2.1 else if n < 156 then (Z (n - 140)).2.2.1 else if n < 264 then (Z ((n - 200) / 4)).2.2.2.2.1 ((n - 200) % 4) else if n < 364 then (Z ((n - 300) / 4)).2.2.2.2.2.1 ((n - 300) % 4) else if n < 564 then (Z ((n - 500) / 4)).2.2.2.2.2.2 ((n - 500) % 4) else if n < 612 then (P (n - 600)).1 else (P (n - 620)).2
theorem fr_ad_d (h0 q1 q2 q3 q4 q5 q6 q7 q8 q9 q10 q11 q12 q13 q14 q15 q16 q17 : Nat) (Z : Nat → DevZ) (P : Nat → Nat × Nat) {i : Nat} (hi : i < 16) : fr_ad h0 q1 q2 q3 q4 q5 q6 q7 q8 q9 q10 q11 q12 q13 q14 q15 q16 q17 Z P (100 + i) = (Z i).1 := by
  unfold fr_ad
  rw [if_neg (by omega), if_pos (by omega)]
  rw [Nat.add_sub_cancel_left]
theorem fr_ad_c (h0 q1 q2 q3 q4 q5 q6 q7 q8 q9 q10 q11 q12 q13 q14 q15 q16 q17 : Nat) (Z : Nat → DevZ) (P : Nat → Nat × Nat) {i : Nat} (hi : i < 16) : fr_ad h0 q1 q2 q3 q4 q5 q6 q7 q8 q9 q10 q11 q12 q13 q14 q15 q16 q17 Z P (120 + i) = (Z i).2.1 := by
  unfold fr_ad
  rw [if_neg (by omega), if_neg (by omega), if_pos (by omega)]
  rw [Nat.add_sub_cancel_left]
theorem fr_ad_e (h0 q1 q2 q3 q4 q5 q6 q7 q8 q9 q10 q11 q12 q13 q14 q15 q16 q17 : Nat) (Z : Nat → DevZ) (P : Nat → Nat × Nat) {i : Nat} (hi : i < 16) : fr_ad h0 q1 q2 q3 q4 q5 q6 q7 q8 q9 q10 q11 q12 q13 q14 q15 q16 q17 Z P (140 + i) = (Z i).2.2.1 := by
  unfold fr_ad
  rw [if_neg (by omega), if_neg (by omega), if_neg (by omega), if_pos (by omega)]
  rw [Nat.add_sub_cancel_left]
theorem fr_ad_ep (h0 q1 q2 q3 q4 q5 q6 q7 q8 q9 q10 q11 q12 q13 q14 q15 q16 q17 : Nat) (Z : Nat → DevZ) (P : Nat → Nat × Nat) {i j : Nat} (hi : i < 16) (hj : j < 3) : fr_ad h0 q1 q2 q3 q4 q5 q6 q7 q8 q9 q10 q11 q12 q13 q14 q15 q16 q17 Z P (200 + 4 * i + j) = (Z i).2.2.2.2.1 j := by
  unfold fr_ad
  rw [if_neg (by omega), if_neg (by omega), if_neg (by omega), if_neg (by omega), if_pos (by omega)]
  rw [show (200 + 4 * i + j - 200) / 4 = i by omega, show (200 + 4 * i + j - 200) % 4 = j by omega]
theorem fr_ad_eb (h0 q1 q2 q3 q4 q5 q6 q7 q8 q9 q10 q11 q12 q13 q14 q15 q16 q17 : Nat) (Z : Nat → DevZ) (P : Nat → Nat × Nat) {i j : Nat} (hi : i < 16) (hj : j < 3) : fr_ad h0 q1 q2 q3 q4 q5 q6 q7 q8 q9 q10 q11 q12 q13 q14 q15 q16 q17 Z P (300 + 4 * i + j) = (Z i).2.2.2.2.2.1 j := by
  unfold fr_ad
  rw [if_neg (by omega), if_neg (by omega), if_neg (by omega), if_neg (by omega), if_neg (by omega), if_pos (by omega)]
  rw [show (300 + 4 * i + j - 300) / 4 = i by omega, show (300 + 4 * i + j - 300) % 4 = j by omega]
theorem fr_ad_et (h0 q1 q2 q3 q4 q5 q6 q7 q8 q9 q10 q11 q12 q13 q14 q15 q16 q17 : Nat) (Z : Nat → DevZ) (P : Nat → Nat × Nat) {i j : Nat} (hi : i < 16) (hj : j < 3) : fr_ad h0 q1 q2 q3 q4 q5 q6 q7 q8 q9 q10 q11 q12 q13 q14 q15 q16 q17 Z P (500 + 4 * i + j) = (Z i).2.2.2.2.2.2 j := by
  unfold fr_ad
  rw [if_neg (by omega), if_neg (by omega), if_neg (by omega), if_neg (by omega), if_neg (by omega), if_neg (by omega), if_pos (by omega)]
  rw [show (500 + 4 * i + j - 500) / 4 = i by omega, show (500 + 4 * i + j - 500) % 4 = j by omega]
theorem fr_ad_p (h0 q1 q2 q3 q4 q5 q6 q7 q8 q9 q10 q11 q12 q13 q14 q15 q16 q17 : Nat) (Z : Nat → DevZ) (P : Nat → Nat × Nat) {i : Nat} (hi : i < 12) : fr_ad h0 q1 q2 q3 q4 q5 q6 q7 q8 q9 q10 q11 q12 q13 q14 q15 q16 q17 Z P (600 + i) = (P i).1 := by
  unfold fr_ad
  rw [if_neg (by omega), if_neg (by omega), if_neg (by omega), if_neg (by omega), if_neg (by omega), if_neg (by omega), if_neg (by omega), if_pos (by omega)]
  rw [Nat.add_sub_cancel_left]
theorem fr_ad_t (h0 q1 q2 q3 q4 q5 q6 q7 q8 q9 q10 q11 q12 q13 q14 q15 q16 q17 : Nat) (Z : Nat → DevZ) (P : Nat → Nat × Nat) {i : Nat} (hi : i < 12) : fr_ad h0 q1 q2 q3 q4 q5 q6 q7 q8 q9 q10 q11 q12 q13 q14 q15 q16 q17 Z P (620 + i) = (P i).2 := by
  unfold fr_ad
  rw [if_neg (by omega), if_neg (by omega), if_neg (by omega), if_neg (by omega), if_neg (by omega), if_neg (by omega), if_neg (by omega), if_neg (by omega)]
  rw [Nat.add_sub_cancel_left]
def fr_rw (f g : Nat → Option Nat) (Z : Nat → DevZ) : Nat → Nat → Option Nat := fun n => if n = 1 then f else if n = 4 then g else (Z (n - 140)).2.2.2.1
set_option maxHeartbeats 4000000 in
theorem fr_make {cy : Nat → ClassId} {A : Nat → Prop} {h0 q1 q2 q3 q4 q5 q6 q7 q8 q9 q10 q11 q12 q13 q14 q15 q16 q17 k0 : Nat} {f g : Nat → Option Nat} {wd : va_W} {Z : Nat → DevZ} {P : Nat → Nat × Nat} (hD : va_D A (HubW cy h0 q1 q2 q3 q4 q5 q6 q7 q8 q9 q10 q11 q12 q13 q14 q15 q16 q17 f g ++ wd)) (hZ : ∀ k, k < 16 → f k = some (Z k).1 ∧ DevW cy k (Z k) wd) (hQ : ∀ k, k < 12 → g k = some (P k).1 ∧ ((P k).1, PipC k (P k).2) ∈ wd) (hk0 : (HubW cy h0 q1 q2 q3 q4 q5 q6 q7 q8 q9 q10 q11 q12 q13 q14 q15 q16 q17 f g ++ wd)[k0]? = some ((Z 0).1, DevC 0 (Z 0).2.1 (Z 0).2.2.1 0 0 117 (-1))) : FrC cy (fr_ad h0 q1 q2 q3 q4 q5 q6 q7 q8 q9 q10 q11 q12 q13 q14 q15 q16 q17 Z P) (fr_rw f g Z) (((HubW cy h0 q1 q2 q3 q4 q5 q6 q7 q8 q9 q10 q11 q12 q13 q14 q15 q16 q17 f g ++ wd).set k0 ((Z 0).1, DevC 0 (Z 0).2.1 (Z 0).2.2.1 4 1 99 0)).set 0 (h0, .inr (14, [.ref q1, .int 1, .ref q2, .ref q3, .int 0, .ref q4, .int 11, .int 0, .ref q5, .ref q7, .ref q9, .ref q13, .ref q17]))) := by
  have hD1 : va_D A ((HubW cy h0 q1 q2 q3 q4 q5 q6 q7 q8 q9 q10 q11 q12 q13 q14 q15 q16 q17 f g ++ wd).set k0 ((Z 0).1, DevC 0 (Z 0).2.1 (Z 0).2.2.1 4 1 99 0)) := hD.set hk0
  have hh0 : ((HubW cy h0 q1 q2 q3 q4 q5 q6 q7 q8 q9 q10 q11 q12 q13 q14 q15 q16 q17 f g ++ wd).set k0 ((Z 0).1, DevC 0 (Z 0).2.1 (Z 0).2.2.1 4 1 99 0))[0]? = some (h0, .inr (14, [.ref q1, .int 0, .ref q2, .ref q3, .int 0, .ref q4, .int 11, .int 0, .ref q5, .ref q7, .ref q9, .ref q13, .ref q17])) := by
    rw [List.getElem?_set_ne]
    · rfl
    · intro e
      subst e
      have e1 := congrArg (fun x => my_cid x.2) (Option.some.inj hk0)
      exact absurd e1 (by show ¬ (14 : Nat) = 6; decide)
  have key : ∀ (b : Nat) (c : va_E), (b, c) ∈ HubW cy h0 q1 q2 q3 q4 q5 q6 q7 q8 q9 q10 q11 q12 q13 q14 q15 q16 q17 f g ++ wd → my_cid c ≠ 14 → (my_cid c = 6 → my_f0 c ≠ .int (nI 0)) → (b, c) ∈ (((HubW cy h0 q1 q2 q3 q4 q5 q6 q7 q8 q9 q10 q11 q12 q13 q14 q15 q16 q17 f g ++ wd).set k0 ((Z 0).1, DevC 0 (Z 0).2.1 (Z 0).2.2.1 4 1 99 0)).set 0 (h0, .inr (14, [.ref q1, .int 1, .ref q2, .ref q3, .int 0, .ref q4, .int 11, .int 0, .ref q5, .ref q7, .ref q9, .ref q13, .ref q17]))) := by
    intro b c hm h14 h6
    refine my_memset hD1 hh0 (my_memset hD hk0 hm ?_) ?_
    · intro e
      exact h6 (by rw [e]; rfl) (by rw [e]; rfl)
    · intro e
      exact h14 (by rw [e]; rfl)
  have inX : ∀ (n : Nat) (q : Nat × va_E), (HubW cy h0 q1 q2 q3 q4 q5 q6 q7 q8 q9 q10 q11 q12 q13 q14 q15 q16 q17 f g)[n]? = some q → q ∈ HubW cy h0 q1 q2 q3 q4 q5 q6 q7 q8 q9 q10 q11 q12 q13 q14 q15 q16 q17 f g ++ wd := fun n q h => List.mem_append_left _ (List.mem_of_getElem? h)
  have inD : ∀ q ∈ wd, q ∈ HubW cy h0 q1 q2 q3 q4 q5 q6 q7 q8 q9 q10 q11 q12 q13 q14 q15 q16 q17 f g ++ wd := fun q h => List.mem_append_right _ h
  have hz0 : 0 < 16 := by decide
  refine ⟨?_, ?_, ?_, ?_, ?_, ?_, ?_, ?_, ?_, ?_, ?_, ?_, ?_, ?_, ?_, ?_, ?_, ?_, ?_, ?_, ?_, ?_, ?_⟩
  · exact List.mem_of_getElem? (i := 0) (my_atset hh0)
  · exact key _ _ (inX 1 _ rfl) (by show ¬ _ = 14; first | decide | (simp [my_cid])) (fun z => absurd z (by first | decide | (simp [my_cid])))
  · exact fun j hj => by rw [fr_ad_d _ _ _ _ _ _ _ _ _ _ _ _ _ _ _ _ _ _ _ _ hj]; exact (hZ j hj).1
  · exact key _ _ (inX 2 _ rfl) (by show ¬ _ = 14; first | decide | (simp [my_cid])) (fun z => absurd z (by first | decide | (simp [my_cid])))
  · exact key _ _ (inX 3 _ rfl) (by show ¬ _ = 14; first | decide | (simp [my_cid])) (fun z => absurd z (by first | decide | (simp [my_cid])))
  · exact key _ _ (inX 4 _ rfl) (by show ¬ _ = 14; first | decide | (simp [my_cid])) (fun z => absurd z (by first | decide | (simp [my_cid])))
  · exact fun j hj => by rw [fr_ad_p _ _ _ _ _ _ _ _ _ _ _ _ _ _ _ _ _ _ _ _ hj]; exact (hQ j hj).1
  · exact key _ _ (inX 5 _ rfl) (by show ¬ _ = 14; first | decide | (simp [my_cid])) (fun z => absurd z (by first | decide | (simp [my_cid])))
  · exact key _ _ (inX 6 _ rfl) (by show ¬ _ = 14; first | decide | (simp [my_cid])) (fun z => absurd z (by first | decide | (simp [my_cid])))
  · exact key _ _ (inX 7 _ rfl) (by show ¬ _ = 14; first | decide | (simp [my_cid])) (fun z => absurd z (by first | decide | (simp [my_cid])))
  · exact key _ _ (inX 8 _ rfl) (by show ¬ _ = 14; first | decide | (simp [my_cid])) (fun z => absurd z (by first | decide | (simp [my_cid])))
  · exact key _ _ (inX 9 _ rfl) (by show ¬ _ = 14; first | decide | (simp [my_cid])) (fun z => absurd z (by first | decide | (simp [my_cid])))
  · exact key _ _ (inX 10 _ rfl) (by show ¬ _ = 14; first | decide | (simp [my_cid])) (fun z => absurd z (by first | decide | (simp [my_cid])))
  · exact key _ _ (inX 11 _ rfl) (by show ¬ _ = 14; first | decide | (simp [my_cid])) (fun z => absurd z (by first | decide | (simp [my_cid])))
  · exact key _ _ (inX 12 _ rfl) (by show ¬ _ = 14; first | decide | (simp [my_cid])) (fun z => absurd z (by first | decide | (simp [my_cid])))
  · exact key _ _ (inX 13 _ rfl) (by show ¬ _ = 14; first | decide | (simp [my_cid])) (fun z => absurd z (by first | decide | (simp [my_cid])))
  · exact key _ _ (inX 17 _ rfl) (by show ¬ _ = 14; first | decide | (simp [my_cid])) (fun z => absurd z (by first | decide | (simp [my_cid])))
  · have e1 := fr_ad_d h0 q1 q2 q3 q4 q5 q6 q7 q8 q9 q10 q11 q12 q13 q14 q15 q16 q17 Z P hz0
    have e2 := fr_ad_c h0 q1 q2 q3 q4 q5 q6 q7 q8 q9 q10 q11 q12 q13 q14 q15 q16 q17 Z P hz0
    have e3 := fr_ad_e h0 q1 q2 q3 q4 q5 q6 q7 q8 q9 q10 q11 q12 q13 q14 q15 q16 q17 Z P hz0
    have h1 : ((Z 0).1, DevC 0 (Z 0).2.1 (Z 0).2.2.1 4 1 99 0) ∈ (((HubW cy h0 q1 q2 q3 q4 q5 q6 q7 q8 q9 q10 q11 q12 q13 q14 q15 q16 q17 f g ++ wd).set k0 ((Z 0).1, DevC 0 (Z 0).2.1 (Z 0).2.2.1 4 1 99 0)).set 0 (h0, .inr (14, [.ref q1, .int 1, .ref q2, .ref q3, .int 0, .ref q4, .int 11, .int 0, .ref q5, .ref q7, .ref q9, .ref q13, .ref q17]))) := my_memset hD1 hh0 (List.mem_of_getElem? (i := k0) (my_atset hk0)) (by intro e; exact absurd (congrArg my_cid e) (by show ¬ (6 : Nat) = 14; decide))
    rw [← e1] at h1
    unfold DevC at h1
    rw [← e2, ← e3] at h1
    exact h1
  · exact fun i h1 hi => by
      have h := key _ _ (inD _ (hZ i hi).2.1) (by show ¬ (6 : Nat) = 14; decide) (fun _ z => absurd (Value.int.inj z) (fun z => absurd ((nI_eq (by omega) (by decide)).mp z) (by omega)))
      rw [fr_ad_d _ _ _ _ _ _ _ _ _ _ _ _ _ _ _ _ _ _ _ _ hi, fr_ad_c _ _ _ _ _ _ _ _ _ _ _ _ _ _ _ _ _ _ _ _ hi, fr_ad_e _ _ _ _ _ _ _ _ _ _ _ _ _ _ _ _ _ _ _ _ hi]
      exact h
  · exact fun i hi => by
      have h := key _ _ (inD _ (hZ i hi).2.2.1) (by show ¬ _ = 14; simp [my_cid]) (fun z => absurd z (by simp [my_cid]))
      have e1 : fr_rw f g Z (140 + i) = (Z i).2.2.2.1 := by unfold fr_rw; rw [if_neg (by omega), if_neg (by omega), Nat.add_sub_cancel_left]
      rw [fr_ad_e _ _ _ _ _ _ _ _ _ _ _ _ _ _ _ _ _ _ _ _ hi, e1]
      exact h
  · exact fun i j hi hj => by
      have e1 : fr_rw f g Z (140 + i) = (Z i).2.2.2.1 := by unfold fr_rw; rw [if_neg (by omega), if_neg (by omega), Nat.add_sub_cancel_left]
      rw [fr_ad_ep _ _ _ _ _ _ _ _ _ _ _ _ _ _ _ _ _ _ _ _ hi hj, e1]
      exact ((hZ i hi).2.2.2 j hj).1
  · exact fun i j hi hj => by
      have h := key _ _ (inD _ ((hZ i hi).2.2.2 j hj).2) (by show ¬ (7 : Nat) = 14; decide) (fun z => absurd z (by show ¬ (7 : Nat) = 6; decide))
      rw [fr_ad_ep _ _ _ _ _ _ _ _ _ _ _ _ _ _ _ _ _ _ _ _ hi hj, fr_ad_eb _ _ _ _ _ _ _ _ _ _ _ _ _ _ _ _ _ _ _ _ hi hj, fr_ad_et _ _ _ _ _ _ _ _ _ _ _ _ _ _ _ _ _ _ _ _ hi hj]
      exact h
  · exact fun i hi => by
      have h := key _ _ (inD _ (hQ i hi).2) (by show ¬ (10 : Nat) = 14; decide) (fun z => absurd z (by show ¬ (10 : Nat) = 6; decide))
      rw [fr_ad_p _ _ _ _ _ _ _ _ _ _ _ _ _ _ _ _ _ _ _ _ hi, fr_ad_t _ _ _ _ _ _ _ _ _ _ _ _ _ _ _ _ _ _ _ _ hi]
      exact h
