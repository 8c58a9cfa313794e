section MM24
section MM24A
variable {eda n S hw : Nat} {ia : Nat → Nat} {K : KM} {g : GH} {σ σ2 σ3 : SG} {x a k : Nat} {v : Int32}
/-- what is kept at an end -/
theorem inv_kp (h : Inv eda ia K g n S hw σ) (hx : sgT σ x = 17) (hv : gY g x ∨ v.toInt = -1 ∨ ∀ l, sgR σ x 3 = some l → gOw g l = x → 1 ≤ v.toInt ∧ v.toInt ≤ 8 ∧ v.toInt ≤ sgSz σ l ∧ sgT σ (gCp g x) = 18 ∧ ¬ sgI σ (gCp g x) 2 = 115) : Inv eda ia K g n S hw (sgPI σ x 4 v) := by
  have f : ∀ a j t, sgT σ a = t → t ≠ 17 ∨ j ≠ 4 → sgI (sgPI σ x 4 v) a j = sgI σ a j := fun a j t h1 h2 => by rw [sgI_PI, if_neg (fun z => by rcases h2 with h2 | h2; exact h2 (by rw [← h1, z.1]; exact hx); exact h2 z.2)]
  refine inv_ci (c2 := g.2.2.2.2.1) (y2 := g.2.2.2.2.2) h (fun _ _ => ⟨rfl, rfl⟩) (fun _ z => Or.inl z) (inv_LS h).2.2.2 (fun _ _ _ _ => rfl) (fun a ha => f a 2 5 ha (by decide)) (fun a ha => ⟨f a 0 17 ha (by decide), f a 1 17 ha (by decide)⟩) (fun a j ha _ => f a j 18 ha (Or.inl (by decide))) (fun a ha => ⟨f a 1 19 ha (by decide), Or.inl (f a 2 19 ha (by decide))⟩) (fun _ z => z) (fun y l hy h1 h2 => ?_) (Nat.le_refl _) ?_ (iO_tr h (fun _ => rfl) (fun _ _ => rfl) (fun _ _ => ⟨rfl, rfl⟩) (fun j p _ hp => hp) (fun p j hp _ => f p j 18 hp (Or.inl (by decide))) (fun _ _ => rfl) (fun e j x _ hx => hx) (fun d hd hu _ => by rw [f d 6 16 hd (by decide)]; exact hu)) (iR_tr h (fun _ _ => rfl) (fun _ _ z => z) (fun a j ha _ => f a j 16 ha (Or.inl (by decide))))
  · by_cases e : y = x
    · subst e
      have e4 : sgI (sgPI σ y 4 v) y 4 = v := by rw [sgI_PI, if_pos ⟨rfl, rfl⟩]
      rw [e4]
      rcases hv with hv | hv | hv
      · exact Or.inr (Or.inl hv)
      · exact Or.inr (Or.inr (Or.inl hv))
      · exact Or.inr (Or.inr (Or.inr (hv l h1 h2)))
    · exact Or.inl ⟨rfl, by rw [sgI_PI, if_neg (fun z => e z.1)]⟩
  · have hMi := (inv_M h).2.2
    unfold iMi at hMi ⊢
    rw [f _ 9 20 (inv_A h) (by decide), f _ 10 20 (inv_A h) (by decide), f _ 11 20 (inv_A h) (by decide)]
    exact hMi
theorem inv_kpB {D : va_G} {cy : Nat → ClassId} {s : State} {σ0 : SG} {H : Heap} {locs : List Loc} {N9 n9 : Nat} (_hB : sgB D cy s σ0 (sgPI σ x 4 v) H locs N9 n9) (h : Inv eda ia K g n S hw σ) (hx : sgT σ x = 17) (hv : gY g x ∨ v.toInt = -1 ∨ ∀ l, sgR σ x 3 = some l → gOw g l = x → 1 ≤ v.toInt ∧ v.toInt ≤ 8 ∧ v.toInt ≤ sgSz σ l ∧ sgT σ (gCp g x) = 18 ∧ ¬ sgI σ (gCp g x) 2 = 115) : Inv eda ia K g n S hw (sgPI σ x 4 v) := inv_kp h hx hv
theorem inv_pe6B {D : va_G} {cy : Nat → ClassId} {s : State} {σ0 : SG} {H : Heap} {locs : List Loc} {N9 n9 w : Nat} (_hB : sgB D cy s σ0 (sgPR σ (kA K) 6 (some w)) H locs N9 n9) (h : Inv eda ia K g n S hw σ) (hv : sgT σ w = 100 ∧ (sgN σ w = 0 ∨ sgN σ w = 3)) : Inv eda ia K g n S hw (sgPR σ (kA K) 6 (some w)) := inv_pe6 h hv
/-- devices stay as they are -/
def dFr (σ σ2 : SG) : Prop := tFr σ σ2 ∧ ∀ a k, sgT σ a = 16 → sgI σ2 a k = sgI σ a k ∧ sgR σ2 a k = sgR σ a k
theorem dFr_rf : dFr σ σ := ⟨tFr_rf, fun _ _ _ => ⟨rfl, rfl⟩⟩
theorem dFr_PI (h : dFr σ σ2) (ha : sgT σ a ≠ 16) : dFr σ (sgPI σ2 a k v) := ⟨h.1, fun b j hb => ⟨by rw [sgI_PI, if_neg (fun z => ha (by rw [← z.1]; exact hb))]; exact (h.2 b j hb).1, (h.2 b j hb).2⟩⟩
theorem dFr_Qt (h : dFr σ σ2) (hq : sgQt σ2 σ3) : dFr σ σ3 := ⟨tFr_tr h.1 (fun a ha => ⟨(hq.1 a ha).1, (hq.1 a ha).2.1⟩), fun a k ha => by
  obtain ⟨-, -, e⟩ := hq.1 a (by rw [tFr_T h.1 ha (by decide)]; decide)
  exact ⟨(e k).1.trans (h.2 a k ha).1, (e k).2.1.trans (h.2 a k ha).2⟩⟩
theorem dFr_st (h : Inv eda ia K g n S hw σ) (hd : dFr σ σ2) (hk : k < n) : iSt g σ2 k = iSt g σ k ∧ iHb g σ2 k = iHb g σ k := ⟨(hd.2 _ 6 (inv_dv h hk).2.1).1, congrArg Int32.toInt (hd.2 _ 7 (inv_dv h hk).2.1).1⟩
def cntA (f : Nat → Int) (a : Int) : Nat → Nat
  | 0 => 0
  | k + 1 => cntA f a k + (if a ≤ f k then 1 else 0)
theorem cntA_le (f : Nat → Int) (a : Int) : ∀ n, cntA f a n ≤ n
  | 0 => Nat.le_refl _
  | k + 1 => by
    have := cntA_le f a k
    show cntA f a k + (if a ≤ f k then 1 else 0) ≤ k + 1
    by_cases z : a ≤ f k
    · rw [if_pos z]; omega
    · rw [if_neg z]; omega
theorem cntA_mono (f : Nat → Int) (a : Int) : ∀ n, cntA f (a + 1) n ≤ cntA f a n
  | 0 => Nat.le_refl _
  | k + 1 => by
    have := cntA_mono f a k
    show cntA f (a + 1) k + (if a + 1 ≤ f k then 1 else 0) ≤ cntA f a k + (if a ≤ f k then 1 else 0)
    by_cases z : a + 1 ≤ f k
    · rw [if_pos z, if_pos (by omega)]; omega
    · rw [if_neg z]; omega
theorem cntA_lt (f : Nat → Int) (a : Int) : ∀ n, (∃ k, k < n ∧ f k = a) → cntA f (a + 1) n + 1 ≤ cntA f a n
  | 0, ⟨_, h, _⟩ => absurd h (Nat.not_lt_zero _)
  | k + 1, ⟨j, hj, e⟩ => by
    show cntA f (a + 1) k + (if a + 1 ≤ f k then 1 else 0) + 1 ≤ cntA f a k + (if a ≤ f k then 1 else 0)
    by_cases z : j = k
    · subst z
      have := cntA_mono f a j
      rw [if_neg (by omega), if_pos (by omega)]; omega
    · have := cntA_lt f a k ⟨j, by omega, e⟩
      by_cases w : a + 1 ≤ f k
      · rw [if_pos w, if_pos (by omega)]; omega
      · rw [if_neg w]; omega
end MM24A
theorem dX14_unplug_0 : decode cX14_unplug 0 = .ok (.aload_n 0, 1) := by decide +kernel
theorem dX14_unplug_1 : decode cX14_unplug 1 = .ok (.aload_n 0, 1) := by decide +kernel
theorem dX14_unplug_2 : decode cX14_unplug 2 = .ok (.iload_n 1, 1) := by decide +kernel
theorem dX14_unplug_3 : decode cX14_unplug 3 = .ok (.invokevirtual 149, 3) := by decide +kernel
theorem dX14_unplug_6 : decode cX14_unplug 6 = .ok (.ifCond .ne 7, 3) := by decide +kernel
theorem dX14_unplug_9 : decode cX14_unplug 9 = .ok (.iconst 1, 1) := by decide +kernel
theorem dX14_unplug_10 : decode cX14_unplug 10 = .ok (.goto 16, 3) := by decide +kernel
theorem dX14_unplug_13 : decode cX14_unplug 13 = .ok (.aload_n 0, 1) := by decide +kernel
theorem dX14_unplug_14 : decode cX14_unplug 14 = .ok (.iload_n 1, 1) := by decide +kernel
theorem dX14_unplug_15 : decode cX14_unplug 15 = .ok (.invokevirtual 93, 3) := by decide +kernel
theorem dX14_unplug_18 : decode cX14_unplug 18 = .ok (.ifCond .ne 7, 3) := by decide +kernel
theorem dX14_unplug_21 : decode cX14_unplug 21 = .ok (.iconst 2, 1) := by decide +kernel
theorem dX14_unplug_22 : decode cX14_unplug 22 = .ok (.goto 4, 3) := by decide +kernel
theorem dX14_unplug_25 : decode cX14_unplug 25 = .ok (.iconst 0, 1) := by decide +kernel
theorem dX14_unplug_26 : decode cX14_unplug 26 = .ok (.putfield 61, 3) := by decide +kernel
theorem dX14_unplug_29 : decode cX14_unplug 29 = .ok (.aload_n 0, 1) := by decide +kernel
theorem dX14_unplug_30 : decode cX14_unplug 30 = .ok (.getfield 61, 3) := by decide +kernel
theorem dX14_unplug_33 : decode cX14_unplug 33 = .ok (.ifCond .le 7, 3) := by decide +kernel
theorem dX14_unplug_36 : decode cX14_unplug 36 = .ok (.iconst 0, 1) := by decide +kernel
theorem dX14_unplug_37 : decode cX14_unplug 37 = .ok (.goto 9, 3) := by decide +kernel
theorem dX14_unplug_40 : decode cX14_unplug 40 = .ok (.aload_n 0, 1) := by decide +kernel
theorem dX14_unplug_41 : decode cX14_unplug 41 = .ok (.iload_n 1, 1) := by decide +kernel
theorem dX14_unplug_42 : decode cX14_unplug 42 = .ok (.iconst 1, 1) := by decide +kernel
theorem dX14_unplug_43 : decode cX14_unplug 43 = .ok (.invokevirtual 152, 3) := by decide +kernel
theorem dX14_unplug_46 : decode cX14_unplug 46 = .ok (.ireturn, 1) := by decide +kernel
set_option maxRecDepth 100000 in
set_option maxHeartbeats 4000000 in
theorem m_unplug (l : Launch) (D : va_G) (cy : Nat → ClassId) {eda ca : Nat} {ia : Nat → Nat} {σ : SG} {K : KM} {g : GH} {n S hw : Nat} (h : Inv eda ia K g n S hw σ) (hY : nY g) (x : Int32) (sz : Nat) : sgM l D cy eda ca ia σ sz yX14_unplug (Cond.code yX14_unplug cX14_unplug 2 (some .int) :: mWall) 10 244 13 124 [.ref (kA K), .int x] (fun v σ2 => (∃ y : Int32, v = some (.int y)) ∧ Inv eda ia K g n S hw σ2) := by
  refine sg_ofW (cc := cX14_unplug) (maxL := 2) (ret := (some .int)) (by decide) rfl (Nat.le_of_ble_eq_true rfl) (lv := [(0, .ref (kA K)), (1, .int x)]) rfl (fun p e s m below meth c ls H N hrt hnm F hB hl => ?_) sz
  have hx := F.1.1
  have hb := F.1.2.1
  have hown := F.1.2.2.2.1
  refine lv_aload_n hx hb dX14_unplug_0 rfl (lv_at hl 0 rfl) ?_
  refine lv_aload_n hx hb dX14_unplug_1 rfl (lv_at hl 0 rfl) ?_
  refine lv_iload_n hx hb dX14_unplug_2 rfl (lv_at hl 1 rfl) ?_
  refine sg_callV (ci := 19) F hB (m_isOther l D cy h x _) (cwV 1 F.1.2.2.2.2 (mgV (mm_6 _ (List.mem_of_getElem? (i := 6) rfl)) (mm_6 _ (List.mem_of_getElem? (i := 7) rfl)) (mm_6 _ (List.mem_of_getElem? (i := 8) rfl)) (mm_3 _ (List.mem_of_getElem? (i := 23) rfl)) (mm_6 _ (List.mem_of_getElem? (i := 5) rfl))) rfl rfl rfl ⟨rfl, by decide, by decide, by decide +kernel⟩ ⟨Nat.le_of_ble_eq_true rfl, Nat.le_of_ble_eq_true rfl⟩) rfl rfl (by decide) rfl hl.1 rfl (Nat.le_of_ble_eq_true rfl) dX14_unplug_3 (Nat.le_of_ble_eq_true rfl) (Nat.add_le_add_right (Nat.le_of_ble_eq_true rfl) _) (inv_A h) (fun H locs v σ3 N hBn hX3 hP => ?_)
  clear hB; have hB := hBn; clear hBn
  obtain ⟨b3, rfl, rfl, hb3⟩ := hP
  refine lv_if_ne (tgt := 13) hx hb dX14_unplug_6 (by decide) (fun c6 => ?_) (fun c6 => ?_)
  · have hx5 : 1 ≤ x.toInt ∧ x.toInt < n := sgb_t hb3 c6
    refine lv_aload_n hx hb dX14_unplug_13 rfl (lv_at hl 0 rfl) ?_
    refine lv_iload_n hx hb dX14_unplug_14 rfl (lv_at hl 1 rfl) ?_
    refine sg_callV (ci := 19) F hB (m_isPlugged l D cy h x (by omega) (by omega) _) (cwV 1 F.1.2.2.2.2 (mgV (mm_4 _ (List.mem_of_getElem? (i := 20) rfl)) (mm_4 _ (List.mem_of_getElem? (i := 21) rfl)) (mm_4 _ (List.mem_of_getElem? (i := 22) rfl)) (mm_3 _ (List.mem_of_getElem? (i := 23) rfl)) (mm_4 _ (List.mem_of_getElem? (i := 6) rfl))) rfl rfl rfl ⟨rfl, by decide, by decide, by decide +kernel⟩ ⟨Nat.le_of_ble_eq_true rfl, Nat.le_of_ble_eq_true rfl⟩) rfl rfl (by decide) rfl hl.1 rfl (Nat.le_of_ble_eq_true rfl) dX14_unplug_15 (Nat.le_of_ble_eq_true rfl) (Nat.add_le_add_right (Nat.le_of_ble_eq_true rfl) _) (inv_A h) (fun H locs v σ15 N hBn hX15 hP => ?_)
    clear hB; have hB := hBn; clear hBn
    obtain ⟨b15, rfl, rfl, hb15⟩ := hP
    refine lv_if_ne (tgt := 25) hx hb dX14_unplug_18 (by decide) (fun c18 => ?_) (fun c18 => ?_)
    · refine lv_iconst (v := 0) hx hb dX14_unplug_25 (by decide) ?_
      refine pf_X14_61 F hB dX14_unplug_26 (inv_A h) (fun H locs hBn => ?_)
      clear hB; have hB := hBn; clear hBn
      have hI26 := inv_PIc (t := 20) hB h (inv_A h) (by unfold iCn; omega)
      refine lv_aload_n hx hb dX14_unplug_29 rfl (lv_at hl 0 rfl) ?_
      refine gf_X14_61 F hB dX14_unplug_30 (inv_A hI26) ?_
      rw [sgI_PI, if_pos ⟨rfl, rfl⟩]
      refine lv_if_le (tgt := 40) hx hb dX14_unplug_33 (by decide) (fun c33 => ?_) (fun c33 => (by first | exact absurd c33 (by decide) | exact (c33 (by decide)).elim))
      refine lv_aload_n hx hb dX14_unplug_40 rfl (lv_at hl 0 rfl) ?_
      refine lv_iload_n hx hb dX14_unplug_41 rfl (lv_at hl 1 rfl) ?_
      refine lv_iconst (v := 1) hx hb dX14_unplug_42 (by decide) ?_
      refine sg_callV (ci := 19) F hB (m_unplugs l D cy hI26 hY x 1 hx5.1 hx5.2 _) (cwV 2 F.1.2.2.2.2 (mgV (mm_6 _ (List.mem_of_getElem? (i := 9) rfl)) (mm_6 _ (List.mem_of_getElem? (i := 10) rfl)) (mm_6 _ (List.mem_of_getElem? (i := 11) rfl)) (mm_3 _ (List.mem_of_getElem? (i := 23) rfl)) (mm_6 _ (List.mem_of_getElem? (i := 4) rfl))) rfl rfl rfl ⟨rfl, by decide, by decide, by decide +kernel⟩ ⟨Nat.le_of_ble_eq_true rfl, Nat.le_of_ble_eq_true rfl⟩) rfl rfl (by decide) rfl hl.1 rfl (Nat.le_of_ble_eq_true rfl) dX14_unplug_43 (Nat.le_of_ble_eq_true rfl) (Nat.add_le_add_right (Nat.le_of_ble_eq_true rfl) _) (inv_A hI26) (fun H locs v σ43 N hBn hX43 hP => ?_)
      clear hB; have hB := hBn; clear hBn
      obtain ⟨⟨w43, rfl⟩, hI43⟩ := hP
      exact sg_iret F hB hrt dX14_unplug_46 (by decide) (by decide) (⟨⟨_, rfl⟩, hI43⟩)
    · refine lv_iconst (v := 2) hx hb dX14_unplug_21 (by decide) ?_
      refine lv_goto (tgt := 26) hx hb dX14_unplug_22 (by decide) ?_
      refine pf_X14_61 F hB dX14_unplug_26 (inv_A h) (fun H locs hBn => ?_)
      clear hB; have hB := hBn; clear hBn
      have hI26 := inv_PIc (t := 20) hB h (inv_A h) (by unfold iCn; omega)
      refine lv_aload_n hx hb dX14_unplug_29 rfl (lv_at hl 0 rfl) ?_
      refine gf_X14_61 F hB dX14_unplug_30 (inv_A hI26) ?_
      rw [sgI_PI, if_pos ⟨rfl, rfl⟩]
      refine lv_if_le (tgt := 40) hx hb dX14_unplug_33 (by decide) (fun c33 => (by first | exact absurd c33 (by decide) | exact (c33 (by decide)).elim)) (fun c33 => ?_)
      refine lv_iconst (v := 0) hx hb dX14_unplug_36 (by decide) ?_
      refine lv_goto (tgt := 46) hx hb dX14_unplug_37 (by decide) ?_
      exact sg_iret F hB hrt dX14_unplug_46 (by decide) (by decide) (⟨⟨_, rfl⟩, hI26⟩)
  · refine lv_iconst (v := 1) hx hb dX14_unplug_9 (by decide) ?_
    refine lv_goto (tgt := 26) hx hb dX14_unplug_10 (by decide) ?_
    refine pf_X14_61 F hB dX14_unplug_26 (inv_A h) (fun H locs hBn => ?_)
    clear hB; have hB := hBn; clear hBn
    have hI26 := inv_PIc (t := 20) hB h (inv_A h) (by unfold iCn; omega)
    refine lv_aload_n hx hb dX14_unplug_29 rfl (lv_at hl 0 rfl) ?_
    refine gf_X14_61 F hB dX14_unplug_30 (inv_A hI26) ?_
    rw [sgI_PI, if_pos ⟨rfl, rfl⟩]
    refine lv_if_le (tgt := 40) hx hb dX14_unplug_33 (by decide) (fun c33 => (by first | exact absurd c33 (by decide) | exact (c33 (by decide)).elim)) (fun c33 => ?_)
    refine lv_iconst (v := 0) hx hb dX14_unplug_36 (by decide) ?_
    refine lv_goto (tgt := 46) hx hb dX14_unplug_37 (by decide) ?_
    exact sg_iret F hB hrt dX14_unplug_46 (by decide) (by decide) (⟨⟨_, rfl⟩, hI26⟩)
theorem dX14_close_0 : decode cX14_close 0 = .ok (.aload_n 0, 1) := by decide +kernel
theorem dX14_close_1 : decode cX14_close 1 = .ok (.iload_n 1, 1) := by decide +kernel
theorem dX14_close_2 : decode cX14_close 2 = .ok (.invokevirtual 293, 3) := by decide +kernel
theorem dX14_close_5 : decode cX14_close 5 = .ok (.ifCond .eq 7, 3) := by decide +kernel
theorem dX14_close_8 : decode cX14_close 8 = .ok (.iconst 0, 1) := by decide +kernel
theorem dX14_close_9 : decode cX14_close 9 = .ok (.goto 10, 3) := by decide +kernel
theorem dX14_close_12 : decode cX14_close 12 = .ok (.aload_n 0, 1) := by decide +kernel
theorem dX14_close_13 : decode cX14_close 13 = .ok (.iload_n 1, 1) := by decide +kernel
theorem dX14_close_14 : decode cX14_close 14 = .ok (.bipush 120, 2) := by decide +kernel
theorem dX14_close_16 : decode cX14_close 16 = .ok (.invokevirtual 136, 3) := by decide +kernel
theorem dX14_close_19 : decode cX14_close 19 = .ok (.ireturn, 1) := by decide +kernel
set_option maxRecDepth 100000 in
set_option maxHeartbeats 4000000 in
theorem m_close (l : Launch) (D : va_G) (cy : Nat → ClassId) {eda ca : Nat} {ia : Nat → Nat} {σ : SG} {K : KM} {g : GH} {n S hw : Nat} (h : Inv eda ia K g n S hw σ) (x : Int32) (sz : Nat) : sgM l D cy eda ca ia σ sz yX14_close (Cond.code yX14_close cX14_close 2 (some .int) :: mWall) 9 218 12 108 [.ref (kA K), .int x] (fun v σ2 => (∃ y : Int32, v = some (.int y)) ∧ Inv eda ia K g n S hw σ2) := by
  refine sg_ofW (cc := cX14_close) (maxL := 2) (ret := (some .int)) (by decide) rfl (Nat.le_of_ble_eq_true rfl) (lv := [(0, .ref (kA K)), (1, .int x)]) rfl (fun p e s m below meth c ls H N hrt hnm F hB hl => ?_) sz
  have hx := F.1.1
  have hb := F.1.2.1
  have hown := F.1.2.2.2.1
  refine lv_aload_n hx hb dX14_close_0 rfl (lv_at hl 0 rfl) ?_
  refine lv_iload_n hx hb dX14_close_1 rfl (lv_at hl 1 rfl) ?_
  refine sg_callV (ci := 19) F hB (m_noPipe l D cy h x _) (cwV 1 F.1.2.2.2.2 (mgV (mm_8 _ (List.mem_of_getElem? (i := 39) rfl)) (mm_9 _ (List.mem_of_getElem? (i := 0) rfl)) (mm_9 _ (List.mem_of_getElem? (i := 1) rfl)) (mm_3 _ (List.mem_of_getElem? (i := 23) rfl)) (mm_8 _ (List.mem_of_getElem? (i := 38) rfl))) rfl rfl rfl ⟨rfl, by decide, by decide, by decide +kernel⟩ ⟨Nat.le_of_ble_eq_true rfl, Nat.le_of_ble_eq_true rfl⟩) rfl rfl (by decide) rfl hl.1 rfl (Nat.le_of_ble_eq_true rfl) dX14_close_2 (Nat.le_of_ble_eq_true rfl) (Nat.add_le_add_right (Nat.le_of_ble_eq_true rfl) _) (inv_A h) (fun H locs v σ2 N hBn hX2 hP => ?_)
  clear hB; have hB := hBn; clear hBn
  obtain ⟨y2, b2, rfl, rfl, hb2⟩ := hP
  have hI2 := inv_th h y2
  refine lv_if_eq (tgt := 12) hx hb dX14_close_5 (by decide) (fun c5 => ?_) (fun c5 => ?_)
  · obtain ⟨hx5, pp, hpp⟩ := Classical.not_not.mp (sgb_f hb2 c5)
    have tp := inv_pp hI2 (j := x.toInt.toNat) (by omega) hpp
    obtain ⟨l1, pl1, tl, pl3, pl4, pl5, pl6⟩ := inv_pl hI2 tp
    obtain ⟨M, hM⟩ : ∃ M : Nat, M = min (sgSz (sgPI σ (kA K) 0 y2) l1) (6 - sgSz (sgPI σ (kA K) 0 y2) (kE K)) := ⟨_, rfl⟩
    refine lv_aload_n hx hb dX14_close_12 rfl (lv_at hl 0 rfl) ?_
    refine lv_iload_n hx hb dX14_close_13 rfl (lv_at hl 1 rfl) ?_
    refine lv_bipush (v := 120) hx hb dX14_close_14 (by decide) ?_
    refine sg_callV (ci := 19) F hB (m_closes l D cy hI2 x 120 (by omega) (by omega) (by exact hpp) pl1 hM _) (cwV 2 F.1.2.2.2.2 (mgV (mm_6 _ (List.mem_of_getElem? (i := 1) rfl)) (mm_6 _ (List.mem_of_getElem? (i := 2) rfl)) (mm_6 _ (List.mem_of_getElem? (i := 3) rfl)) (mm_3 _ (List.mem_of_getElem? (i := 23) rfl)) (mm_5 _ (List.mem_of_getElem? (i := 36) rfl))) rfl rfl rfl ⟨rfl, by decide, by decide, by decide +kernel⟩ ⟨Nat.le_of_ble_eq_true rfl, Nat.le_of_ble_eq_true rfl⟩) rfl rfl (by decide) rfl hl.1 rfl (Nat.le_of_ble_eq_true rfl) dX14_close_16 (Nat.le_trans (show _ ≤ 12 from by omega) (Nat.le_of_ble_eq_true rfl)) (Nat.add_le_add_right (Nat.le_trans (show _ ≤ 108 from by omega) (Nat.le_of_ble_eq_true rfl)) _) (inv_A hI2) (fun H locs v σ16 N hBn hX16 hP => ?_)
    clear hB; have hB := hBn; clear hBn
    refine W.widen (k := 12) (n := N) (show _ ≤ 12 from by omega) (Nat.le_refl _) ?_
    have hBn := sgB_up (n2 := 108) hB (show _ ≤ 108 from by omega)
    clear hB; have hB := hBn; clear hBn
    obtain ⟨⟨y16, rfl⟩, hI16, -⟩ := hP
    exact sg_iret F hB hrt dX14_close_19 (by decide) (by decide) (⟨⟨_, rfl⟩, hI16⟩)
  · refine lv_iconst (v := 0) hx hb dX14_close_8 (by decide) ?_
    refine lv_goto (tgt := 19) hx hb dX14_close_9 (by decide) ?_
    exact sg_iret F hB hrt dX14_close_19 (by decide) (by decide) (⟨⟨_, rfl⟩, hI2⟩)
theorem dX14_shut_0 : decode cX14_shut 0 = .ok (.aload_n 0, 1) := by decide +kernel
theorem dX14_shut_1 : decode cX14_shut 1 = .ok (.getfield 10, 3) := by decide +kernel
theorem dX14_shut_4 : decode cX14_shut 4 = .ok (.iload_n 1, 1) := by decide +kernel
theorem dX14_shut_5 : decode cX14_shut 5 = .ok (.invokevirtual 76, 3) := by decide +kernel
theorem dX14_shut_8 : decode cX14_shut 8 = .ok (.checkcast 48, 3) := by decide +kernel
theorem dX14_shut_11 : decode cX14_shut 11 = .ok (.bipush 115, 2) := by decide +kernel
theorem dX14_shut_13 : decode cX14_shut 13 = .ok (.putfield 53, 3) := by decide +kernel
theorem dX14_shut_16 : decode cX14_shut 16 = .ok (.aload_n 0, 1) := by decide +kernel
theorem dX14_shut_17 : decode cX14_shut 17 = .ok (.getfield 10, 3) := by decide +kernel
theorem dX14_shut_20 : decode cX14_shut 20 = .ok (.iload_n 1, 1) := by decide +kernel
theorem dX14_shut_21 : decode cX14_shut 21 = .ok (.invokevirtual 76, 3) := by decide +kernel
theorem dX14_shut_24 : decode cX14_shut 24 = .ok (.checkcast 48, 3) := by decide +kernel
theorem dX14_shut_27 : decode cX14_shut 27 = .ok (.dup, 1) := by decide +kernel
theorem dX14_shut_28 : decode cX14_shut 28 = .ok (.getfield 180, 3) := by decide +kernel
theorem dX14_shut_31 : decode cX14_shut 31 = .ok (.iconst 1, 1) := by decide +kernel
theorem dX14_shut_32 : decode cX14_shut 32 = .ok (.iadd, 1) := by decide +kernel
theorem dX14_shut_33 : decode cX14_shut 33 = .ok (.putfield 180, 3) := by decide +kernel
theorem dX14_shut_36 : decode cX14_shut 36 = .ok (.aload_n 0, 1) := by decide +kernel
theorem dX14_shut_37 : decode cX14_shut 37 = .ok (.iload_n 1, 1) := by decide +kernel
theorem dX14_shut_38 : decode cX14_shut 38 = .ok (.iconst 0, 1) := by decide +kernel
theorem dX14_shut_39 : decode cX14_shut 39 = .ok (.invokevirtual 152, 3) := by decide +kernel
theorem dX14_shut_42 : decode cX14_shut 42 = .ok (.istore_n 2, 1) := by decide +kernel
theorem dX14_shut_43 : decode cX14_shut 43 = .ok (.return_, 1) := by decide +kernel
set_option maxRecDepth 100000 in
set_option maxHeartbeats 4000000 in
theorem m_shut (l : Launch) (D : va_G) (cy : Nat → ClassId) {eda ca : Nat} {ia : Nat → Nat} {σ : SG} {K : KM} {g : GH} {n S hw : Nat} (h : Inv eda ia K g n S hw σ) (hY : nY g) (x : Int32) (hx1 : 1 ≤ x.toInt) (hx2 : x.toInt < n) (hu : ¬ iSt g σ x.toInt.toNat = 117) (sz : Nat) : sgM l D cy eda ca ia σ sz yX14_shut (Cond.code yX14_shut cX14_shut 3 none :: mWall) 10 244 13 124 [.ref (kA K), .int x] (fun v σ2 => v = none ∧ Inv eda ia K g n S hw σ2) := by
  refine sg_ofW (cc := cX14_shut) (maxL := 3) (ret := none) (by decide) rfl (Nat.le_of_ble_eq_true rfl) (lv := [(0, .ref (kA K)), (1, .int x)]) rfl (fun p e s m below meth c ls H N hrt hnm F hB hl => ?_) sz
  have hx := F.1.1
  have hb := F.1.2.1
  have hown := F.1.2.2.2.1
  refine lv_aload_n hx hb dX14_shut_0 rfl (lv_at hl 0 rfl) ?_
  refine gr_X14_10 F hB dX14_shut_1 (inv_A h) (inv_r1 h) ?_
  refine lv_iload_n hx hb dX14_shut_4 rfl (lv_at hl 1 rfl) ?_
  refine sg_callV (ci := 4) F hB (m_getD l D cy h x (by omega) (by omega) _) (cwV 1 F.1.2.2.2.2 (mgV (mm_4 _ (List.mem_of_getElem? (i := 3) rfl)) (mm_4 _ (List.mem_of_getElem? (i := 4) rfl)) (mm_4 _ (List.mem_of_getElem? (i := 5) rfl)) (mm_0 _ (List.mem_of_getElem? (i := 35) rfl)) (mm_3 _ (List.mem_of_getElem? (i := 34) rfl))) rfl rfl rfl ⟨rfl, by decide, by decide, by decide +kernel⟩ ⟨Nat.le_of_ble_eq_true rfl, Nat.le_of_ble_eq_true rfl⟩) rfl rfl (by decide) rfl hl.1 rfl (Nat.le_of_ble_eq_true rfl) dX14_shut_5 (Nat.le_of_ble_eq_true rfl) (Nat.add_le_add_right (Nat.le_of_ble_eq_true rfl) _) (inv_tD h).1 (fun H locs v σ5 N hBn hX5 hP => ?_)
  clear hB; have hB := hBn; clear hBn
  obtain ⟨rfl, rfl⟩ := hP
  have dv5 := (inv_dv h (k := (x : Int32).toInt.toNat) (by omega)).2.1
  refine va_castY hx hb hown (F.1.2.2.2.2 _ (List.mem_cons_of_mem _ (mm_4 _ (List.mem_of_getElem? (i := 2) rfl)))) (F.2.2.1.2.2 ("HubcascadeModel$Device", "HubcascadeModel$Device") (by decide +kernel)) (sg_recv (ci := 15) F.2.1 hB (by assumption) (by decide) rfl) dX14_shut_8 ?_
  refine lv_bipush (v := 115) hx hb dX14_shut_11 (by decide) ?_
  refine pf_X14_53 F hB dX14_shut_13 dv5 ⟨by decide, by decide⟩ (fun H locs hBn => ?_)
  clear hB; have hB := hBn; clear hBn
  have hI13 := inv_st (v := 115) h (k := x.toInt.toNat) (by omega) (by omega) (by decide) hu
  refine lv_aload_n hx hb dX14_shut_16 rfl (lv_at hl 0 rfl) ?_
  refine gr_X14_10 F hB dX14_shut_17 (inv_A hI13) (inv_r1 hI13) ?_
  refine lv_iload_n hx hb dX14_shut_20 rfl (lv_at hl 1 rfl) ?_
  refine sg_callV (ci := 4) F hB (m_getD l D cy hI13 x (by omega) (by omega) _) (cwV 1 F.1.2.2.2.2 (mgV (mm_4 _ (List.mem_of_getElem? (i := 3) rfl)) (mm_4 _ (List.mem_of_getElem? (i := 4) rfl)) (mm_4 _ (List.mem_of_getElem? (i := 5) rfl)) (mm_0 _ (List.mem_of_getElem? (i := 35) rfl)) (mm_3 _ (List.mem_of_getElem? (i := 34) rfl))) rfl rfl rfl ⟨rfl, by decide, by decide, by decide +kernel⟩ ⟨Nat.le_of_ble_eq_true rfl, Nat.le_of_ble_eq_true rfl⟩) rfl rfl (by decide) rfl hl.1 rfl (Nat.le_of_ble_eq_true rfl) dX14_shut_21 (Nat.le_of_ble_eq_true rfl) (Nat.add_le_add_right (Nat.le_of_ble_eq_true rfl) _) (inv_tD hI13).1 (fun H locs v σ21 N hBn hX21 hP => ?_)
  clear hB; have hB := hBn; clear hBn
  obtain ⟨rfl, rfl⟩ := hP
  have dv21 := (inv_dv hI13 (k := (x : Int32).toInt.toNat) (by omega)).2.1
  refine va_castY hx hb hown (F.1.2.2.2.2 _ (List.mem_cons_of_mem _ (mm_4 _ (List.mem_of_getElem? (i := 2) rfl)))) (F.2.2.1.2.2 ("HubcascadeModel$Device", "HubcascadeModel$Device") (by decide +kernel)) (sg_recv (ci := 15) F.2.1 hB (by assumption) (by decide) rfl) dX14_shut_24 ?_
  refine lv_dup hx hb dX14_shut_27 rfl ?_
  refine gf_X14_180 F hB dX14_shut_28 dv21 ?_
  refine lv_iconst (v := 1) hx hb dX14_shut_31 (by decide) ?_
  refine lv_iadd hx hb dX14_shut_32 ?_
  refine pf_X14_180 F hB dX14_shut_33 dv21 (fun H locs hBn => ?_)
  clear hB; have hB := hBn; clear hBn
  have hI33 := inv_PIc (t := 16) hB hI13 dv21 (by unfold iCn; omega)
  refine lv_aload_n hx hb dX14_shut_36 rfl (lv_at hl 0 rfl) ?_
  refine lv_iload_n hx hb dX14_shut_37 rfl (lv_at hl 1 rfl) ?_
  refine lv_iconst (v := 0) hx hb dX14_shut_38 (by decide) ?_
  refine sg_callV (ci := 19) F hB (m_unplugs l D cy hI33 hY x 0 hx1 hx2 _) (cwV 2 F.1.2.2.2.2 (mgV (mm_6 _ (List.mem_of_getElem? (i := 9) rfl)) (mm_6 _ (List.mem_of_getElem? (i := 10) rfl)) (mm_6 _ (List.mem_of_getElem? (i := 11) rfl)) (mm_3 _ (List.mem_of_getElem? (i := 23) rfl)) (mm_6 _ (List.mem_of_getElem? (i := 4) rfl))) rfl rfl rfl ⟨rfl, by decide, by decide, by decide +kernel⟩ ⟨Nat.le_of_ble_eq_true rfl, Nat.le_of_ble_eq_true rfl⟩) rfl rfl (by decide) rfl hl.1 rfl (Nat.le_of_ble_eq_true rfl) dX14_shut_39 (Nat.le_of_ble_eq_true rfl) (Nat.add_le_add_right (Nat.le_of_ble_eq_true rfl) _) (inv_A hI33) (fun H locs v σ39 N hBn hX39 hP => ?_)
  clear hB; have hB := hBn; clear hBn
  obtain ⟨⟨w39, rfl⟩, hI39⟩ := hP
  refine lv_istore_n (lv' := [(2, .int _), (0, .ref _), (1, .int _)]) hx hb dX14_shut_42 rfl hl (by decide) rfl (fun ls hl => ?_)
  exact sg_vret F hB hrt dX14_shut_43 (by decide) (by decide) (⟨rfl, hI39⟩)
theorem dX14_ring_0 : decode cX14_ring 0 = .ok (.iconst 0, 1) := by decide +kernel
theorem dX14_ring_1 : decode cX14_ring 1 = .ok (.istore_n 2, 1) := by decide +kernel
theorem dX14_ring_2 : decode cX14_ring 2 = .ok (.aload_n 0, 1) := by decide +kernel
theorem dX14_ring_3 : decode cX14_ring 3 = .ok (.iload_n 1, 1) := by decide +kernel
theorem dX14_ring_4 : decode cX14_ring 4 = .ok (.invokevirtual 293, 3) := by decide +kernel
theorem dX14_ring_7 : decode cX14_ring 7 = .ok (.ifCond .ne 61, 3) := by decide +kernel
theorem dX14_ring_10 : decode cX14_ring 10 = .ok (.aload_n 0, 1) := by decide +kernel
theorem dX14_ring_11 : decode cX14_ring 11 = .ok (.getfield 18, 3) := by decide +kernel
theorem dX14_ring_14 : decode cX14_ring 14 = .ok (.iload_n 1, 1) := by decide +kernel
theorem dX14_ring_15 : decode cX14_ring 15 = .ok (.aaload, 1) := by decide +kernel
theorem dX14_ring_16 : decode cX14_ring 16 = .ok (.getfield 199, 3) := by decide +kernel
theorem dX14_ring_19 : decode cX14_ring 19 = .ok (.invokevirtual 108, 3) := by decide +kernel
theorem dX14_ring_22 : decode cX14_ring 22 = .ok (.astore_n 3, 1) := by decide +kernel
theorem dX14_ring_23 : decode cX14_ring 23 = .ok (.aload_n 3, 1) := by decide +kernel
theorem dX14_ring_24 : decode cX14_ring 24 = .ok (.invokeinterface 112 1, 5) := by decide +kernel
theorem dX14_ring_29 : decode cX14_ring 29 = .ok (.ifCond .eq 39, 3) := by decide +kernel
theorem dX14_ring_32 : decode cX14_ring 32 = .ok (.aload_n 3, 1) := by decide +kernel
theorem dX14_ring_33 : decode cX14_ring 33 = .ok (.invokeinterface 118 1, 5) := by decide +kernel
theorem dX14_ring_38 : decode cX14_ring 38 = .ok (.checkcast 275, 3) := by decide +kernel
theorem dX14_ring_41 : decode cX14_ring 41 = .ok (.astore 4, 2) := by decide +kernel
theorem dX14_ring_43 : decode cX14_ring 43 = .ok (.iload_n 2, 1) := by decide +kernel
theorem dX14_ring_44 : decode cX14_ring 44 = .ok (.aload 4, 2) := by decide +kernel
theorem dX14_ring_46 : decode cX14_ring 46 = .ok (.getfield 310, 3) := by decide +kernel
theorem dX14_ring_49 : decode cX14_ring 49 = .ok (.ifCond .eq 7, 3) := by decide +kernel
theorem dX14_ring_52 : decode cX14_ring 52 = .ok (.iconst 0, 1) := by decide +kernel
theorem dX14_ring_53 : decode cX14_ring 53 = .ok (.goto 4, 3) := by decide +kernel
theorem dX14_ring_56 : decode cX14_ring 56 = .ok (.iconst 1, 1) := by decide +kernel
theorem dX14_ring_57 : decode cX14_ring 57 = .ok (.iadd, 1) := by decide +kernel
theorem dX14_ring_58 : decode cX14_ring 58 = .ok (.istore_n 2, 1) := by decide +kernel
theorem dX14_ring_59 : decode cX14_ring 59 = .ok (.aload 4, 2) := by decide +kernel
theorem dX14_ring_61 : decode cX14_ring 61 = .ok (.iconst 1, 1) := by decide +kernel
theorem dX14_ring_62 : decode cX14_ring 62 = .ok (.putfield 310, 3) := by decide +kernel
theorem dX14_ring_65 : decode cX14_ring 65 = .ok (.goto (-42), 3) := by decide +kernel
theorem dX14_ring_68 : decode cX14_ring 68 = .ok (.iload_n 2, 1) := by decide +kernel
theorem dX14_ring_69 : decode cX14_ring 69 = .ok (.ireturn, 1) := by decide +kernel
set_option maxRecDepth 100000 in
set_option maxHeartbeats 4000000 in
theorem m_ring (l : Launch) (D : va_G) (cy : Nat → ClassId) {eda ca : Nat} {ia : Nat → Nat} {σ : SG} {K : KM} {g : GH} {n S hw : Nat} (h : Inv eda ia K g n S hw σ) (x : Int32) (sz : Nat) : sgM l D cy eda ca ia σ sz yX14_ring (Cond.code yX14_ring cX14_ring 5 (some .int) :: mWall) 3 55 1 4 [.ref (kA K), .int x] (fun v σ2 => (∃ y : Int32, v = some (.int y)) ∧ Inv eda ia K g n S hw σ2) := by
  refine sg_ofW (cc := cX14_ring) (maxL := 5) (ret := (some .int)) (by decide) rfl (Nat.le_of_ble_eq_true rfl) (lv := [(0, .ref (kA K)), (1, .int x)]) rfl (fun p e s m below meth c ls H N hrt hnm F hB hl => ?_) sz
  have hx := F.1.1
  have hb := F.1.2.1
  have hown := F.1.2.2.2.1
  generalize hlo : ([] : List Loc) = locs at hB ⊢
  clear hlo
  refine lv_iconst (v := 0) hx hb dX14_ring_0 (by decide) ?_
  refine lv_istore_n (lv' := [(2, .int _), (0, .ref _), (1, .int _)]) hx hb dX14_ring_1 rfl hl (by decide) rfl (fun ls hl => ?_)
  refine lv_aload_n hx hb dX14_ring_2 rfl (lv_at hl 1 rfl) ?_
  refine lv_iload_n hx hb dX14_ring_3 rfl (lv_at hl 2 rfl) ?_
  refine sg_callV (ci := 19) F hB (m_noPipe l D cy h x _) (cwV 1 F.1.2.2.2.2 (mgV (mm_8 _ (List.mem_of_getElem? (i := 39) rfl)) (mm_9 _ (List.mem_of_getElem? (i := 0) rfl)) (mm_9 _ (List.mem_of_getElem? (i := 1) rfl)) (mm_3 _ (List.mem_of_getElem? (i := 23) rfl)) (mm_8 _ (List.mem_of_getElem? (i := 38) rfl))) rfl rfl rfl ⟨rfl, by decide, by decide, by decide +kernel⟩ ⟨Nat.le_of_ble_eq_true rfl, Nat.le_of_ble_eq_true rfl⟩) rfl rfl (by decide) rfl hl.1 rfl (Nat.le_of_ble_eq_true rfl) dX14_ring_4 (Nat.le_of_ble_eq_true rfl) (Nat.add_le_add_right (Nat.le_of_ble_eq_true rfl) _) (inv_A h) (fun H locs v σ4 N hBn hX4 hP => ?_)
  clear hB; have hB := hBn; clear hBn
  obtain ⟨y4, b4, rfl, rfl, hb4⟩ := hP
  have hI4 := inv_th h y4
  refine lv_if_ne (tgt := 68) hx hb dX14_ring_7 (by decide) (fun c7 => ?_) (fun c7 => ?_)
  · refine lv_iload_n hx hb dX14_ring_68 rfl (lv_at hl 0 rfl) ?_
    exact sg_iret F hB hrt dX14_ring_69 (by decide) (by decide) (⟨⟨_, rfl⟩, hI4⟩)
  · obtain ⟨hx5, pp, hpp⟩ := Classical.not_not.mp (sgb_f hb4 c7)
    have tp := inv_pp hI4 (j := x.toInt.toNat) (by omega) hpp
    obtain ⟨l1, pl1, tl, pl3, pl4, pl5, pl6⟩ := inv_pl hI4 tp
    refine lv_aload_n hx hb dX14_ring_10 rfl (lv_at hl 1 rfl) ?_
    refine gr_X14_18 F hB dX14_ring_11 (inv_A hI4) (inv_r2 hI4) ?_
    refine lv_iload_n hx hb dX14_ring_14 rfl (lv_at hl 2 rfl) ?_
    refine sg_aaldR 9 hx hb F.2.1 hB.1 rfl rfl dX14_ring_15 (inv_tP hI4).1 (by omega) (m_ltN (n := 12) (inv_tP hI4).2 (by omega)) (m_ltM (inv_tP hI4).2 (by decide)) hpp ?_
    refine gr_X14_199 F hB dX14_ring_16 tp pl1 ?_
    refine sg_callV (ci := 4) F hB (m_iter l D cy (by exact tl) _) (cwV 0 F.1.2.2.2.2 (mgV (mm_5 _ (List.mem_of_getElem? (i := 6) rfl)) (mm_5 _ (List.mem_of_getElem? (i := 7) rfl)) (mm_5 _ (List.mem_of_getElem? (i := 8) rfl)) (mm_0 _ (List.mem_of_getElem? (i := 35) rfl)) (mm_4 _ (List.mem_of_getElem? (i := 32) rfl))) rfl rfl rfl ⟨rfl, by decide, by decide, by decide +kernel⟩ ⟨Nat.le_of_ble_eq_true rfl, Nat.le_of_ble_eq_true rfl⟩) rfl rfl (by decide) rfl hl.1 rfl (Nat.le_of_ble_eq_true rfl) dX14_ring_19 (Nat.le_of_ble_eq_true rfl) (Nat.add_le_add_right (Nat.le_of_ble_eq_true rfl) _) tl (fun H locs v σ19 N hBn hX19 hP => ?_)
    clear hB; have hB := hBn; clear hBn
    obtain ⟨q19, rfl, hq19, hit19⟩ := hP
    have hI19 := inv_Qt hI4 hit19.1 (sg_eda F hB)
    have hf19 := itF_0 tl hit19
    refine lv_astore_n (lv' := [(3, .ref _), (2, .int _), (0, .ref _), (1, .int _)]) hx hb dX14_ring_22 rfl hl (by decide) rfl (fun ls hl => ?_)
    have key23 : ∃ (σ3 : SG) (j : Nat) (c1 : Int32), sgB D cy s σ σ3 H locs N 4 ∧ lv_has ls 5 [(3, .ref q19), (2, .int c1), (1, .int x), (0, .ref (kA K))] ∧ Inv eda ia K g n S hw σ3 ∧ itF l1 q19 j σ3 := ⟨_, 0, _, hB, (lv_sub hl [0, 1, 3, 2] rfl), hI19, hf19⟩
    clear hB hl
    obtain ⟨σ3, j, c1, hB, hl, hI3, hf3⟩ := key23
    obtain ⟨d23, hd23⟩ : ∃ d : Nat, d = sgSz σ3 l1 - j := ⟨_, rfl⟩
    induction d23 using Nat.strongRecOn generalizing H locs ls N σ3 j c1
    rename_i d23 ih23
    refine lv_aload_n hx hb dX14_ring_23 rfl (lv_at hl 0 rfl) ?_
    refine sg_callF (ci := 3) F hB (m_hasN l D cy hI3 hf3 _) (va_cwF 0 F.1.2.2.2.2 (mgF (mm_5 _ (List.mem_of_getElem? (i := 9) rfl)) (mm_5 _ (List.mem_of_getElem? (i := 10) rfl)) (mm_5 _ (List.mem_of_getElem? (i := 11) rfl)) (mm_4 _ (List.mem_of_getElem? (i := 35) rfl)) (mm_4 _ (List.mem_of_getElem? (i := 38) rfl))) rfl rfl rfl F.2.2.2.1.2.2.2.2.2.2.1 (by decide +kernel) ⟨Nat.le_of_ble_eq_true rfl, Nat.le_of_ble_eq_true rfl⟩) rfl rfl (by decide) rfl hl.1 rfl (Nat.le_of_ble_eq_true rfl) dX14_ring_24 (Nat.le_of_ble_eq_true rfl) (Nat.add_le_add_right (Nat.le_of_ble_eq_true rfl) _) hf3.1 (fun H locs v σ24 N hBn hX24 hP => ?_)
    clear hB; have hB := hBn; clear hBn
    obtain ⟨b24, rfl, rfl, hb24⟩ := hP
    refine lv_if_eq (tgt := 68) hx hb dX14_ring_29 (by decide) (fun c29 => ?_) (fun c29 => ?_)
    · refine lv_iload_n hx hb dX14_ring_68 rfl (lv_at hl 1 rfl) ?_
      exact sg_iret F hB hrt dX14_ring_69 (by decide) (by decide) (⟨⟨_, rfl⟩, hI3⟩)
    · refine lv_aload_n hx hb dX14_ring_32 rfl (lv_at hl 0 rfl) ?_
      refine sg_callF (ci := 3) F hB (m_nextI l D cy hI3 hf3 (sgb_t hb24 c29) _) (va_cwF 0 F.1.2.2.2.2 (mgF (mm_5 _ (List.mem_of_getElem? (i := 12) rfl)) (mm_5 _ (List.mem_of_getElem? (i := 13) rfl)) (mm_5 _ (List.mem_of_getElem? (i := 14) rfl)) (mm_4 _ (List.mem_of_getElem? (i := 35) rfl)) (mm_5 _ (List.mem_of_getElem? (i := 1) rfl))) rfl rfl rfl F.2.2.2.1.2.2.2.2.2.2.2.1 (by decide +kernel) ⟨Nat.le_of_ble_eq_true rfl, Nat.le_of_ble_eq_true rfl⟩) rfl rfl (by decide) rfl hl.1 rfl (Nat.le_of_ble_eq_true rfl) dX14_ring_33 (Nat.le_of_ble_eq_true rfl) (Nat.add_le_add_right (Nat.le_of_ble_eq_true rfl) _) hf3.1 (fun H locs v σ33 N hBn hX33 hP => ?_)
      clear hB; have hB := hBn; clear hBn
      obtain ⟨y33, rfl, ha33, hE33, hI33, hf33, hs33⟩ := hP
      have ty33 : sgT σ33 y33 = 19 := by
        unfold iEl at hE33
        rw [pl3] at hE33
        rw [← hs33]
        exact hE33.1
      refine va_castY hx hb hown (F.1.2.2.2.2 _ (List.mem_cons_of_mem _ (mm_5 _ (List.mem_of_getElem? (i := 25) rfl)))) (F.2.2.1.2.2 ("HubcascadeModel$Transfer", "HubcascadeModel$Transfer") (by decide +kernel)) (sg_recv (ci := 18) F.2.1 hB ty33 (by decide) rfl) dX14_ring_38 ?_
      refine lv_astore (lv' := [(4, .ref _), (3, .ref _), (2, .int _), (1, .int _), (0, .ref _)]) hx hb dX14_ring_41 hl (by decide) rfl (fun ls hl => ?_)
      refine lv_iload_n hx hb dX14_ring_43 rfl (lv_at hl 2 rfl) ?_
      refine lv_aload hx hb dX14_ring_44 (lv_at hl 0 rfl) ?_
      refine gf_X14_310 F hB dX14_ring_46 ty33 ?_
      refine lv_if_eq (tgt := 56) hx hb dX14_ring_49 (by decide) (fun c49 => ?_) (fun c49 => ?_)
      · refine lv_iconst (v := 1) hx hb dX14_ring_56 (by decide) ?_
        refine lv_iadd hx hb dX14_ring_57 ?_
        refine lv_istore_n (lv' := [(2, .int _), (4, .ref _), (3, .ref _), (1, .int _), (0, .ref _)]) hx hb dX14_ring_58 rfl hl (by decide) rfl (fun ls hl => ?_)
        refine lv_aload hx hb dX14_ring_59 (lv_at hl 1 rfl) ?_
        refine lv_iconst (v := 1) hx hb dX14_ring_61 (by decide) ?_
        refine pf_X14_310 F hB dX14_ring_62 ty33 ⟨by decide, by decide⟩ (fun H locs hBn => ?_)
        clear hB; have hB := hBn; clear hBn
        have hI62 := inv_PIc (t := 19) hB hI33 ty33 (by unfold iCn; omega)
        refine lv_goto (tgt := 23) hx hb dX14_ring_65 (by decide) ?_
        exact ih23 _ (by subst hd23; have := sgb_t hb24 c29; have e9 : sgSz (sgPI σ33 y33 3 1) l1 = sgSz σ3 l1 := (by rw [sgSz_nk (by decide), ← hs33, sgSz_nk (by decide), sgSz_nk (by decide)]); omega) _ _ _ _ _ _ _ hB (lv_sub hl [2, 0, 3, 4] rfl) hI62 (itF_PI hf33 (fun z => by have := hf33.1; rw [← z, ty33] at this; exact absurd this (by decide)) (fun z => by have := hf33.2.2.1; rw [← z, ty33] at this; exact absurd this (by decide))) rfl
      · refine lv_iconst (v := 0) hx hb dX14_ring_52 (by decide) ?_
        refine lv_goto (tgt := 57) hx hb dX14_ring_53 (by decide) ?_
        refine lv_iadd hx hb dX14_ring_57 ?_
        refine lv_istore_n (lv' := [(2, .int _), (4, .ref _), (3, .ref _), (1, .int _), (0, .ref _)]) hx hb dX14_ring_58 rfl hl (by decide) rfl (fun ls hl => ?_)
        refine lv_aload hx hb dX14_ring_59 (lv_at hl 1 rfl) ?_
        refine lv_iconst (v := 1) hx hb dX14_ring_61 (by decide) ?_
        refine pf_X14_310 F hB dX14_ring_62 ty33 ⟨by decide, by decide⟩ (fun H locs hBn => ?_)
        clear hB; have hB := hBn; clear hBn
        have hI62 := inv_PIc (t := 19) hB hI33 ty33 (by unfold iCn; omega)
        refine lv_goto (tgt := 23) hx hb dX14_ring_65 (by decide) ?_
        exact ih23 _ (by subst hd23; have := sgb_t hb24 c29; have e9 : sgSz (sgPI σ33 y33 3 1) l1 = sgSz σ3 l1 := (by rw [sgSz_nk (by decide), ← hs33, sgSz_nk (by decide), sgSz_nk (by decide)]); omega) _ _ _ _ _ _ _ hB (lv_sub hl [2, 0, 3, 4] rfl) hI62 (itF_PI hf33 (fun z => by have := hf33.1; rw [← z, ty33] at this; exact absurd this (by decide)) (fun z => by have := hf33.2.2.1; rw [← z, ty33] at this; exact absurd this (by decide))) rfl
theorem dX14_cancel_0 : decode cX14_cancel 0 = .ok (.aload_n 0, 1) := by decide +kernel
theorem dX14_cancel_1 : decode cX14_cancel 1 = .ok (.iload_n 1, 1) := by decide +kernel
theorem dX14_cancel_2 : decode cX14_cancel 2 = .ok (.invokevirtual 293, 3) := by decide +kernel
theorem dX14_cancel_5 : decode cX14_cancel 5 = .ok (.ifCond .eq 5, 3) := by decide +kernel
theorem dX14_cancel_8 : decode cX14_cancel 8 = .ok (.iconst 0, 1) := by decide +kernel
theorem dX14_cancel_9 : decode cX14_cancel 9 = .ok (.ireturn, 1) := by decide +kernel
theorem dX14_cancel_10 : decode cX14_cancel 10 = .ok (.aload_n 0, 1) := by decide +kernel
theorem dX14_cancel_11 : decode cX14_cancel 11 = .ok (.getfield 18, 3) := by decide +kernel
theorem dX14_cancel_14 : decode cX14_cancel 14 = .ok (.iload_n 1, 1) := by decide +kernel
theorem dX14_cancel_15 : decode cX14_cancel 15 = .ok (.aaload, 1) := by decide +kernel
theorem dX14_cancel_16 : decode cX14_cancel 16 = .ok (.astore_n 2, 1) := by decide +kernel
theorem dX14_cancel_17 : decode cX14_cancel 17 = .ok (.aload_n 0, 1) := by decide +kernel
theorem dX14_cancel_18 : decode cX14_cancel 18 = .ok (.aload_n 2, 1) := by decide +kernel
theorem dX14_cancel_19 : decode cX14_cancel 19 = .ok (.getfield 199, 3) := by decide +kernel
theorem dX14_cancel_22 : decode cX14_cancel 22 = .ok (.invokevirtual 202, 3) := by decide +kernel
theorem dX14_cancel_25 : decode cX14_cancel 25 = .ok (.ifCond .eq 7, 3) := by decide +kernel
theorem dX14_cancel_28 : decode cX14_cancel 28 = .ok (.iconst 2, 1) := by decide +kernel
theorem dX14_cancel_29 : decode cX14_cancel 29 = .ok (.goto 4, 3) := by decide +kernel
theorem dX14_cancel_32 : decode cX14_cancel 32 = .ok (.iconst 0, 1) := by decide +kernel
theorem dX14_cancel_33 : decode cX14_cancel 33 = .ok (.putfield 61, 3) := by decide +kernel
theorem dX14_cancel_36 : decode cX14_cancel 36 = .ok (.aload_n 0, 1) := by decide +kernel
theorem dX14_cancel_37 : decode cX14_cancel 37 = .ok (.getfield 61, 3) := by decide +kernel
theorem dX14_cancel_40 : decode cX14_cancel 40 = .ok (.ifCond .le 5, 3) := by decide +kernel
theorem dX14_cancel_43 : decode cX14_cancel 43 = .ok (.iconst 0, 1) := by decide +kernel
theorem dX14_cancel_44 : decode cX14_cancel 44 = .ok (.ireturn, 1) := by decide +kernel
theorem dX14_cancel_45 : decode cX14_cancel 45 = .ok (.aload_n 2, 1) := by decide +kernel
theorem dX14_cancel_46 : decode cX14_cancel 46 = .ok (.getfield 199, 3) := by decide +kernel
theorem dX14_cancel_49 : decode cX14_cancel 49 = .ok (.iconst 0, 1) := by decide +kernel
theorem dX14_cancel_50 : decode cX14_cancel 50 = .ok (.invokevirtual 76, 3) := by decide +kernel
theorem dX14_cancel_53 : decode cX14_cancel 53 = .ok (.checkcast 275, 3) := by decide +kernel
theorem dX14_cancel_56 : decode cX14_cancel 56 = .ok (.getfield 284, 3) := by decide +kernel
theorem dX14_cancel_59 : decode cX14_cancel 59 = .ok (.istore_n 3, 1) := by decide +kernel
theorem dX14_cancel_60 : decode cX14_cancel 60 = .ok (.aload_n 2, 1) := by decide +kernel
theorem dX14_cancel_61 : decode cX14_cancel 61 = .ok (.iconst 0, 1) := by decide +kernel
theorem dX14_cancel_62 : decode cX14_cancel 62 = .ok (.putfield 316, 3) := by decide +kernel
theorem dX14_cancel_65 : decode cX14_cancel 65 = .ok (.aload_n 0, 1) := by decide +kernel
theorem dX14_cancel_66 : decode cX14_cancel 66 = .ok (.iload_n 1, 1) := by decide +kernel
theorem dX14_cancel_67 : decode cX14_cancel 67 = .ok (.bipush 120, 2) := by decide +kernel
theorem dX14_cancel_69 : decode cX14_cancel 69 = .ok (.invokevirtual 290, 3) := by decide +kernel
theorem dX14_cancel_72 : decode cX14_cancel 72 = .ok (.iload_n 3, 1) := by decide +kernel
theorem dX14_cancel_73 : decode cX14_cancel 73 = .ok (.ireturn, 1) := by decide +kernel
set_option maxRecDepth 100000 in
set_option maxHeartbeats 4000000 in
theorem m_cancel (l : Launch) (D : va_G) (cy : Nat → ClassId) {eda ca : Nat} {ia : Nat → Nat} {σ : SG} {K : KM} {g : GH} {n S hw : Nat} (h : Inv eda ia K g n S hw σ) (x : Int32) (sz : Nat) : sgM l D cy eda ca ia σ sz yX14_cancel (Cond.code yX14_cancel cX14_cancel 4 (some .int) :: mWall) 8 194 2 18 [.ref (kA K), .int x] (fun v σ2 => (∃ y : Int32, v = some (.int y)) ∧ Inv eda ia K g n S hw σ2) := by
  refine sg_ofW (cc := cX14_cancel) (maxL := 4) (ret := (some .int)) (by decide) rfl (Nat.le_of_ble_eq_true rfl) (lv := [(0, .ref (kA K)), (1, .int x)]) rfl (fun p e s m below meth c ls H N hrt hnm F hB hl => ?_) sz
  have hx := F.1.1
  have hb := F.1.2.1
  have hown := F.1.2.2.2.1
  refine lv_aload_n hx hb dX14_cancel_0 rfl (lv_at hl 0 rfl) ?_
  refine lv_iload_n hx hb dX14_cancel_1 rfl (lv_at hl 1 rfl) ?_
  refine sg_callV (ci := 19) F hB (m_noPipe l D cy h x _) (cwV 1 F.1.2.2.2.2 (mgV (mm_8 _ (List.mem_of_getElem? (i := 39) rfl)) (mm_9 _ (List.mem_of_getElem? (i := 0) rfl)) (mm_9 _ (List.mem_of_getElem? (i := 1) rfl)) (mm_3 _ (List.mem_of_getElem? (i := 23) rfl)) (mm_8 _ (List.mem_of_getElem? (i := 38) rfl))) rfl rfl rfl ⟨rfl, by decide, by decide, by decide +kernel⟩ ⟨Nat.le_of_ble_eq_true rfl, Nat.le_of_ble_eq_true rfl⟩) rfl rfl (by decide) rfl hl.1 rfl (Nat.le_of_ble_eq_true rfl) dX14_cancel_2 (Nat.le_of_ble_eq_true rfl) (Nat.add_le_add_right (Nat.le_of_ble_eq_true rfl) _) (inv_A h) (fun H locs v σ2 N hBn hX2 hP => ?_)
  clear hB; have hB := hBn; clear hBn
  obtain ⟨y2, b2, rfl, rfl, hb2⟩ := hP
  have hI2 := inv_th h y2
  refine lv_if_eq (tgt := 10) hx hb dX14_cancel_5 (by decide) (fun c5 => ?_) (fun c5 => ?_)
  · obtain ⟨hx5, pp, hpp⟩ := Classical.not_not.mp (sgb_f hb2 c5)
    have tp := inv_pp hI2 (j := x.toInt.toNat) (by omega) hpp
    obtain ⟨l1, pl1, tl, pl3, pl4, pl5, pl6⟩ := inv_pl hI2 tp
    refine lv_aload_n hx hb dX14_cancel_10 rfl (lv_at hl 0 rfl) ?_
    refine gr_X14_18 F hB dX14_cancel_11 (inv_A hI2) (inv_r2 hI2) ?_
    refine lv_iload_n hx hb dX14_cancel_14 rfl (lv_at hl 1 rfl) ?_
    refine sg_aaldR 9 hx hb F.2.1 hB.1 rfl rfl dX14_cancel_15 (inv_tP hI2).1 (by omega) (m_ltN (n := 12) (inv_tP hI2).2 (by omega)) (m_ltM (inv_tP hI2).2 (by decide)) hpp ?_
    refine lv_astore_n (lv' := [(2, .ref _), (0, .ref _), (1, .int _)]) hx hb dX14_cancel_16 rfl hl (by decide) rfl (fun ls hl => ?_)
    refine lv_aload_n hx hb dX14_cancel_17 rfl (lv_at hl 1 rfl) ?_
    refine lv_aload_n hx hb dX14_cancel_18 rfl (lv_at hl 0 rfl) ?_
    refine gr_X14_199 F hB dX14_cancel_19 tp pl1 ?_
    refine sg_callV (ci := 4) F hB (m_isEmpty l D cy (by exact tl) _) (cwV 0 F.1.2.2.2.2 (mgV (mm_7 _ (List.mem_of_getElem? (i := 8) rfl)) (mm_7 _ (List.mem_of_getElem? (i := 9) rfl)) (mm_7 _ (List.mem_of_getElem? (i := 10) rfl)) (mm_0 _ (List.mem_of_getElem? (i := 35) rfl)) (mm_7 _ (List.mem_of_getElem? (i := 7) rfl))) rfl rfl rfl ⟨rfl, by decide, by decide, by decide +kernel⟩ ⟨Nat.le_of_ble_eq_true rfl, Nat.le_of_ble_eq_true rfl⟩) rfl rfl (by decide) rfl hl.1 rfl (Nat.le_of_ble_eq_true rfl) dX14_cancel_22 (Nat.le_of_ble_eq_true rfl) (Nat.add_le_add_right (Nat.le_of_ble_eq_true rfl) _) tl (fun H locs v σ22 N hBn hX22 hP => ?_)
    clear hB; have hB := hBn; clear hBn
    obtain ⟨b22, rfl, rfl, hb22⟩ := hP
    refine lv_if_eq (tgt := 32) hx hb dX14_cancel_25 (by decide) (fun c25 => ?_) (fun c25 => ?_)
    · refine lv_iconst (v := 0) hx hb dX14_cancel_32 (by decide) ?_
      refine pf_X14_61 F hB dX14_cancel_33 (inv_A hI2) (fun H locs hBn => ?_)
      clear hB; have hB := hBn; clear hBn
      have hI33 := inv_PIc (t := 20) hB hI2 (inv_A hI2) (by unfold iCn; omega)
      refine lv_aload_n hx hb dX14_cancel_36 rfl (lv_at hl 1 rfl) ?_
      refine gf_X14_61 F hB dX14_cancel_37 (inv_A hI33) ?_
      rw [sgI_PI, if_pos ⟨rfl, rfl⟩]
      refine lv_if_le (tgt := 45) hx hb dX14_cancel_40 (by decide) (fun c40 => ?_) (fun c40 => (by first | exact absurd c40 (by decide) | exact (c40 (by decide)).elim))
      have h01 := sgb_f hb22 c25
      obtain ⟨w1, w2, -⟩ := inv_lsz hI33 tl
      have h02a : 0 < sgSz (sgPI (sgPI σ (kA K) 0 y2) (kA K) 0 0) l1 := by
        have e9 : sgI (sgPI (sgPI σ (kA K) 0 y2) (kA K) 0 0) l1 2 = sgI (sgPI σ (kA K) 0 y2) l1 2 := sgI_nk (by decide)
        rw [e9] at w1
        omega
      have h00 : (0 : Int32).toInt < sgSz (sgPI (sgPI σ (kA K) 0 y2) (kA K) 0 0) l1 := by rw [m_i0]; omega
      obtain ⟨t0, hy0, hE0⟩ := inv_L hI33 l1 tl 0 h02a
      have tt0 : sgT (sgPI (sgPI σ (kA K) 0 y2) (kA K) 0 0) t0 = 19 := by unfold iEl at hE0; rw [pl3] at hE0; exact hE0.1
      refine lv_aload_n hx hb dX14_cancel_45 rfl (lv_at hl 0 rfl) ?_
      refine gr_X14_199 F hB dX14_cancel_46 (by exact tp) (by exact pl1) ?_
      refine lv_iconst (v := 0) hx hb dX14_cancel_49 (by decide) ?_
      refine sg_callV (ci := 4) F hB (m_getL l D cy (inv_LS hI33) (by exact tl) id 0 (by decide) h00 hy0 _) (cwV 1 F.1.2.2.2.2 (mgV (mm_4 _ (List.mem_of_getElem? (i := 3) rfl)) (mm_4 _ (List.mem_of_getElem? (i := 4) rfl)) (mm_4 _ (List.mem_of_getElem? (i := 5) rfl)) (mm_0 _ (List.mem_of_getElem? (i := 35) rfl)) (mm_3 _ (List.mem_of_getElem? (i := 34) rfl))) rfl rfl rfl ⟨rfl, by decide, by decide, by decide +kernel⟩ ⟨Nat.le_of_ble_eq_true rfl, Nat.le_of_ble_eq_true rfl⟩) rfl rfl (by decide) rfl hl.1 rfl (Nat.le_of_ble_eq_true rfl) dX14_cancel_50 (Nat.le_of_ble_eq_true rfl) (Nat.add_le_add_right (Nat.le_of_ble_eq_true rfl) _) (by exact tl) (fun H locs v σ50 N hBn hX50 hP => ?_)
      clear hB; have hB := hBn; clear hBn
      obtain ⟨rfl, rfl⟩ := hP
      refine va_castY hx hb hown (F.1.2.2.2.2 _ (List.mem_cons_of_mem _ (mm_5 _ (List.mem_of_getElem? (i := 25) rfl)))) (F.2.2.1.2.2 ("HubcascadeModel$Transfer", "HubcascadeModel$Transfer") (by decide +kernel)) (sg_recv (ci := 18) F.2.1 hB tt0 (by decide) rfl) dX14_cancel_53 ?_
      refine gf_X14_284 F hB dX14_cancel_56 tt0 ?_
      refine lv_istore_n (lv' := [(3, .int _), (2, .ref _), (0, .ref _), (1, .int _)]) hx hb dX14_cancel_59 rfl hl (by decide) rfl (fun ls hl => ?_)
      refine lv_aload_n hx hb dX14_cancel_60 rfl (lv_at hl 1 rfl) ?_
      refine lv_iconst (v := 0) hx hb dX14_cancel_61 (by decide) ?_
      refine pf_X14_316 F hB dX14_cancel_62 (by exact tp) (fun H locs hBn => ?_)
      clear hB; have hB := hBn; clear hBn
      have hI62 := inv_PIc (t := 18) hB hI33 (by exact tp) (by unfold iCn; omega)
      have h02 : 0 < sgSz (sgPI (sgPI (sgPI σ (kA K) 0 y2) (kA K) 0 0) pp 7 0) l1 := by rw [sgSz_nk (by decide)]; exact h02a
      obtain ⟨m1, hm1⟩ : ∃ m1 : Nat, m1 = min 1 (6 - sgSz (sgPI (sgPI (sgPI σ (kA K) 0 y2) (kA K) 0 0) pp 7 0) (kE K)) := ⟨_, rfl⟩
      refine lv_aload_n hx hb dX14_cancel_65 rfl (lv_at hl 2 rfl) ?_
      refine lv_iload_n hx hb dX14_cancel_66 rfl (lv_at hl 3 rfl) ?_
      refine lv_bipush (v := 120) hx hb dX14_cancel_67 (by decide) ?_
      refine sg_callV (ci := 19) F hB (m_ends l D cy hI62 x 120 (by omega) (by omega) (by exact hpp) (by exact pl1) h02 hm1 _) (cwV 2 F.1.2.2.2.2 (mgV (mm_5 _ (List.mem_of_getElem? (i := 33) rfl)) (mm_5 _ (List.mem_of_getElem? (i := 34) rfl)) (mm_5 _ (List.mem_of_getElem? (i := 35) rfl)) (mm_3 _ (List.mem_of_getElem? (i := 23) rfl)) (mm_5 _ (List.mem_of_getElem? (i := 32) rfl))) rfl rfl rfl ⟨rfl, by decide, by decide, by decide +kernel⟩ ⟨Nat.le_of_ble_eq_true rfl, Nat.le_of_ble_eq_true rfl⟩) rfl rfl (by decide) rfl hl.1 rfl (Nat.le_of_ble_eq_true rfl) dX14_cancel_69 (Nat.le_trans (show _ ≤ 2 from by omega) (Nat.le_of_ble_eq_true rfl)) (Nat.add_le_add_right (Nat.le_trans (show _ ≤ 18 from by omega) (Nat.le_of_ble_eq_true rfl)) _) (inv_A hI62) (fun H locs v σ69 N hBn hX69 hP => ?_)
      clear hB; have hB := hBn; clear hBn
      refine W.widen (k := 2) (n := N) (show _ ≤ 2 from by omega) (Nat.le_refl _) ?_
      have hBn := sgB_up (n2 := 18) hB (show _ ≤ 18 from by omega)
      clear hB; have hB := hBn; clear hBn
      obtain ⟨rfl, hI69, -⟩ := hP
      refine lv_iload_n hx hb dX14_cancel_72 rfl (lv_at hl 0 rfl) ?_
      exact sg_iret F hB hrt dX14_cancel_73 (by decide) (by decide) (⟨⟨_, rfl⟩, hI69⟩)
    · refine lv_iconst (v := 2) hx hb dX14_cancel_28 (by decide) ?_
      refine lv_goto (tgt := 33) hx hb dX14_cancel_29 (by decide) ?_
      refine pf_X14_61 F hB dX14_cancel_33 (inv_A hI2) (fun H locs hBn => ?_)
      clear hB; have hB := hBn; clear hBn
      have hI33 := inv_PIc (t := 20) hB hI2 (inv_A hI2) (by unfold iCn; omega)
      refine lv_aload_n hx hb dX14_cancel_36 rfl (lv_at hl 1 rfl) ?_
      refine gf_X14_61 F hB dX14_cancel_37 (inv_A hI33) ?_
      rw [sgI_PI, if_pos ⟨rfl, rfl⟩]
      refine lv_if_le (tgt := 45) hx hb dX14_cancel_40 (by decide) (fun c40 => (by first | exact absurd c40 (by decide) | exact (c40 (by decide)).elim)) (fun c40 => ?_)
      refine lv_iconst (v := 0) hx hb dX14_cancel_43 (by decide) ?_
      exact sg_iret F hB hrt dX14_cancel_44 (by decide) (by decide) (⟨⟨_, rfl⟩, hI33⟩)
  · refine lv_iconst (v := 0) hx hb dX14_cancel_8 (by decide) ?_
    exact sg_iret F hB hrt dX14_cancel_9 (by decide) (by decide) (⟨⟨_, rfl⟩, hI2⟩)
theorem dX14_clear_0 : decode cX14_clear 0 = .ok (.aload_n 0, 1) := by decide +kernel
theorem dX14_clear_1 : decode cX14_clear 1 = .ok (.iload_n 1, 1) := by decide +kernel
theorem dX14_clear_2 : decode cX14_clear 2 = .ok (.invokevirtual 293, 3) := by decide +kernel
theorem dX14_clear_5 : decode cX14_clear 5 = .ok (.ifCond .eq 5, 3) := by decide +kernel
theorem dX14_clear_8 : decode cX14_clear 8 = .ok (.iconst 0, 1) := by decide +kernel
theorem dX14_clear_9 : decode cX14_clear 9 = .ok (.ireturn, 1) := by decide +kernel
theorem dX14_clear_10 : decode cX14_clear 10 = .ok (.aload_n 0, 1) := by decide +kernel
theorem dX14_clear_11 : decode cX14_clear 11 = .ok (.getfield 18, 3) := by decide +kernel
theorem dX14_clear_14 : decode cX14_clear 14 = .ok (.iload_n 1, 1) := by decide +kernel
theorem dX14_clear_15 : decode cX14_clear 15 = .ok (.aaload, 1) := by decide +kernel
theorem dX14_clear_16 : decode cX14_clear 16 = .ok (.astore_n 2, 1) := by decide +kernel
theorem dX14_clear_17 : decode cX14_clear 17 = .ok (.aload_n 2, 1) := by decide +kernel
theorem dX14_clear_18 : decode cX14_clear 18 = .ok (.iconst 0, 1) := by decide +kernel
theorem dX14_clear_19 : decode cX14_clear 19 = .ok (.putfield 313, 3) := by decide +kernel
theorem dX14_clear_22 : decode cX14_clear 22 = .ok (.aload_n 2, 1) := by decide +kernel
theorem dX14_clear_23 : decode cX14_clear 23 = .ok (.iconst 0, 1) := by decide +kernel
theorem dX14_clear_24 : decode cX14_clear 24 = .ok (.putfield 316, 3) := by decide +kernel
theorem dX14_clear_27 : decode cX14_clear 27 = .ok (.aload_n 2, 1) := by decide +kernel
theorem dX14_clear_28 : decode cX14_clear 28 = .ok (.iconst 0, 1) := by decide +kernel
theorem dX14_clear_29 : decode cX14_clear 29 = .ok (.putfield 319, 3) := by decide +kernel
theorem dX14_clear_32 : decode cX14_clear 32 = .ok (.aload_n 0, 1) := by decide +kernel
theorem dX14_clear_33 : decode cX14_clear 33 = .ok (.aload_n 2, 1) := by decide +kernel
theorem dX14_clear_34 : decode cX14_clear 34 = .ok (.invokevirtual 296, 3) := by decide +kernel
theorem dX14_clear_37 : decode cX14_clear 37 = .ok (.iconst 0, 1) := by decide +kernel
theorem dX14_clear_38 : decode cX14_clear 38 = .ok (.putfield 266, 3) := by decide +kernel
theorem dX14_clear_41 : decode cX14_clear 41 = .ok (.aload_n 0, 1) := by decide +kernel
theorem dX14_clear_42 : decode cX14_clear 42 = .ok (.aload_n 2, 1) := by decide +kernel
theorem dX14_clear_43 : decode cX14_clear 43 = .ok (.invokevirtual 296, 3) := by decide +kernel
theorem dX14_clear_46 : decode cX14_clear 46 = .ok (.iconst (-1), 1) := by decide +kernel
theorem dX14_clear_47 : decode cX14_clear 47 = .ok (.putfield 269, 3) := by decide +kernel
theorem dX14_clear_50 : decode cX14_clear 50 = .ok (.aload_n 2, 1) := by decide +kernel
theorem dX14_clear_51 : decode cX14_clear 51 = .ok (.getfield 199, 3) := by decide +kernel
theorem dX14_clear_54 : decode cX14_clear 54 = .ok (.invokevirtual 64, 3) := by decide +kernel
theorem dX14_clear_57 : decode cX14_clear 57 = .ok (.ireturn, 1) := by decide +kernel
set_option maxRecDepth 100000 in
set_option maxHeartbeats 4000000 in
theorem m_clear_ (l : Launch) (D : va_G) (cy : Nat → ClassId) {eda ca : Nat} {ia : Nat → Nat} {σ : SG} {K : KM} {g : GH} {n S hw : Nat} (h : Inv eda ia K g n S hw σ) (x : Int32) (sz : Nat) : sgM l D cy eda ca ia σ sz yX14_clear (Cond.code yX14_clear cX14_clear 3 (some .int) :: mWall) 4 85 0 0 [.ref (kA K), .int x] (fun v σ2 => (∃ y : Int32, v = some (.int y)) ∧ Inv eda ia K g n S hw σ2) := by
  refine sg_ofW (cc := cX14_clear) (maxL := 3) (ret := (some .int)) (by decide) rfl (Nat.le_of_ble_eq_true rfl) (lv := [(0, .ref (kA K)), (1, .int x)]) rfl (fun p e s m below meth c ls H N hrt hnm F hB hl => ?_) sz
  have hx := F.1.1
  have hb := F.1.2.1
  have hown := F.1.2.2.2.1
  refine lv_aload_n hx hb dX14_clear_0 rfl (lv_at hl 0 rfl) ?_
  refine lv_iload_n hx hb dX14_clear_1 rfl (lv_at hl 1 rfl) ?_
  refine sg_callV (ci := 19) F hB (m_noPipe l D cy h x _) (cwV 1 F.1.2.2.2.2 (mgV (mm_8 _ (List.mem_of_getElem? (i := 39) rfl)) (mm_9 _ (List.mem_of_getElem? (i := 0) rfl)) (mm_9 _ (List.mem_of_getElem? (i := 1) rfl)) (mm_3 _ (List.mem_of_getElem? (i := 23) rfl)) (mm_8 _ (List.mem_of_getElem? (i := 38) rfl))) rfl rfl rfl ⟨rfl, by decide, by decide, by decide +kernel⟩ ⟨Nat.le_of_ble_eq_true rfl, Nat.le_of_ble_eq_true rfl⟩) rfl rfl (by decide) rfl hl.1 rfl (Nat.le_of_ble_eq_true rfl) dX14_clear_2 (Nat.le_of_ble_eq_true rfl) (Nat.add_le_add_right (Nat.le_of_ble_eq_true rfl) _) (inv_A h) (fun H locs v σ2 N hBn hX2 hP => ?_)
  clear hB; have hB := hBn; clear hBn
  obtain ⟨y2, b2, rfl, rfl, hb2⟩ := hP
  have hI2 := inv_th h y2
  refine lv_if_eq (tgt := 10) hx hb dX14_clear_5 (by decide) (fun c5 => ?_) (fun c5 => ?_)
  · obtain ⟨hx5, pp, hpp⟩ := Classical.not_not.mp (sgb_f hb2 c5)
    have tp := inv_pp hI2 (j := x.toInt.toNat) (by omega) hpp
    obtain ⟨l1, pl1, tl, pl3, pl4, pl5, pl6⟩ := inv_pl hI2 tp
    refine lv_aload_n hx hb dX14_clear_10 rfl (lv_at hl 0 rfl) ?_
    refine gr_X14_18 F hB dX14_clear_11 (inv_A hI2) (inv_r2 hI2) ?_
    refine lv_iload_n hx hb dX14_clear_14 rfl (lv_at hl 1 rfl) ?_
    refine sg_aaldR 9 hx hb F.2.1 hB.1 rfl rfl dX14_clear_15 (inv_tP hI2).1 (by omega) (m_ltN (n := 12) (inv_tP hI2).2 (by omega)) (m_ltM (inv_tP hI2).2 (by decide)) hpp ?_
    refine lv_astore_n (lv' := [(2, .ref _), (0, .ref _), (1, .int _)]) hx hb dX14_clear_16 rfl hl (by decide) rfl (fun ls hl => ?_)
    refine lv_aload_n hx hb dX14_clear_17 rfl (lv_at hl 0 rfl) ?_
    refine lv_iconst (v := 0) hx hb dX14_clear_18 (by decide) ?_
    refine pf_X14_313 F hB dX14_clear_19 tp ⟨by decide, by decide⟩ (fun H locs hBn => ?_)
    clear hB; have hB := hBn; clear hBn
    have hI19 := inv_PIc (t := 18) hB hI2 tp (by unfold iCn; omega)
    refine lv_aload_n hx hb dX14_clear_22 rfl (lv_at hl 0 rfl) ?_
    refine lv_iconst (v := 0) hx hb dX14_clear_23 (by decide) ?_
    refine pf_X14_316 F hB dX14_clear_24 (by exact tp) (fun H locs hBn => ?_)
    clear hB; have hB := hBn; clear hBn
    have hI24 := inv_PIc (t := 18) hB hI19 (by exact tp) (by unfold iCn; omega)
    refine lv_aload_n hx hb dX14_clear_27 rfl (lv_at hl 0 rfl) ?_
    refine lv_iconst (v := 0) hx hb dX14_clear_28 (by decide) ?_
    refine pf_X14_319 F hB dX14_clear_29 (by exact tp) (fun H locs hBn => ?_)
    clear hB; have hB := hBn; clear hBn
    have hI29 := inv_PIc (t := 18) hB hI24 (by exact tp) (by unfold iCn; omega)
    refine lv_aload_n hx hb dX14_clear_32 rfl (lv_at hl 1 rfl) ?_
    refine lv_aload_n hx hb dX14_clear_33 rfl (lv_at hl 0 rfl) ?_
    refine sg_callV (ci := 19) F hB (m_endOf l D cy hI29 (by exact tp) _) (cwV 1 F.1.2.2.2.2 (mgV (mm_9 _ (List.mem_of_getElem? (i := 10) rfl)) (mm_9 _ (List.mem_of_getElem? (i := 11) rfl)) (mm_9 _ (List.mem_of_getElem? (i := 12) rfl)) (mm_3 _ (List.mem_of_getElem? (i := 23) rfl)) (mm_9 _ (List.mem_of_getElem? (i := 5) rfl))) rfl rfl rfl ⟨rfl, by decide, by decide, by decide +kernel⟩ ⟨Nat.le_of_ble_eq_true rfl, Nat.le_of_ble_eq_true rfl⟩) rfl rfl (by decide) rfl hl.1 rfl (Nat.le_of_ble_eq_true rfl) dX14_clear_34 (Nat.le_of_ble_eq_true rfl) (Nat.add_le_add_right (Nat.le_of_ble_eq_true rfl) _) (inv_A hI29) (fun H locs v σ34 N hBn hX34 hP => ?_)
    clear hB; have hB := hBn; clear hBn
    obtain ⟨x34, rfl, rfl, tx34, en34⟩ := hP
    refine lv_iconst (v := 0) hx hb dX14_clear_37 (by decide) ?_
    refine pf_X14_266 F hB dX14_clear_38 tx34 (fun H locs hBn => ?_)
    clear hB; have hB := hBn; clear hBn
    have hI38 := inv_PIc (t := 17) hB hI29 tx34 (by unfold iCn; omega)
    refine lv_aload_n hx hb dX14_clear_41 rfl (lv_at hl 1 rfl) ?_
    refine lv_aload_n hx hb dX14_clear_42 rfl (lv_at hl 0 rfl) ?_
    refine sg_callV (ci := 19) F hB (m_endOf l D cy hI38 (by exact tp) _) (cwV 1 F.1.2.2.2.2 (mgV (mm_9 _ (List.mem_of_getElem? (i := 10) rfl)) (mm_9 _ (List.mem_of_getElem? (i := 11) rfl)) (mm_9 _ (List.mem_of_getElem? (i := 12) rfl)) (mm_3 _ (List.mem_of_getElem? (i := 23) rfl)) (mm_9 _ (List.mem_of_getElem? (i := 5) rfl))) rfl rfl rfl ⟨rfl, by decide, by decide, by decide +kernel⟩ ⟨Nat.le_of_ble_eq_true rfl, Nat.le_of_ble_eq_true rfl⟩) rfl rfl (by decide) rfl hl.1 rfl (Nat.le_of_ble_eq_true rfl) dX14_clear_43 (Nat.le_of_ble_eq_true rfl) (Nat.add_le_add_right (Nat.le_of_ble_eq_true rfl) _) (inv_A hI38) (fun H locs v σ43 N hBn hX43 hP => ?_)
    clear hB; have hB := hBn; clear hBn
    obtain ⟨x43, rfl, rfl, tx43, en43⟩ := hP
    refine lv_iconst (v := (-1)) hx hb dX14_clear_46 (by decide) ?_
    refine pf_X14_269 F hB dX14_clear_47 tx43 (fun H locs hBn => ?_)
    clear hB; have hB := hBn; clear hBn
    have hI47 := inv_kpB hB hI38 tx43 (Or.inr (Or.inl rfl))
    refine lv_aload_n hx hb dX14_clear_50 rfl (lv_at hl 0 rfl) ?_
    refine gr_X14_199 F hB dX14_clear_51 (by exact tp) (by exact pl1) ?_
    refine sg_callV (ci := 4) F hB (m_size l D cy (by exact tl) _) (cwV 0 F.1.2.2.2.2 (mgV (mm_3 _ (List.mem_of_getElem? (i := 18) rfl)) (mm_3 _ (List.mem_of_getElem? (i := 19) rfl)) (mm_3 _ (List.mem_of_getElem? (i := 20) rfl)) (mm_0 _ (List.mem_of_getElem? (i := 35) rfl)) (mm_3 _ (List.mem_of_getElem? (i := 16) rfl))) rfl rfl rfl ⟨rfl, by decide, by decide, by decide +kernel⟩ ⟨Nat.le_of_ble_eq_true rfl, Nat.le_of_ble_eq_true rfl⟩) rfl rfl (by decide) rfl hl.1 rfl (Nat.le_of_ble_eq_true rfl) dX14_clear_54 (Nat.le_of_ble_eq_true rfl) (Nat.add_le_add_right (Nat.le_of_ble_eq_true rfl) _) (by exact tl) (fun H locs v σ54 N hBn hX54 hP => ?_)
    clear hB; have hB := hBn; clear hBn
    obtain ⟨rfl, rfl⟩ := hP
    exact sg_iret F hB hrt dX14_clear_57 (by decide) (by decide) (⟨⟨_, rfl⟩, hI47⟩)
  · refine lv_iconst (v := 0) hx hb dX14_clear_8 (by decide) ?_
    exact sg_iret F hB hrt dX14_clear_9 (by decide) (by decide) (⟨⟨_, rfl⟩, hI2⟩)
theorem dX14_event_0 : decode cX14_event 0 = .ok (.aload_n 0, 1) := by decide +kernel
theorem dX14_event_1 : decode cX14_event 1 = .ok (.aload_n 0, 1) := by decide +kernel
theorem dX14_event_2 : decode cX14_event 2 = .ok (.getfield 28, 3) := by decide +kernel
theorem dX14_event_5 : decode cX14_event 5 = .ok (.invokevirtual 202, 3) := by decide +kernel
theorem dX14_event_8 : decode cX14_event 8 = .ok (.ifCond .eq 7, 3) := by decide +kernel
theorem dX14_event_11 : decode cX14_event 11 = .ok (.iconst 1, 1) := by decide +kernel
theorem dX14_event_12 : decode cX14_event 12 = .ok (.goto 4, 3) := by decide +kernel
theorem dX14_event_15 : decode cX14_event 15 = .ok (.iconst 0, 1) := by decide +kernel
theorem dX14_event_16 : decode cX14_event 16 = .ok (.putfield 61, 3) := by decide +kernel
theorem dX14_event_19 : decode cX14_event 19 = .ok (.aload_n 0, 1) := by decide +kernel
theorem dX14_event_20 : decode cX14_event 20 = .ok (.getfield 61, 3) := by decide +kernel
theorem dX14_event_23 : decode cX14_event 23 = .ok (.ifCond .le 6, 3) := by decide +kernel
theorem dX14_event_26 : decode cX14_event 26 = .ok (.bipush 32, 2) := by decide +kernel
theorem dX14_event_28 : decode cX14_event 28 = .ok (.ireturn, 1) := by decide +kernel
theorem dX14_event_29 : decode cX14_event 29 = .ok (.aload_n 0, 1) := by decide +kernel
theorem dX14_event_30 : decode cX14_event 30 = .ok (.aload_n 0, 1) := by decide +kernel
theorem dX14_event_31 : decode cX14_event 31 = .ok (.getfield 28, 3) := by decide +kernel
theorem dX14_event_34 : decode cX14_event 34 = .ok (.iconst 0, 1) := by decide +kernel
theorem dX14_event_35 : decode cX14_event 35 = .ok (.invokevirtual 272, 3) := by decide +kernel
theorem dX14_event_38 : decode cX14_event 38 = .ok (.checkcast 169, 3) := by decide +kernel
theorem dX14_event_41 : decode cX14_event 41 = .ok (.putfield 31, 3) := by decide +kernel
theorem dX14_event_44 : decode cX14_event 44 = .ok (.aload_n 0, 1) := by decide +kernel
theorem dX14_event_45 : decode cX14_event 45 = .ok (.getfield 31, 3) := by decide +kernel
theorem dX14_event_48 : decode cX14_event 48 = .ok (.iconst 0, 1) := by decide +kernel
theorem dX14_event_49 : decode cX14_event 49 = .ok (.iaload, 1) := by decide +kernel
theorem dX14_event_50 : decode cX14_event 50 = .ok (.i2c, 1) := by decide +kernel
theorem dX14_event_51 : decode cX14_event 51 = .ok (.ireturn, 1) := by decide +kernel
set_option maxRecDepth 100000 in
set_option maxHeartbeats 4000000 in
theorem m_event (l : Launch) (D : va_G) (cy : Nat → ClassId) {eda ca : Nat} {ia : Nat → Nat} {σ : SG} {K : KM} {g : GH} {n S hw : Nat} (h : Inv eda ia K g n S hw σ) (sz : Nat) : sgM l D cy eda ca ia σ sz yX14_event (Cond.code yX14_event cX14_event 1 (some .char) :: mWall) 3 86 0 0 [.ref (kA K)] (fun v σ2 => (∃ y : Int32, v = some (.int y)) ∧ Inv eda ia K g n S hw σ2) := by
  refine sg_ofW (cc := cX14_event) (maxL := 1) (ret := (some .char)) (by decide) rfl (Nat.le_of_ble_eq_true rfl) (lv := [(0, .ref (kA K))]) rfl (fun p e s m below meth c ls H N hrt hnm F hB hl => ?_) sz
  have hx := F.1.1
  have hb := F.1.2.1
  have hown := F.1.2.2.2.1
  refine lv_aload_n hx hb dX14_event_0 rfl (lv_at hl 0 rfl) ?_
  refine lv_aload_n hx hb dX14_event_1 rfl (lv_at hl 0 rfl) ?_
  refine gr_X14_28 F hB dX14_event_2 (inv_A h) (inv_r5 h) ?_
  refine sg_callV (ci := 4) F hB (m_isEmpty l D cy (inv_tE h).1 _) (cwV 0 F.1.2.2.2.2 (mgV (mm_7 _ (List.mem_of_getElem? (i := 8) rfl)) (mm_7 _ (List.mem_of_getElem? (i := 9) rfl)) (mm_7 _ (List.mem_of_getElem? (i := 10) rfl)) (mm_0 _ (List.mem_of_getElem? (i := 35) rfl)) (mm_7 _ (List.mem_of_getElem? (i := 7) rfl))) rfl rfl rfl ⟨rfl, by decide, by decide, by decide +kernel⟩ ⟨Nat.le_of_ble_eq_true rfl, Nat.le_of_ble_eq_true rfl⟩) rfl rfl (by decide) rfl hl.1 rfl (Nat.le_of_ble_eq_true rfl) dX14_event_5 (Nat.le_of_ble_eq_true rfl) (Nat.add_le_add_right (Nat.le_of_ble_eq_true rfl) _) (inv_tE h).1 (fun H locs v σ5 N hBn hX5 hP => ?_)
  clear hB; have hB := hBn; clear hBn
  obtain ⟨b5, rfl, rfl, hb5⟩ := hP
  refine lv_if_eq (tgt := 15) hx hb dX14_event_8 (by decide) (fun c8 => ?_) (fun c8 => ?_)
  · refine lv_iconst (v := 0) hx hb dX14_event_15 (by decide) ?_
    refine pf_X14_61 F hB dX14_event_16 (inv_A h) (fun H locs hBn => ?_)
    clear hB; have hB := hBn; clear hBn
    have hI16 := inv_PIc (t := 20) hB h (inv_A h) (by unfold iCn; omega)
    refine lv_aload_n hx hb dX14_event_19 rfl (lv_at hl 0 rfl) ?_
    refine gf_X14_61 F hB dX14_event_20 (inv_A hI16) ?_
    rw [sgI_PI, if_pos ⟨rfl, rfl⟩]
    refine lv_if_le (tgt := 29) hx hb dX14_event_23 (by decide) (fun c23 => ?_) (fun c23 => (by first | exact absurd c23 (by decide) | exact (c23 (by decide)).elim))
    have h01 := sgb_f hb5 c8
    obtain ⟨v1, v2, -⟩ := inv_lsz hI16 (inv_tE hI16).1
    have h03 : 0 < sgSz (sgPI σ (kA K) 0 0) (kE K) := by
      rw [sgI_nk (by decide)] at v1
      omega
    obtain ⟨r1, za, zb⟩ := (inv_LS hI16).1 _ (inv_tE hI16).1 id
    have gs := sgLz_s za h03
    obtain ⟨t0, w1, w2⟩ := inv_L hI16 _ (inv_tE hI16).1 0 h03
    have tt0 : sgT (sgPI σ (kA K) 0 0) t0 = 100 ∧ sgN (sgPI σ (kA K) 0 0) t0 = 3 := by unfold iEl at w2; rw [(inv_tE hI16).2] at w2; exact w2
    refine lv_aload_n hx hb dX14_event_29 rfl (lv_at hl 0 rfl) ?_
    refine lv_aload_n hx hb dX14_event_30 rfl (lv_at hl 0 rfl) ?_
    refine gr_X14_28 F hB dX14_event_31 (inv_A hI16) (inv_r5 hI16) ?_
    refine lv_iconst (v := 0) hx hb dX14_event_34 (by decide) ?_
    refine sg_callV (ci := 4) F hB (m_remove0 l D cy gs h03 (fun j y _ hy => (inv_LS hI16).2.2.1 r1 j y gs.2.2.1 hy) (by rw [← sgAt_of gs.2.1]; exact w1) _) (cwV 1 F.1.2.2.2.2 (mgV (mm_5 _ (List.mem_of_getElem? (i := 29) rfl)) (mm_5 _ (List.mem_of_getElem? (i := 30) rfl)) (mm_5 _ (List.mem_of_getElem? (i := 31) rfl)) (mm_0 _ (List.mem_of_getElem? (i := 35) rfl)) (mm_5 _ (List.mem_of_getElem? (i := 21) rfl))) rfl rfl rfl ⟨rfl, by decide, by decide, by decide +kernel⟩ ⟨Nat.le_of_ble_eq_true rfl, Nat.le_of_ble_eq_true rfl⟩) rfl rfl (by decide) rfl hl.1 rfl (Nat.le_of_ble_eq_true rfl) dX14_event_35 (Nat.le_of_ble_eq_true rfl) (Nat.add_le_add_right (Nat.le_of_ble_eq_true rfl) _) (inv_tE hI16).1 (fun H locs v σ35 N hBn hX35 hP => ?_)
    clear hB; have hB := hBn; clear hBn
    obtain ⟨rfl, ho, ho1, ho2, ho3, ho4⟩ := hP
    obtain ⟨hI35, -⟩ := inv_rm hI16 gs h03 ho ho1 ho3 ho2 ho4 (by rw [(inv_tE hI16).2]; decide) (fun z => absurd ((inv_tE hI16).2.symm.trans z) (by decide))
    have tt : sgT σ35 t0 = 100 := (ho.1 t0).1.trans tt0.1
    have tn : sgN σ35 t0 = 3 := (ho.1 t0).2.trans tt0.2
    refine sg_castI F hB (F.1.2.2.2.2 _ (List.mem_cons_of_mem _ (mm_6 _ (List.mem_of_getElem? (i := 26) rfl)))) tt dX14_event_38 ?_
    refine pr_X14_31 F hB dX14_event_41 (inv_A hI35) (fun H locs hBn => ?_)
    clear hB; have hB := hBn; clear hBn
    have hI41 := inv_pe6B hB hI35 ⟨tt, Or.inr tn⟩
    refine lv_aload_n hx hb dX14_event_44 rfl (lv_at hl 0 rfl) ?_
    refine gr_X14_31 F hB dX14_event_45 (inv_A hI41) (by rw [sgR_PR, if_pos ⟨rfl, rfl⟩]) ?_
    refine lv_iconst (v := 0) hx hb dX14_event_48 (by decide) ?_
    refine sg_iald hx hb F.2.1 hB.1 dX14_event_49 (by exact tt) (by decide) (m_ltN tn (by decide)) (m_ltM tn (by decide)) ?_
    refine lv_i2c hx hb dX14_event_50 rfl ?_
    exact sg_zret F hB hrt dX14_event_51 (by decide) (by decide) (by first | rfl | exact pk_nc _) (⟨⟨_, rfl⟩, hI41⟩)
  · refine lv_iconst (v := 1) hx hb dX14_event_11 (by decide) ?_
    refine lv_goto (tgt := 16) hx hb dX14_event_12 (by decide) ?_
    refine pf_X14_61 F hB dX14_event_16 (inv_A h) (fun H locs hBn => ?_)
    clear hB; have hB := hBn; clear hBn
    have hI16 := inv_PIc (t := 20) hB h (inv_A h) (by unfold iCn; omega)
    refine lv_aload_n hx hb dX14_event_19 rfl (lv_at hl 0 rfl) ?_
    refine gf_X14_61 F hB dX14_event_20 (inv_A hI16) ?_
    rw [sgI_PI, if_pos ⟨rfl, rfl⟩]
    refine lv_if_le (tgt := 29) hx hb dX14_event_23 (by decide) (fun c23 => (by first | exact absurd c23 (by decide) | exact (c23 (by decide)).elim)) (fun c23 => ?_)
    refine lv_bipush (v := 32) hx hb dX14_event_26 (by decide) ?_
    exact sg_zret F hB hrt dX14_event_28 (by decide) (by decide) (by first | rfl | exact pk_nc _) (⟨⟨_, rfl⟩, hI16⟩)
end MM24
