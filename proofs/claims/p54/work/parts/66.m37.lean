section MM37
theorem nI_ts : ∀ k, k ≤ 16 → (nI k).toInt = k := by decide +kernel
theorem nI_t {k : Nat} (h : k ≤ 16) : (nI k).toInt = k := nI_ts k h
theorem dX14_taken_0 : decode cX14_taken 0 = .ok (.aload_n 0, 1) := by decide +kernel
theorem dX14_taken_1 : decode cX14_taken 1 = .ok (.getfield 25, 3) := by decide +kernel
theorem dX14_taken_4 : decode cX14_taken 4 = .ok (.invokevirtual 64, 3) := by decide +kernel
theorem dX14_taken_7 : decode cX14_taken 7 = .ok (.newarray .int, 2) := by decide +kernel
theorem dX14_taken_9 : decode cX14_taken 9 = .ok (.astore_n 1, 1) := by decide +kernel
theorem dX14_taken_10 : decode cX14_taken 10 = .ok (.iconst 0, 1) := by decide +kernel
theorem dX14_taken_11 : decode cX14_taken 11 = .ok (.istore_n 2, 1) := by decide +kernel
theorem dX14_taken_12 : decode cX14_taken 12 = .ok (.iload_n 2, 1) := by decide +kernel
theorem dX14_taken_13 : decode cX14_taken 13 = .ok (.aload_n 1, 1) := by decide +kernel
theorem dX14_taken_14 : decode cX14_taken 14 = .ok (.arraylength, 1) := by decide +kernel
theorem dX14_taken_15 : decode cX14_taken 15 = .ok (.if_icmp .ge 26, 3) := by decide +kernel
theorem dX14_taken_18 : decode cX14_taken 18 = .ok (.aload_n 1, 1) := by decide +kernel
theorem dX14_taken_19 : decode cX14_taken 19 = .ok (.iload_n 2, 1) := by decide +kernel
theorem dX14_taken_20 : decode cX14_taken 20 = .ok (.aload_n 0, 1) := by decide +kernel
theorem dX14_taken_21 : decode cX14_taken 21 = .ok (.getfield 25, 3) := by decide +kernel
theorem dX14_taken_24 : decode cX14_taken 24 = .ok (.iload_n 2, 1) := by decide +kernel
theorem dX14_taken_25 : decode cX14_taken 25 = .ok (.invokevirtual 76, 3) := by decide +kernel
theorem dX14_taken_28 : decode cX14_taken 28 = .ok (.checkcast 213, 3) := by decide +kernel
theorem dX14_taken_31 : decode cX14_taken 31 = .ok (.invokevirtual 222, 3) := by decide +kernel
theorem dX14_taken_34 : decode cX14_taken 34 = .ok (.iastore, 1) := by decide +kernel
theorem dX14_taken_35 : decode cX14_taken 35 = .ok (.iinc 2 1, 3) := by decide +kernel
theorem dX14_taken_38 : decode cX14_taken 38 = .ok (.goto (-26), 3) := by decide +kernel
theorem dX14_taken_41 : decode cX14_taken 41 = .ok (.aload_n 1, 1) := by decide +kernel
theorem dX14_taken_42 : decode cX14_taken 42 = .ok (.areturn, 1) := by decide +kernel
set_option maxRecDepth 100000 in
set_option maxHeartbeats 4000000 in
theorem m_taken (l : Launch) (D : va_G) (cy : Nat → ClassId) {eda ca : Nat} {ia : Nat → Nat} {σ : SG} {a0 t0 : Nat} (hA : sgT σ a0 = 20) (h4 : sgR σ a0 4 = some t0) (tT : sgT σ t0 = 5) (hLS : sgLS eda ia iX σ) (hs0 : (sgI σ t0 2).toInt = sgSz σ t0) (h16 : sgSz σ t0 ≤ 16) (hel : ∀ k, k < sgSz σ t0 → ∃ y, sgAt σ t0 k = some y ∧ sgBx ia σ y) (sz : Nat) : sgM l D cy eda ca ia σ sz yX14_taken (Cond.code yX14_taken cX14_taken 3 (some (.array .int)) :: mWall) 3 64 1 16 [.ref a0] (fun v σ2 => ∃ r : Nat, v = some (.ref r) ∧ sgT σ r = 0 ∧ oFr σ σ2 ∧ sgT σ2 r = 100 ∧ sgN σ2 r = sgSz σ t0 ∧ ∀ a, sgT σ a = 0 → sgT σ2 a = 0 ∨ a = r) := by
  refine sg_ofW (cc := cX14_taken) (maxL := 3) (ret := (some (.array .int))) (by decide) rfl (Nat.le_of_ble_eq_true rfl) (lv := [(0, .ref a0)]) rfl (fun p e s m below meth c ls H N hrt hnm F hB hl => ?_) sz
  have hx := F.1.1
  have hb := F.1.2.1
  have hown := F.1.2.2.2.1
  generalize hlo : ([] : List Loc) = locs at hB ⊢
  clear hlo
  refine lv_aload_n hx hb dX14_taken_0 rfl (lv_at hl 0 rfl) ?_
  refine gr_X14_25 F hB dX14_taken_1 hA h4 ?_
  refine sg_callV (ci := 4) F hB (m_size l D cy (by exact tT) _) (cwV 0 F.1.2.2.2.2 (mgV (mm_3 _ (List.mem_of_getElem? (i := 18) rfl)) (mm_3 _ (List.mem_of_getElem? (i := 19) rfl)) (mm_3 _ (List.mem_of_getElem? (i := 20) rfl)) (mm_0 _ (List.mem_of_getElem? (i := 35) rfl)) (mm_3 _ (List.mem_of_getElem? (i := 16) rfl))) rfl rfl rfl ⟨rfl, by decide, by decide, by decide +kernel⟩ ⟨Nat.le_of_ble_eq_true rfl, Nat.le_of_ble_eq_true rfl⟩) rfl rfl (by decide) rfl hl.1 rfl (Nat.le_of_ble_eq_true rfl) dX14_taken_4 (Nat.le_of_ble_eq_true rfl) (Nat.add_le_add_right (Nat.le_of_ble_eq_true rfl) _) tT (fun H locs v σ4 N hBn hX4 hP => ?_)
  clear hB; have hB := hBn; clear hBn
  obtain ⟨rfl, rfl⟩ := hP
  refine sg_newa 0 (atype := .int) (ty := .int) (N' := (sgSz σ t0)) F hB (F.1.2.2.2.2 _ (List.mem_cons_of_mem _ (mm_0 _ (List.mem_of_getElem? (i := 11) rfl)))) rfl rfl (fun C z => by cases z) rfl (fun _ => rfl) (fun z => by have q := i_lt z; have e : (0 : Int32).toInt = 0 := rfl; omega) (by show (sgI σ t0 2).toInt.toNat = sgSz σ t0; rfl) (by show sgSz σ t0 * 4 ≤ 536870912; omega) (Nat.le_of_ble_eq_true rfl) (Nat.add_le_add_right (by omega) _) dX14_taken_7 (fun q7 H N hq7 hs7 hBn => ?_)
  clear hB; have hB := hBn; clear hBn
  obtain ⟨hQ7, tq7, nq7⟩ := sgB_nwf hB hq7 (by decide)
  have hBn := sgB_up (n2 := 16) hB (by omega)
  clear hB; have hB := hBn; clear hBn
  refine lv_astore_n (lv' := [(1, .ref _), (0, .ref _)]) hx hb dX14_taken_9 rfl hl (by decide) rfl (fun ls hl => ?_)
  refine lv_iconst (v := 0) hx hb dX14_taken_10 (by decide) ?_
  refine lv_istore_n (lv' := [(2, .int _), (1, .ref _), (0, .ref _)]) hx hb dX14_taken_11 rfl hl (by decide) rfl (fun ls hl => ?_)
  have key12 : ∃ (σ9 : SG) (i9 : Int32), sgB D cy s σ σ9 H locs N 16 ∧ lv_has ls 3 [(2, .int i9), (1, .ref q7), (0, .ref a0)] ∧ (0 ≤ i9.toInt ∧ i9.toInt ≤ sgSz σ t0) ∧ (oFr σ σ9 ∧ sgT σ9 q7 = 100 ∧ sgN σ9 q7 = sgSz σ t0 ∧ ∀ a, sgT σ a = 0 → sgT σ9 a = 0 ∨ a = q7) := ⟨_, _, hB, (lv_sub hl [0, 1, 2] rfl), ⟨by decide, by rw [m_i0]; omega⟩, oFr_nw oFr_rf hq7, tq7, nq7, fun a z => by rw [sgNw_T]; exact (Classical.em (a = q7)).elim Or.inr (fun c => Or.inl (by rw [if_neg c]; exact z))⟩
  clear hB hl
  obtain ⟨σ9, i9, hB, hl, hi9, hT9⟩ := key12
  obtain ⟨d12, hd12⟩ : ∃ d : Nat, d = sgSz σ t0 - i9.toInt.toNat := ⟨_, rfl⟩
  induction d12 using Nat.strongRecOn generalizing H locs ls N σ9 i9
  rename_i d12 ih12
  refine lv_iload_n hx hb dX14_taken_12 rfl (lv_at hl 0 rfl) ?_
  refine lv_aload_n hx hb dX14_taken_13 rfl (lv_at hl 1 rfl) ?_
  refine sg_alen 0 hx hb F.2.1 hB.1 rfl dX14_taken_14 hT9.2.1 ?_
  refine lv_icmp_ge (tgt := 41) hx hb dX14_taken_15 (by decide) (fun c15 => ?_) (fun c15 => ?_)
  · refine lv_aload_n hx hb dX14_taken_41 rfl (lv_at hl 1 rfl) ?_
    exact sg_aret F hB hrt (Or.inr ⟨_, rfl⟩) (Or.inr ⟨_, rfl⟩) dX14_taken_42 (by decide) (by decide) (⟨q7, rfl, hq7, hT9.1, hT9.2.1, hT9.2.2.1, hT9.2.2.2⟩)
  · have hi4 := i_nle c15
    rw [hT9.2.2.1] at hi4
    have hnI : (nI (sgSz σ t0)).toInt = sgSz σ t0 := nI_t (by omega)
    rw [hnI] at hi4
    have hLS9 := sgLS_nw hLS hT9.1 (fun a z q => (hT9.2.2.2 a z).elim (fun w => by rw [w] at q; exact absurd q (by decide)) (fun w => by rw [w, hT9.2.1] at q; exact absurd q (by decide))) (fun a z q => (hT9.2.2.2 a z).elim (fun w => by rw [w] at q; exact absurd q (by decide)) (fun w => by rw [w, hT9.2.1] at q; exact absurd q (by decide))) (sg_eda F hB)
    have tT9 : sgT σ9 t0 = 5 := (hT9.1 t0 (t_nz tT (by decide))).1.trans tT
    have sz9 := (hLS9.2 t0 tT id).1
    obtain ⟨y25, a25b, b25⟩ := hel i9.toInt.toNat (by omega)
    have a25 := ((hLS9.2 t0 tT id).2 _ (by omega)).trans a25b
    have hbx := sgBx_mono (fun a ha => ⟨(hT9.1 a ha).1, (hT9.1 a ha).2.1⟩) b25
    refine lv_aload_n hx hb dX14_taken_18 rfl (lv_at hl 1 rfl) ?_
    refine lv_iload_n hx hb dX14_taken_19 rfl (lv_at hl 0 rfl) ?_
    refine lv_aload_n hx hb dX14_taken_20 rfl (lv_at hl 2 rfl) ?_
    refine gr_X14_25 F hB dX14_taken_21 ((hT9.1 a0 (t_nz hA (by decide))).1.trans hA) (((hT9.1 a0 (t_nz hA (by decide))).2.2 4).2.trans h4) ?_
    refine lv_iload_n hx hb dX14_taken_24 rfl (lv_at hl 0 rfl) ?_
    refine sg_callV (ci := 4) F hB (m_getL l D cy hLS9.1 tT9 id i9 (by omega) (by rw [sz9]; omega) a25 _) (cwV 1 F.1.2.2.2.2 (mgV (mm_4 _ (List.mem_of_getElem? (i := 3) rfl)) (mm_4 _ (List.mem_of_getElem? (i := 4) rfl)) (mm_4 _ (List.mem_of_getElem? (i := 5) rfl)) (mm_0 _ (List.mem_of_getElem? (i := 35) rfl)) (mm_3 _ (List.mem_of_getElem? (i := 34) rfl))) rfl rfl rfl ⟨rfl, by decide, by decide, by decide +kernel⟩ ⟨Nat.le_of_ble_eq_true rfl, Nat.le_of_ble_eq_true rfl⟩) rfl rfl (by decide) rfl hl.1 rfl (Nat.le_of_ble_eq_true rfl) dX14_taken_25 (Nat.le_of_ble_eq_true rfl) (Nat.add_le_add_right (Nat.le_of_ble_eq_true rfl) _) tT9 (fun H locs v σ25 N hBn hX25 hP => ?_)
    clear hB; have hB := hBn; clear hBn
    obtain ⟨rfl, rfl⟩ := hP
    refine va_castY hx hb hown (F.1.2.2.2.2 _ (List.mem_cons_of_mem _ (mm_8 _ (List.mem_of_getElem? (i := 3) rfl)))) (F.2.2.1.2.2 ("java/lang/Integer", "java/lang/Integer") (by decide +kernel)) (sg_rbx F hB hbx) dX14_taken_28 ?_
    refine sg_callVr F hB (m_unbox l D cy hbx _) (cwV 0 F.1.2.2.2.2 (mgV (mm_8 _ (List.mem_of_getElem? (i := 5) rfl)) (mm_8 _ (List.mem_of_getElem? (i := 6) rfl)) (mm_8 _ (List.mem_of_getElem? (i := 7) rfl)) (mm_7 _ (List.mem_of_getElem? (i := 30) rfl)) (mm_8 _ (List.mem_of_getElem? (i := 1) rfl))) rfl rfl rfl ⟨rfl, by decide, by decide, by decide +kernel⟩ ⟨Nat.le_of_ble_eq_true rfl, Nat.le_of_ble_eq_true rfl⟩) rfl hl.1 rfl (Nat.le_of_ble_eq_true rfl) dX14_taken_31 (Nat.le_of_ble_eq_true rfl) (Nat.add_le_add_right (Nat.le_of_ble_eq_true rfl) _) (sg_rbx F hB hbx) (fun H locs v σ31 N hBn hX31 hP => ?_)
    clear hB; have hB := hBn; clear hBn
    obtain ⟨⟨y31, rfl⟩, rfl⟩ := hP
    refine sg_iast hx hb F.2.1 hB.1 dX14_taken_34 hT9.2.1 (by omega) (m_ltN hT9.2.2.1 (by omega)) (m_ltM hT9.2.2.1 (by omega)) (fun H locs hs1 => ?_)
    have hBn := sgB_w hB hs1 (fun _ => rfl) (fun _ => rfl) (Nat.le_of_eq (sgPot_I (Or.inl (by rw [show sgT _ _ = _ from hT9.2.1]; decide))))
    clear hB; have hB := hBn; clear hBn
    refine lv_iinc (lv' := [(2, .int _), (1, .ref _), (0, .ref _)]) hx hb dX14_taken_35 hl (k := 0) rfl rfl (by decide) rfl (fun ls hl => ?_)
    refine lv_goto (tgt := 12) hx hb dX14_taken_38 (by decide) ?_
    have e8 : (i9 + Int32.ofInt 1).toInt = i9.toInt + 1 := m_add1 (by omega) (by omega)
    exact ih12 _ (by subst hd12; rw [e8]; omega) _ _ _ _ _ _ hB (lv_sub hl [0, 1, 2] rfl) ⟨by rw [e8]; omega, by rw [e8]; omega⟩ ⟨oFr_PI hT9.1 hq7, hT9.2.1, hT9.2.2.1, hT9.2.2.2⟩ rfl
end MM37
