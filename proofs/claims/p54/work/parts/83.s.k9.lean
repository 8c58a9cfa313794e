section CLK9
theorem dX9_isAddressUsed_0 : decode cX9_isAddressUsed 0 = .ok (.iconst 0, 1) := by decide +kernel
theorem dX9_isAddressUsed_1 : decode cX9_isAddressUsed 1 = .ok (.istore_n 2, 1) := by decide +kernel
theorem dX9_isAddressUsed_2 : decode cX9_isAddressUsed 2 = .ok (.iload_n 2, 1) := by decide +kernel
theorem dX9_isAddressUsed_3 : decode cX9_isAddressUsed 3 = .ok (.bipush 16, 2) := by decide +kernel
theorem dX9_isAddressUsed_5 : decode cX9_isAddressUsed 5 = .ok (.if_icmp .ge 24, 3) := by decide +kernel
theorem dX9_isAddressUsed_8 : decode cX9_isAddressUsed 8 = .ok (.aload_n 0, 1) := by decide +kernel
theorem dX9_isAddressUsed_9 : decode cX9_isAddressUsed 9 = .ok (.getfield 11, 3) := by decide +kernel
theorem dX9_isAddressUsed_12 : decode cX9_isAddressUsed 12 = .ok (.iload_n 2, 1) := by decide +kernel
theorem dX9_isAddressUsed_13 : decode cX9_isAddressUsed 13 = .ok (.aaload, 1) := by decide +kernel
theorem dX9_isAddressUsed_14 : decode cX9_isAddressUsed 14 = .ok (.getfield 196, 3) := by decide +kernel
theorem dX9_isAddressUsed_17 : decode cX9_isAddressUsed 17 = .ok (.iload_n 1, 1) := by decide +kernel
theorem dX9_isAddressUsed_18 : decode cX9_isAddressUsed 18 = .ok (.if_icmp .ne 5, 3) := by decide +kernel
theorem dX9_isAddressUsed_21 : decode cX9_isAddressUsed 21 = .ok (.iconst 1, 1) := by decide +kernel
theorem dX9_isAddressUsed_22 : decode cX9_isAddressUsed 22 = .ok (.ireturn, 1) := by decide +kernel
theorem dX9_isAddressUsed_23 : decode cX9_isAddressUsed 23 = .ok (.iinc 2 1, 3) := by decide +kernel
theorem dX9_isAddressUsed_26 : decode cX9_isAddressUsed 26 = .ok (.goto (-24), 3) := by decide +kernel
theorem dX9_isAddressUsed_29 : decode cX9_isAddressUsed 29 = .ok (.iconst 0, 1) := by decide +kernel
theorem dX9_isAddressUsed_30 : decode cX9_isAddressUsed 30 = .ok (.ireturn, 1) := by decide +kernel
set_option maxRecDepth 100000 in
set_option maxHeartbeats 4000000 in
theorem k_used (l : Launch) (D : va_G) (cy : Nat → ClassId) {ad τ : List Nat} {Y : CY} {σ : SG} (hV : VL cy ad τ Y σ) (x : Int32) (sz : Nat) : clM l D cy ad τ Y σ sz yX9_isAddressUsed (Cond.code yX9_isAddressUsed cX9_isAddressUsed 3 (some .boolean) :: vWall) 0 0 [.ref (yX Y), .int x] (fun v s2 => (∃ b : Int32, v = some (.int b) ∧ sgb b (∃ i, i < 16 ∧ sgI σ (yd Y i) 13 = x)) ∧ σ = s2) := by
  refine cl_ofW (cc := cX9_isAddressUsed) (maxL := 3) (ret := (some .boolean)) hV (by decide) rfl (Nat.le_of_ble_eq_true rfl) (lv := [(0, .ref (yX Y)), (1, .int x)]) rfl (fun p e s m below meth c ls H hrt hnm F hB hl => ?_) sz
  have hx := F.1.1
  have hb := F.1.2.1
  have hown := F.1.2.2.2.1
  generalize hlo : ([] : List Loc) = locs at hB ⊢
  clear hlo
  obtain ⟨LX, LD, Ld, LE, Le, LP9, Lp, Lt, LU, LA, Lz⟩ := hV.2
  have e0 : (0 : Int32).toInt = 0 := rfl
  have e1 : (1 : Int32).toInt = 1 := rfl
  have e16 : (16 : Int32).toInt = 16 := rfl
  have e12 : (12 : Int32).toInt = 12 := rfl
  refine lv_iconst (v := 0) hx hb dX9_isAddressUsed_0 (by decide) ?_
  refine lv_istore_n (lv' := [(2, .int _), (0, .ref _), (1, .int _)]) hx hb dX9_isAddressUsed_1 rfl hl (by decide) rfl (fun ls hl => ?_)
  have key2 : ∃ i2 : Int32, clB D cy ad τ Y s σ H locs ∧ lv_has ls 3 [(2, .int i2), (1, .int x), (0, .ref (yX Y))] ∧ (0 ≤ i2.toInt ∧ i2.toInt ≤ 16) ∧ ∀ n, n < i2.toInt.toNat → ¬ sgI σ (yd Y n) 13 = x := ⟨_, hB, (lv_sub hl [0, 2, 1] rfl), ⟨by decide, by decide⟩, fun n hn => absurd hn (by rw [e0]; exact Nat.not_lt_zero n)⟩
  clear hB hl
  obtain ⟨i2, hB, hl, hi, hv⟩ := key2
  obtain ⟨d2, hd2⟩ : ∃ d : Nat, d = 20 - i2.toInt.toNat := ⟨_, rfl⟩
  induction d2 using Nat.strongRecOn generalizing H locs ls i2
  rename_i d2 ih2
  refine lv_iload_n hx hb dX9_isAddressUsed_2 rfl (lv_at hl 0 rfl) ?_
  refine lv_bipush (v := 16) hx hb dX9_isAddressUsed_3 (by decide) ?_
  refine lv_icmp_ge (tgt := 29) hx hb dX9_isAddressUsed_5 (by decide) (fun c5 => ?_) (fun c5 => ?_)
  · refine lv_iconst (v := 0) hx hb dX9_isAddressUsed_29 (by decide) ?_
    exact cl_zret F hB hrt dX9_isAddressUsed_30 rfl (⟨⟨_, rfl, sgb_0 (fun ⟨i, h1, h2⟩ => hv i (by have := i_le c5; omega) h2)⟩, rfl⟩)
  · refine lv_aload_n hx hb dX9_isAddressUsed_8 rfl (lv_at hl 2 rfl) ?_
    refine gr_X9_11 F hB dX9_isAddressUsed_9 LX.1 LX.2.1 ?_
    refine lv_iload_n hx hb dX9_isAddressUsed_12 rfl (lv_at hl 0 rfl) ?_
    have hn := i_nle c5
    have hj : i2.toInt.toNat < 16 := by omega
    refine sg_aald 4 hx hb F.2.1 hB.1 rfl rfl dX9_isAddressUsed_13 LD.1 (by omega) (by rw [LD.2.1]; omega) (by rw [LD.2.1]; decide) ?_
    rw [show sgR _ _ _ = some _ from LD.2.2 _ hj]
    refine gf_X9_196 F hB dX9_isAddressUsed_14 (Ld _ hj).1 ?_
    refine lv_iload_n hx hb dX9_isAddressUsed_17 rfl (lv_at hl 1 rfl) ?_
    refine lv_icmp_ne (tgt := 23) hx hb dX9_isAddressUsed_18 (by decide) (fun c18 => ?_) (fun c18 => ?_)
    · refine lv_iinc (lv' := [(2, .int _), (1, .int _), (0, .ref _)]) hx hb dX9_isAddressUsed_23 hl (k := 0) rfl rfl (by decide) rfl (fun ls hl => ?_)
      refine lv_goto (tgt := 2) hx hb dX9_isAddressUsed_26 (by decide) ?_
      have q9 := cl_add1 (x := i2) (by omega) (by omega)
      exact ih2 _ (by subst hd2; rw [q9]; omega) _ _ _ _ hB (lv_sub hl [0, 1, 2] rfl) ⟨by rw [q9]; omega, by rw [q9]; omega⟩ (fun n hn => by rw [q9] at hn; exact (Nat.lt_or_ge n i2.toInt.toNat).elim (hv n) (fun z => by rw [show n = i2.toInt.toNat by omega]; exact c18)) rfl
    · refine lv_iconst (v := 1) hx hb dX9_isAddressUsed_21 (by decide) ?_
      exact cl_zret F hB hrt dX9_isAddressUsed_22 rfl (⟨⟨_, rfl, sgb_1 ⟨_, hj, c18⟩⟩, rfl⟩)

theorem dX9_lowestFreeAddress_0 : decode cX9_lowestFreeAddress 0 = .ok (.iconst 1, 1) := by decide +kernel
theorem dX9_lowestFreeAddress_1 : decode cX9_lowestFreeAddress 1 = .ok (.istore_n 1, 1) := by decide +kernel
theorem dX9_lowestFreeAddress_2 : decode cX9_lowestFreeAddress 2 = .ok (.iload_n 1, 1) := by decide +kernel
theorem dX9_lowestFreeAddress_3 : decode cX9_lowestFreeAddress 3 = .ok (.bipush 16, 2) := by decide +kernel
theorem dX9_lowestFreeAddress_5 : decode cX9_lowestFreeAddress 5 = .ok (.if_icmp .ge 17, 3) := by decide +kernel
theorem dX9_lowestFreeAddress_8 : decode cX9_lowestFreeAddress 8 = .ok (.aload_n 0, 1) := by decide +kernel
theorem dX9_lowestFreeAddress_9 : decode cX9_lowestFreeAddress 9 = .ok (.iload_n 1, 1) := by decide +kernel
theorem dX9_lowestFreeAddress_10 : decode cX9_lowestFreeAddress 10 = .ok (.invokevirtual 555, 3) := by decide +kernel
theorem dX9_lowestFreeAddress_13 : decode cX9_lowestFreeAddress 13 = .ok (.ifCond .eq 9, 3) := by decide +kernel
theorem dX9_lowestFreeAddress_16 : decode cX9_lowestFreeAddress 16 = .ok (.iinc 1 1, 3) := by decide +kernel
theorem dX9_lowestFreeAddress_19 : decode cX9_lowestFreeAddress 19 = .ok (.goto (-17), 3) := by decide +kernel
theorem dX9_lowestFreeAddress_22 : decode cX9_lowestFreeAddress 22 = .ok (.iload_n 1, 1) := by decide +kernel
theorem dX9_lowestFreeAddress_23 : decode cX9_lowestFreeAddress 23 = .ok (.ireturn, 1) := by decide +kernel
set_option maxRecDepth 100000 in
set_option maxHeartbeats 4000000 in
theorem k_free (l : Launch) (D : va_G) (cy : Nat → ClassId) {ad τ : List Nat} {Y : CY} {σ : SG} (hV : VL cy ad τ Y σ)  (sz : Nat) : clM l D cy ad τ Y σ sz yX9_lowestFreeAddress (Cond.code yX9_lowestFreeAddress cX9_lowestFreeAddress 2 (some .int) :: vWall) 1 22 [.ref (yX Y)] (fun v s2 => (∃ z : Int32, v = some (.int z) ∧ (1 ≤ z.toInt ∧ z.toInt ≤ 16) ∧ (z.toInt < 16 → ∀ i, i < 16 → ¬ sgI σ (yd Y i) 13 = z) ∧ ∀ x : Int32, 1 ≤ x.toInt → x.toInt < z.toInt → ∃ i, i < 16 ∧ sgI σ (yd Y i) 13 = x) ∧ σ = s2) := by
  refine cl_ofW (cc := cX9_lowestFreeAddress) (maxL := 2) (ret := (some .int)) hV (by decide) rfl (Nat.le_of_ble_eq_true rfl) (lv := [(0, .ref (yX Y))]) rfl (fun p e s m below meth c ls H hrt hnm F hB hl => ?_) sz
  have hx := F.1.1
  have hb := F.1.2.1
  have hown := F.1.2.2.2.1
  generalize hlo : ([] : List Loc) = locs at hB ⊢
  clear hlo
  obtain ⟨LX, LD, Ld, LE, Le, LP9, Lp, Lt, LU, LA, Lz⟩ := hV.2
  have e0 : (0 : Int32).toInt = 0 := rfl
  have e1 : (1 : Int32).toInt = 1 := rfl
  have e16 : (16 : Int32).toInt = 16 := rfl
  have e12 : (12 : Int32).toInt = 12 := rfl
  refine lv_iconst (v := 1) hx hb dX9_lowestFreeAddress_0 (by decide) ?_
  refine lv_istore_n (lv' := [(1, .int _), (0, .ref _)]) hx hb dX9_lowestFreeAddress_1 rfl hl (by decide) rfl (fun ls hl => ?_)
  have key2 : ∃ z1 : Int32, clB D cy ad τ Y s σ H locs ∧ lv_has ls 2 [(1, .int z1), (0, .ref (yX Y))] ∧ (1 ≤ z1.toInt ∧ z1.toInt ≤ 16) ∧ ∀ x : Int32, 1 ≤ x.toInt → x.toInt < z1.toInt → ∃ i, i < 16 ∧ sgI σ (yd Y i) 13 = x := ⟨_, hB, (lv_sub hl [0, 1] rfl), ⟨by decide, by decide⟩, fun x h1 h2 => by omega⟩
  clear hB hl
  obtain ⟨z1, hB, hl, hi, hv⟩ := key2
  obtain ⟨d2, hd2⟩ : ∃ d : Nat, d = 20 - z1.toInt.toNat := ⟨_, rfl⟩
  induction d2 using Nat.strongRecOn generalizing H locs ls z1
  rename_i d2 ih2
  refine lv_iload_n hx hb dX9_lowestFreeAddress_2 rfl (lv_at hl 0 rfl) ?_
  refine lv_bipush (v := 16) hx hb dX9_lowestFreeAddress_3 (by decide) ?_
  refine lv_icmp_ge (tgt := 22) hx hb dX9_lowestFreeAddress_5 (by decide) (fun c5 => ?_) (fun c5 => ?_)
  · refine lv_iload_n hx hb dX9_lowestFreeAddress_22 rfl (lv_at hl 0 rfl) ?_
    exact cl_iret F hB hrt dX9_lowestFreeAddress_23 (by first | exact ⟨⟨_, rfl, hi, fun _ i h1 h2 => sgb_f hb10 c13 ⟨i, h1, h2⟩, hv⟩, rfl⟩ | exact ⟨⟨_, rfl, hi, fun h => absurd h (by have := i_le c5; omega), hv⟩, rfl⟩)
  · refine lv_aload_n hx hb dX9_lowestFreeAddress_8 rfl (lv_at hl 1 rfl) ?_
    refine lv_iload_n hx hb dX9_lowestFreeAddress_9 rfl (lv_at hl 0 rfl) ?_
    have hn := i_nle c5
    refine cl_callV (ci := 14) F hB (k_used l D cy hB.2 _ _) (cwV 1 F.1.2.2.2.2 (vgV (vm_6 _ (List.mem_of_getElem? (i := 20) rfl)) (vm_6 _ (List.mem_of_getElem? (i := 21) rfl)) (vm_6 _ (List.mem_of_getElem? (i := 22) rfl)) (vm_4 _ (List.mem_of_getElem? (i := 20) rfl)) (vm_6 _ (List.mem_of_getElem? (i := 18) rfl))) rfl rfl rfl ⟨rfl, by decide, by decide, by decide +kernel⟩ ⟨Nat.le_of_ble_eq_true rfl, Nat.le_of_ble_eq_true rfl⟩) rfl rfl (by decide) rfl hl.1 rfl (Nat.le_of_ble_eq_true rfl) dX9_lowestFreeAddress_10 ⟨Nat.le_of_ble_eq_true rfl, Nat.le_of_ble_eq_true rfl⟩ LX.1 (fun H locs v σ10 hB hP => ?_)
    obtain ⟨⟨b10, rfl, hb10⟩, rfl⟩ := hP
    refine lv_if_eq (tgt := 22) hx hb dX9_lowestFreeAddress_13 (by decide) (fun c13 => ?_) (fun c13 => ?_)
    · refine lv_iload_n hx hb dX9_lowestFreeAddress_22 rfl (lv_at hl 0 rfl) ?_
      exact cl_iret F hB hrt dX9_lowestFreeAddress_23 (by first | exact ⟨⟨_, rfl, hi, fun _ i h1 h2 => sgb_f hb10 c13 ⟨i, h1, h2⟩, hv⟩, rfl⟩ | exact ⟨⟨_, rfl, hi, fun h => absurd h (by have := i_le c5; omega), hv⟩, rfl⟩)
    · refine lv_iinc (lv' := [(1, .int _), (0, .ref _)]) hx hb dX9_lowestFreeAddress_16 hl (k := 0) rfl rfl (by decide) rfl (fun ls hl => ?_)
      refine lv_goto (tgt := 2) hx hb dX9_lowestFreeAddress_19 (by decide) ?_
      have q9 := cl_add1 (x := z1) (by omega) (by omega)
      exact ih2 _ (by subst hd2; rw [q9]; omega) _ _ _ _ hB (lv_sub hl [0, 1] rfl) ⟨by rw [q9]; omega, by rw [q9]; omega⟩ (fun x h1 h2 => by rw [q9] at h2; exact (Int.lt_or_le x.toInt z1.toInt).elim (hv x h1) (fun z => by rw [i_eq.mpr (show x.toInt = z1.toInt by omega)]; exact sgb_t hb10 c13)) rfl

theorem dX9_firstClosedPipe_0 : decode cX9_firstClosedPipe 0 = .ok (.iconst 0, 1) := by decide +kernel
theorem dX9_firstClosedPipe_1 : decode cX9_firstClosedPipe 1 = .ok (.istore_n 1, 1) := by decide +kernel
theorem dX9_firstClosedPipe_2 : decode cX9_firstClosedPipe 2 = .ok (.iload_n 1, 1) := by decide +kernel
theorem dX9_firstClosedPipe_3 : decode cX9_firstClosedPipe 3 = .ok (.bipush 12, 2) := by decide +kernel
theorem dX9_firstClosedPipe_5 : decode cX9_firstClosedPipe 5 = .ok (.if_icmp .ge 28, 3) := by decide +kernel
theorem dX9_firstClosedPipe_8 : decode cX9_firstClosedPipe 8 = .ok (.aload_n 0, 1) := by decide +kernel
theorem dX9_firstClosedPipe_9 : decode cX9_firstClosedPipe 9 = .ok (.getfield 24, 3) := by decide +kernel
theorem dX9_firstClosedPipe_12 : decode cX9_firstClosedPipe 12 = .ok (.iload_n 1, 1) := by decide +kernel
theorem dX9_firstClosedPipe_13 : decode cX9_firstClosedPipe 13 = .ok (.aaload, 1) := by decide +kernel
theorem dX9_firstClosedPipe_14 : decode cX9_firstClosedPipe 14 = .ok (.invokevirtual 536, 3) := by decide +kernel
theorem dX9_firstClosedPipe_17 : decode cX9_firstClosedPipe 17 = .ok (.ifCond .ne 10, 3) := by decide +kernel
theorem dX9_firstClosedPipe_20 : decode cX9_firstClosedPipe 20 = .ok (.aload_n 0, 1) := by decide +kernel
theorem dX9_firstClosedPipe_21 : decode cX9_firstClosedPipe 21 = .ok (.getfield 24, 3) := by decide +kernel
theorem dX9_firstClosedPipe_24 : decode cX9_firstClosedPipe 24 = .ok (.iload_n 1, 1) := by decide +kernel
theorem dX9_firstClosedPipe_25 : decode cX9_firstClosedPipe 25 = .ok (.aaload, 1) := by decide +kernel
theorem dX9_firstClosedPipe_26 : decode cX9_firstClosedPipe 26 = .ok (.areturn, 1) := by decide +kernel
theorem dX9_firstClosedPipe_27 : decode cX9_firstClosedPipe 27 = .ok (.iinc 1 1, 3) := by decide +kernel
theorem dX9_firstClosedPipe_30 : decode cX9_firstClosedPipe 30 = .ok (.goto (-28), 3) := by decide +kernel
theorem dX9_firstClosedPipe_33 : decode cX9_firstClosedPipe 33 = .ok (.aconst_null, 1) := by decide +kernel
theorem dX9_firstClosedPipe_34 : decode cX9_firstClosedPipe 34 = .ok (.areturn, 1) := by decide +kernel
set_option maxRecDepth 100000 in
set_option maxHeartbeats 4000000 in
theorem k_fcp (l : Launch) (D : va_G) (cy : Nat → ClassId) {ad τ : List Nat} {Y : CY} {σ : SG} (hV : VL cy ad τ Y σ)  (sz : Nat) : clM l D cy ad τ Y σ sz yX9_firstClosedPipe (Cond.code yX9_firstClosedPipe cX9_firstClosedPipe 2 (some (.object "Hubcascade$Pipe")) :: vWall) 1 20 [.ref (yX Y)] (fun v s2 => (v = some .null ∨ ∃ j, j < 12 ∧ v = some (.ref (yp Y j)) ∧ sgR σ (yp Y j) 1 = none) ∧ σ = s2) := by
  refine cl_ofW (cc := cX9_firstClosedPipe) (maxL := 2) (ret := (some (.object "Hubcascade$Pipe"))) hV (by decide) rfl (Nat.le_of_ble_eq_true rfl) (lv := [(0, .ref (yX Y))]) rfl (fun p e s m below meth c ls H hrt hnm F hB hl => ?_) sz
  have hx := F.1.1
  have hb := F.1.2.1
  have hown := F.1.2.2.2.1
  generalize hlo : ([] : List Loc) = locs at hB ⊢
  clear hlo
  obtain ⟨LX, LD, Ld, LE, Le, LP9, Lp, Lt, LU, LA, Lz⟩ := hV.2
  have e0 : (0 : Int32).toInt = 0 := rfl
  have e1 : (1 : Int32).toInt = 1 := rfl
  have e16 : (16 : Int32).toInt = 16 := rfl
  have e12 : (12 : Int32).toInt = 12 := rfl
  refine lv_iconst (v := 0) hx hb dX9_firstClosedPipe_0 (by decide) ?_
  refine lv_istore_n (lv' := [(1, .int _), (0, .ref _)]) hx hb dX9_firstClosedPipe_1 rfl hl (by decide) rfl (fun ls hl => ?_)
  have key2 : ∃ i1 : Int32, clB D cy ad τ Y s σ H locs ∧ lv_has ls 2 [(1, .int i1), (0, .ref (yX Y))] ∧ (0 ≤ i1.toInt ∧ i1.toInt ≤ 12) ∧ 0 ≤ i1.toInt := ⟨_, hB, (lv_sub hl [0, 1] rfl), ⟨by decide, by decide⟩, by decide⟩
  clear hB hl
  obtain ⟨i1, hB, hl, hi, hv⟩ := key2
  obtain ⟨d2, hd2⟩ : ∃ d : Nat, d = 20 - i1.toInt.toNat := ⟨_, rfl⟩
  induction d2 using Nat.strongRecOn generalizing H locs ls i1
  rename_i d2 ih2
  refine lv_iload_n hx hb dX9_firstClosedPipe_2 rfl (lv_at hl 0 rfl) ?_
  refine lv_bipush (v := 12) hx hb dX9_firstClosedPipe_3 (by decide) ?_
  refine lv_icmp_ge (tgt := 33) hx hb dX9_firstClosedPipe_5 (by decide) (fun c5 => ?_) (fun c5 => ?_)
  · refine lv_null hx hb dX9_firstClosedPipe_33 ?_
    exact cl_aret F hB hrt (Or.inl ⟨_, rfl⟩) (Or.inl rfl) dX9_firstClosedPipe_34 (⟨Or.inl rfl, rfl⟩)
  · refine lv_aload_n hx hb dX9_firstClosedPipe_8 rfl (lv_at hl 1 rfl) ?_
    refine gr_X9_24 F hB dX9_firstClosedPipe_9 LX.1 LX.2.2.1 ?_
    refine lv_iload_n hx hb dX9_firstClosedPipe_12 rfl (lv_at hl 0 rfl) ?_
    have hn := i_nle c5
    have hj : i1.toInt.toNat < 12 := by omega
    refine sg_aald 6 hx hb F.2.1 hB.1 rfl rfl dX9_firstClosedPipe_13 LP9.1 (by omega) (by rw [LP9.2.1]; omega) (by rw [LP9.2.1]; decide) ?_
    rw [show sgR _ _ _ = some _ from LP9.2.2 _ hj]
    refine cl_callN (ci := 10) F hB (k_isOpen l D cy hB.2 (Lp _ hj).1 _) ⟨va_cnB 0 F.1.2.2.2.2 (vgN (vm_2 _ (List.mem_of_getElem? (i := 11) rfl))) rfl rfl rfl (F.2.2.1.1 _ nf_144) (F.1.2.2.2.2 _ (List.mem_cons_of_mem _ (vm_2 _ (List.mem_of_getElem? (i := 22) rfl)))) ⟨by decide, by decide, by decide +kernel⟩ ⟨Nat.le_of_ble_eq_true rfl, Nat.le_of_ble_eq_true rfl⟩, F.1.2.2.2.2 _ (List.mem_cons_of_mem _ (vm_7 _ (List.mem_of_getElem? (i := 39) rfl))), F.1.2.2.2.2 _ (List.mem_cons_of_mem _ (vm_8 _ (List.mem_of_getElem? (i := 0) rfl)))⟩ rfl rfl (by decide) rfl hl.1 rfl (Nat.le_of_ble_eq_true rfl) dX9_firstClosedPipe_14 ⟨Nat.le_of_ble_eq_true rfl, Nat.le_of_ble_eq_true rfl⟩ (Lp _ hj).1 (fun H locs v σ14 hB hP => ?_)
    obtain ⟨⟨b14, rfl, hb14⟩, rfl⟩ := hP
    refine lv_if_ne (tgt := 27) hx hb dX9_firstClosedPipe_17 (by decide) (fun c17 => ?_) (fun c17 => ?_)
    · refine lv_iinc (lv' := [(1, .int _), (0, .ref _)]) hx hb dX9_firstClosedPipe_27 hl (k := 0) rfl rfl (by decide) rfl (fun ls hl => ?_)
      refine lv_goto (tgt := 2) hx hb dX9_firstClosedPipe_30 (by decide) ?_
      have q9 := cl_add1 (x := i1) (by omega) (by omega)
      exact ih2 _ (by subst hd2; rw [q9]; omega) _ _ _ _ hB (lv_sub hl [0, 1] rfl) ⟨by rw [q9]; omega, by rw [q9]; omega⟩ (by rw [q9]; omega) rfl
    · refine lv_aload_n hx hb dX9_firstClosedPipe_20 rfl (lv_at hl 1 rfl) ?_
      refine gr_X9_24 F hB dX9_firstClosedPipe_21 LX.1 LX.2.2.1 ?_
      refine lv_iload_n hx hb dX9_firstClosedPipe_24 rfl (lv_at hl 0 rfl) ?_
      refine sg_aald 6 hx hb F.2.1 hB.1 rfl rfl dX9_firstClosedPipe_25 LP9.1 (by omega) (by rw [LP9.2.1]; omega) (by rw [LP9.2.1]; decide) ?_
      rw [show sgR _ _ _ = some _ from LP9.2.2 _ hj]
      exact cl_aret F hB hrt (Or.inl ⟨_, rfl⟩) (Or.inr ⟨_, rfl⟩) dX9_firstClosedPipe_26 (⟨Or.inr ⟨_, hj, rfl, (by cases e : sgR σ (yp Y i1.toInt.toNat) 1 with | none => rfl | some d => exact absurd ⟨d, e⟩ (sgb_f hb14 c17))⟩, rfl⟩)
end CLK9
