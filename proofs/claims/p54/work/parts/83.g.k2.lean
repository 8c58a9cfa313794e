section CLK2
theorem dX9_areHubsPlugged_0 : decode cX9_areHubsPlugged 0 = .ok (.iconst 1, 1) := by decide +kernel
theorem dX9_areHubsPlugged_1 : decode cX9_areHubsPlugged 1 = .ok (.istore_n 1, 1) := by decide +kernel
theorem dX9_areHubsPlugged_2 : decode cX9_areHubsPlugged 2 = .ok (.iload_n 1, 1) := by decide +kernel
theorem dX9_areHubsPlugged_3 : decode cX9_areHubsPlugged 3 = .ok (.bipush 16, 2) := by decide +kernel
theorem dX9_areHubsPlugged_5 : decode cX9_areHubsPlugged 5 = .ok (.if_icmp .ge 46, 3) := by decide +kernel
theorem dX9_areHubsPlugged_8 : decode cX9_areHubsPlugged 8 = .ok (.aload_n 0, 1) := by decide +kernel
theorem dX9_areHubsPlugged_9 : decode cX9_areHubsPlugged 9 = .ok (.getfield 11, 3) := by decide +kernel
theorem dX9_areHubsPlugged_12 : decode cX9_areHubsPlugged 12 = .ok (.iload_n 1, 1) := by decide +kernel
theorem dX9_areHubsPlugged_13 : decode cX9_areHubsPlugged 13 = .ok (.aaload, 1) := by decide +kernel
theorem dX9_areHubsPlugged_14 : decode cX9_areHubsPlugged 14 = .ok (.astore_n 2, 1) := by decide +kernel
theorem dX9_areHubsPlugged_15 : decode cX9_areHubsPlugged 15 = .ok (.aload_n 2, 1) := by decide +kernel
theorem dX9_areHubsPlugged_16 : decode cX9_areHubsPlugged 16 = .ok (.getfield 74, 3) := by decide +kernel
theorem dX9_areHubsPlugged_19 : decode cX9_areHubsPlugged 19 = .ok (.bipush 117, 2) := by decide +kernel
theorem dX9_areHubsPlugged_21 : decode cX9_areHubsPlugged 21 = .ok (.if_icmp .eq 24, 3) := by decide +kernel
theorem dX9_areHubsPlugged_24 : decode cX9_areHubsPlugged 24 = .ok (.aload_n 2, 1) := by decide +kernel
theorem dX9_areHubsPlugged_25 : decode cX9_areHubsPlugged 25 = .ok (.getfield 171, 3) := by decide +kernel
theorem dX9_areHubsPlugged_28 : decode cX9_areHubsPlugged 28 = .ok (.ifnull 15, 3) := by decide +kernel
theorem dX9_areHubsPlugged_31 : decode cX9_areHubsPlugged 31 = .ok (.aload_n 2, 1) := by decide +kernel
theorem dX9_areHubsPlugged_32 : decode cX9_areHubsPlugged 32 = .ok (.getfield 171, 3) := by decide +kernel
theorem dX9_areHubsPlugged_35 : decode cX9_areHubsPlugged 35 = .ok (.getfield 74, 3) := by decide +kernel
theorem dX9_areHubsPlugged_38 : decode cX9_areHubsPlugged 38 = .ok (.bipush 117, 2) := by decide +kernel
theorem dX9_areHubsPlugged_40 : decode cX9_areHubsPlugged 40 = .ok (.if_icmp .ne 5, 3) := by decide +kernel
theorem dX9_areHubsPlugged_45 : decode cX9_areHubsPlugged 45 = .ok (.iinc 1 1, 3) := by decide +kernel
theorem dX9_areHubsPlugged_48 : decode cX9_areHubsPlugged 48 = .ok (.goto (-46), 3) := by decide +kernel
theorem dX9_areHubsPlugged_51 : decode cX9_areHubsPlugged 51 = .ok (.iconst 1, 1) := by decide +kernel
theorem dX9_areHubsPlugged_52 : decode cX9_areHubsPlugged 52 = .ok (.ireturn, 1) := by decide +kernel
set_option maxRecDepth 100000 in
set_option maxHeartbeats 4000000 in
theorem k_hubs (l : Launch) (D : va_G) (cy : Nat → ClassId) {ad τ : List Nat} {Y : CY} {σ : SG} (hV : VL cy ad τ Y σ) (hA : sA Y σ) (sz : Nat) : clM l D cy ad τ Y σ sz yX9_areHubsPlugged (Cond.code yX9_areHubsPlugged cX9_areHubsPlugged 3 (some .boolean) :: vWall) 0 0 [.ref (yX Y)] (fun v s2 => (∃ b : Int32, v = some (.int b) ∧ b = 1) ∧ σ = s2) := by
  refine cl_ofW (cc := cX9_areHubsPlugged) (maxL := 3) (ret := (some .boolean)) hV (by decide) rfl (Nat.le_of_ble_eq_true rfl) (lv := [(0, .ref (yX Y))]) rfl (fun p e s m below meth c ls H hrt hnm F hB hl => ?_) sz
  have hx := F.1.1
  have hb := F.1.2.1
  have hown := F.1.2.2.2.1
  generalize hlo : ([] : List Loc) = locs at hB ⊢
  clear hlo
  obtain ⟨LX, LD, Ld, LE, Le, LP9, Lp, Lt, LU, LA, Lz⟩ := hV.2
  have e16 : (16 : Int32).toInt = 16 := rfl
  have e8 : (8 : Int32).toInt = 8 := rfl
  have e3 : (3 : Int32).toInt = 3 := rfl
  refine lv_iconst (v := 1) hx hb dX9_areHubsPlugged_0 (by decide) ?_
  refine lv_istore_n (lv' := [(1, .int _), (0, .ref _)]) hx hb dX9_areHubsPlugged_1 rfl hl (by decide) rfl (fun ls hl => ?_)
  have key2 : ∃ i4 : Int32, clB D cy ad τ Y s σ H locs ∧ lv_has ls 3 [(1, .int i4), (0, .ref (yX Y))] ∧ (1 ≤ i4.toInt ∧ i4.toInt ≤ 16) := ⟨_, hB, (lv_sub hl [0, 1] rfl), ⟨by first | decide | omega, by first | decide | (have e0 : (0 : Int32).toInt = 0 := rfl; omega)⟩⟩
  clear hB hl
  obtain ⟨i4, hB, hl, hi4⟩ := key2
  obtain ⟨d2, hd2⟩ : ∃ d : Nat, d = 20 - i4.toInt.toNat := ⟨_, rfl⟩
  induction d2 using Nat.strongRecOn generalizing H locs ls i4
  rename_i d2 ih2
  refine lv_iload_n hx hb dX9_areHubsPlugged_2 rfl (lv_at hl 0 rfl) ?_
  refine lv_bipush (v := 16) hx hb dX9_areHubsPlugged_3 (by decide) ?_
  refine lv_icmp_ge (tgt := 51) hx hb dX9_areHubsPlugged_5 (by decide) (fun c5 => ?_) (fun c5 => ?_)
  · refine lv_iconst (v := 1) hx hb dX9_areHubsPlugged_51 (by decide) ?_
    exact cl_zret F hB hrt dX9_areHubsPlugged_52 rfl (⟨⟨_, rfl, rfl⟩, rfl⟩)
  · refine lv_aload_n hx hb dX9_areHubsPlugged_8 rfl (lv_at hl 1 rfl) ?_
    refine gr_X9_11 F hB dX9_areHubsPlugged_9 LX.1 LX.2.1 ?_
    refine lv_iload_n hx hb dX9_areHubsPlugged_12 rfl (lv_at hl 0 rfl) ?_
    have hn := i_nle c5
    have hj : i4.toInt.toNat < 16 := by omega
    refine sg_aald 4 hx hb F.2.1 hB.1 rfl rfl dX9_areHubsPlugged_13 LD.1 (by omega) (by rw [LD.2.1]; omega) (by rw [LD.2.1]; decide) ?_
    rw [show sgR _ _ _ = some _ from LD.2.2 _ hj]
    refine lv_astore_n (lv' := [(2, .ref _), (1, .int _), (0, .ref _)]) hx hb dX9_areHubsPlugged_14 rfl hl (by decide) rfl (fun ls hl => ?_)
    refine lv_aload_n hx hb dX9_areHubsPlugged_15 rfl (lv_at hl 0 rfl) ?_
    refine gf_X9_74 F hB dX9_areHubsPlugged_16 (Ld _ hj).1 ?_
    refine lv_bipush (v := 117) hx hb dX9_areHubsPlugged_19 (by decide) ?_
    refine lv_icmp_eq (tgt := 45) hx hb dX9_areHubsPlugged_21 (by decide) (fun c21 => ?_) (fun c21 => ?_)
    · refine lv_iinc (lv' := [(1, .int _), (2, .ref _), (0, .ref _)]) hx hb dX9_areHubsPlugged_45 hl (k := 1) rfl rfl (by decide) rfl (fun ls hl => ?_)
      refine lv_goto (tgt := 2) hx hb dX9_areHubsPlugged_48 (by decide) ?_
      have q2 := cl_add1 (x := i4) (by omega) (by omega)
      exact ih2 _ (by subst hd2; rw [q2]; omega) _ _ _ _ hB (lv_sub hl [0, 2] rfl) ⟨by rw [q2]; omega, by rw [q2]; omega⟩ rfl
    · obtain ⟨b9, hb1, hb2, hb3⟩ := hA i4.toInt.toNat hj (by omega) c21
      refine lv_aload_n hx hb dX9_areHubsPlugged_24 rfl (lv_at hl 0 rfl) ?_
      refine gr_X9_171 F hB dX9_areHubsPlugged_25 (Ld _ hj).1 hb1 ?_
      refine lv_ifnull hx hb dX9_areHubsPlugged_28 ?_
      refine lv_aload_n hx hb dX9_areHubsPlugged_31 rfl (lv_at hl 0 rfl) ?_
      refine gr_X9_171 F hB dX9_areHubsPlugged_32 (Ld _ hj).1 hb1 ?_
      refine gf_X9_74 F hB dX9_areHubsPlugged_35 hb2 ?_
      refine lv_bipush (v := 117) hx hb dX9_areHubsPlugged_38 (by decide) ?_
      refine lv_icmp_ne (tgt := 45) hx hb dX9_areHubsPlugged_40 (by decide) (fun c40 => ?_) (fun c40 => (hb3 c40).elim)
      refine lv_iinc (lv' := [(1, .int _), (2, .ref _), (0, .ref _)]) hx hb dX9_areHubsPlugged_45 hl (k := 1) rfl rfl (by decide) rfl (fun ls hl => ?_)
      refine lv_goto (tgt := 2) hx hb dX9_areHubsPlugged_48 (by decide) ?_
      have q2 := cl_add1 (x := i4) (by omega) (by omega)
      exact ih2 _ (by subst hd2; rw [q2]; omega) _ _ _ _ hB (lv_sub hl [0, 2] rfl) ⟨by rw [q2]; omega, by rw [q2]; omega⟩ rfl

theorem dX9_areAddressesUnlike_0 : decode cX9_areAddressesUnlike 0 = .ok (.iconst 0, 1) := by decide +kernel
theorem dX9_areAddressesUnlike_1 : decode cX9_areAddressesUnlike 1 = .ok (.istore_n 1, 1) := by decide +kernel
theorem dX9_areAddressesUnlike_2 : decode cX9_areAddressesUnlike 2 = .ok (.iload_n 1, 1) := by decide +kernel
theorem dX9_areAddressesUnlike_3 : decode cX9_areAddressesUnlike 3 = .ok (.bipush 16, 2) := by decide +kernel
theorem dX9_areAddressesUnlike_5 : decode cX9_areAddressesUnlike 5 = .ok (.if_icmp .ge 57, 3) := by decide +kernel
theorem dX9_areAddressesUnlike_8 : decode cX9_areAddressesUnlike 8 = .ok (.iconst 0, 1) := by decide +kernel
theorem dX9_areAddressesUnlike_9 : decode cX9_areAddressesUnlike 9 = .ok (.istore_n 2, 1) := by decide +kernel
theorem dX9_areAddressesUnlike_10 : decode cX9_areAddressesUnlike 10 = .ok (.iload_n 2, 1) := by decide +kernel
theorem dX9_areAddressesUnlike_11 : decode cX9_areAddressesUnlike 11 = .ok (.iload_n 1, 1) := by decide +kernel
theorem dX9_areAddressesUnlike_12 : decode cX9_areAddressesUnlike 12 = .ok (.if_icmp .ge 44, 3) := by decide +kernel
theorem dX9_areAddressesUnlike_15 : decode cX9_areAddressesUnlike 15 = .ok (.aload_n 0, 1) := by decide +kernel
theorem dX9_areAddressesUnlike_16 : decode cX9_areAddressesUnlike 16 = .ok (.getfield 11, 3) := by decide +kernel
theorem dX9_areAddressesUnlike_19 : decode cX9_areAddressesUnlike 19 = .ok (.iload_n 1, 1) := by decide +kernel
theorem dX9_areAddressesUnlike_20 : decode cX9_areAddressesUnlike 20 = .ok (.aaload, 1) := by decide +kernel
theorem dX9_areAddressesUnlike_21 : decode cX9_areAddressesUnlike 21 = .ok (.getfield 196, 3) := by decide +kernel
theorem dX9_areAddressesUnlike_24 : decode cX9_areAddressesUnlike 24 = .ok (.ifCond .eq 26, 3) := by decide +kernel
theorem dX9_areAddressesUnlike_27 : decode cX9_areAddressesUnlike 27 = .ok (.aload_n 0, 1) := by decide +kernel
theorem dX9_areAddressesUnlike_28 : decode cX9_areAddressesUnlike 28 = .ok (.getfield 11, 3) := by decide +kernel
theorem dX9_areAddressesUnlike_31 : decode cX9_areAddressesUnlike 31 = .ok (.iload_n 1, 1) := by decide +kernel
theorem dX9_areAddressesUnlike_32 : decode cX9_areAddressesUnlike 32 = .ok (.aaload, 1) := by decide +kernel
theorem dX9_areAddressesUnlike_33 : decode cX9_areAddressesUnlike 33 = .ok (.getfield 196, 3) := by decide +kernel
theorem dX9_areAddressesUnlike_36 : decode cX9_areAddressesUnlike 36 = .ok (.aload_n 0, 1) := by decide +kernel
theorem dX9_areAddressesUnlike_37 : decode cX9_areAddressesUnlike 37 = .ok (.getfield 11, 3) := by decide +kernel
theorem dX9_areAddressesUnlike_40 : decode cX9_areAddressesUnlike 40 = .ok (.iload_n 2, 1) := by decide +kernel
theorem dX9_areAddressesUnlike_41 : decode cX9_areAddressesUnlike 41 = .ok (.aaload, 1) := by decide +kernel
theorem dX9_areAddressesUnlike_42 : decode cX9_areAddressesUnlike 42 = .ok (.getfield 196, 3) := by decide +kernel
theorem dX9_areAddressesUnlike_45 : decode cX9_areAddressesUnlike 45 = .ok (.if_icmp .ne 5, 3) := by decide +kernel
theorem dX9_areAddressesUnlike_50 : decode cX9_areAddressesUnlike 50 = .ok (.iinc 2 1, 3) := by decide +kernel
theorem dX9_areAddressesUnlike_53 : decode cX9_areAddressesUnlike 53 = .ok (.goto (-43), 3) := by decide +kernel
theorem dX9_areAddressesUnlike_56 : decode cX9_areAddressesUnlike 56 = .ok (.iinc 1 1, 3) := by decide +kernel
theorem dX9_areAddressesUnlike_59 : decode cX9_areAddressesUnlike 59 = .ok (.goto (-57), 3) := by decide +kernel
theorem dX9_areAddressesUnlike_62 : decode cX9_areAddressesUnlike 62 = .ok (.iconst 1, 1) := by decide +kernel
theorem dX9_areAddressesUnlike_63 : decode cX9_areAddressesUnlike 63 = .ok (.ireturn, 1) := by decide +kernel
set_option maxRecDepth 100000 in
set_option maxHeartbeats 4000000 in
theorem k_addrs (l : Launch) (D : va_G) (cy : Nat → ClassId) {ad τ : List Nat} {Y : CY} {σ : SG} (hV : VL cy ad τ Y σ) (hA : sB Y σ) (sz : Nat) : clM l D cy ad τ Y σ sz yX9_areAddressesUnlike (Cond.code yX9_areAddressesUnlike cX9_areAddressesUnlike 3 (some .boolean) :: vWall) 0 0 [.ref (yX Y)] (fun v s2 => (∃ b : Int32, v = some (.int b) ∧ b = 1) ∧ σ = s2) := by
  refine cl_ofW (cc := cX9_areAddressesUnlike) (maxL := 3) (ret := (some .boolean)) hV (by decide) rfl (Nat.le_of_ble_eq_true rfl) (lv := [(0, .ref (yX Y))]) rfl (fun p e s m below meth c ls H hrt hnm F hB hl => ?_) sz
  have hx := F.1.1
  have hb := F.1.2.1
  have hown := F.1.2.2.2.1
  generalize hlo : ([] : List Loc) = locs at hB ⊢
  clear hlo
  obtain ⟨LX, LD, Ld, LE, Le, LP9, Lp, Lt, LU, LA, Lz⟩ := hV.2
  have e16 : (16 : Int32).toInt = 16 := rfl
  have e8 : (8 : Int32).toInt = 8 := rfl
  have e3 : (3 : Int32).toInt = 3 := rfl
  refine lv_iconst (v := 0) hx hb dX9_areAddressesUnlike_0 (by decide) ?_
  refine lv_istore_n (lv' := [(1, .int _), (0, .ref _)]) hx hb dX9_areAddressesUnlike_1 rfl hl (by decide) rfl (fun ls hl => ?_)
  have key2 : ∃ i4 : Int32, clB D cy ad τ Y s σ H locs ∧ lv_has ls 3 [(1, .int i4), (0, .ref (yX Y))] ∧ (0 ≤ i4.toInt ∧ i4.toInt ≤ 16) := ⟨_, hB, (lv_sub hl [0, 1] rfl), ⟨by first | decide | omega, by first | decide | (have e0 : (0 : Int32).toInt = 0 := rfl; omega)⟩⟩
  clear hB hl
  obtain ⟨i4, hB, hl, hi4⟩ := key2
  obtain ⟨d2, hd2⟩ : ∃ d : Nat, d = 20 - i4.toInt.toNat := ⟨_, rfl⟩
  induction d2 using Nat.strongRecOn generalizing H locs ls i4
  rename_i d2 ih2
  refine lv_iload_n hx hb dX9_areAddressesUnlike_2 rfl (lv_at hl 0 rfl) ?_
  refine lv_bipush (v := 16) hx hb dX9_areAddressesUnlike_3 (by decide) ?_
  refine lv_icmp_ge (tgt := 62) hx hb dX9_areAddressesUnlike_5 (by decide) (fun c5 => ?_) (fun c5 => ?_)
  · refine lv_iconst (v := 1) hx hb dX9_areAddressesUnlike_62 (by decide) ?_
    exact cl_zret F hB hrt dX9_areAddressesUnlike_63 rfl (⟨⟨_, rfl, rfl⟩, rfl⟩)
  · have hn := i_nle c5
    have hi : i4.toInt.toNat < 16 := by omega
    refine lv_iconst (v := 0) hx hb dX9_areAddressesUnlike_8 (by decide) ?_
    refine lv_istore_n (lv' := [(2, .int _), (1, .int _), (0, .ref _)]) hx hb dX9_areAddressesUnlike_9 rfl hl (by decide) rfl (fun ls hl => ?_)
    have key10 : ∃ j4 : Int32, clB D cy ad τ Y s σ H locs ∧ lv_has ls 3 [(2, .int j4), (1, .int i4), (0, .ref (yX Y))] ∧ (0 ≤ j4.toInt ∧ j4.toInt ≤ i4.toInt) := ⟨_, hB, (lv_sub hl [0, 1, 2] rfl), ⟨by first | decide | omega, by first | decide | (have e0 : (0 : Int32).toInt = 0 := rfl; omega)⟩⟩
    clear hB hl
    obtain ⟨j4, hB, hl, hj4⟩ := key10
    obtain ⟨d10, hd10⟩ : ∃ d : Nat, d = 20 - j4.toInt.toNat := ⟨_, rfl⟩
    induction d10 using Nat.strongRecOn generalizing H locs ls j4
    rename_i d10 ih10
    refine lv_iload_n hx hb dX9_areAddressesUnlike_10 rfl (lv_at hl 0 rfl) ?_
    refine lv_iload_n hx hb dX9_areAddressesUnlike_11 rfl (lv_at hl 1 rfl) ?_
    refine lv_icmp_ge (tgt := 56) hx hb dX9_areAddressesUnlike_12 (by decide) (fun c12 => ?_) (fun c12 => ?_)
    · refine lv_iinc (lv' := [(1, .int _), (2, .int _), (0, .ref _)]) hx hb dX9_areAddressesUnlike_56 hl (k := 1) rfl rfl (by decide) rfl (fun ls hl => ?_)
      refine lv_goto (tgt := 2) hx hb dX9_areAddressesUnlike_59 (by decide) ?_
      have q2 := cl_add1 (x := i4) (by omega) (by omega)
      exact ih2 _ (by subst hd2; rw [q2]; omega) _ _ _ _ hB (lv_sub hl [0, 2] rfl) ⟨by rw [q2]; omega, by rw [q2]; omega⟩ rfl
    · refine lv_aload_n hx hb dX9_areAddressesUnlike_15 rfl (lv_at hl 2 rfl) ?_
      refine gr_X9_11 F hB dX9_areAddressesUnlike_16 LX.1 LX.2.1 ?_
      refine lv_iload_n hx hb dX9_areAddressesUnlike_19 rfl (lv_at hl 1 rfl) ?_
      have hm := i_nle c12
      have hj : j4.toInt.toNat < i4.toInt.toNat := by omega
      refine sg_aald 4 hx hb F.2.1 hB.1 rfl rfl dX9_areAddressesUnlike_20 LD.1 (by omega) (by rw [LD.2.1]; omega) (by rw [LD.2.1]; decide) ?_
      rw [show sgR _ _ _ = some _ from LD.2.2 _ hi]
      refine gf_X9_196 F hB dX9_areAddressesUnlike_21 (Ld _ hi).1 ?_
      refine lv_if_eq (tgt := 50) hx hb dX9_areAddressesUnlike_24 (by decide) (fun c24 => ?_) (fun c24 => ?_)
      · refine lv_iinc (lv' := [(2, .int _), (1, .int _), (0, .ref _)]) hx hb dX9_areAddressesUnlike_50 hl (k := 0) rfl rfl (by decide) rfl (fun ls hl => ?_)
        refine lv_goto (tgt := 10) hx hb dX9_areAddressesUnlike_53 (by decide) ?_
        have q10 := cl_add1 (x := j4) (by omega) (by omega)
        exact ih10 _ (by subst hd10; rw [q10]; omega) _ _ _ _ hB (lv_sub hl [0, 1, 2] rfl) ⟨by rw [q10]; omega, by rw [q10]; omega⟩ rfl
      · refine lv_aload_n hx hb dX9_areAddressesUnlike_27 rfl (lv_at hl 2 rfl) ?_
        refine gr_X9_11 F hB dX9_areAddressesUnlike_28 LX.1 LX.2.1 ?_
        refine lv_iload_n hx hb dX9_areAddressesUnlike_31 rfl (lv_at hl 1 rfl) ?_
        refine sg_aald 4 hx hb F.2.1 hB.1 rfl rfl dX9_areAddressesUnlike_32 LD.1 (by omega) (by rw [LD.2.1]; omega) (by rw [LD.2.1]; decide) ?_
        rw [show sgR _ _ _ = some _ from LD.2.2 _ hi]
        refine gf_X9_196 F hB dX9_areAddressesUnlike_33 (Ld _ hi).1 ?_
        refine lv_aload_n hx hb dX9_areAddressesUnlike_36 rfl (lv_at hl 2 rfl) ?_
        refine gr_X9_11 F hB dX9_areAddressesUnlike_37 LX.1 LX.2.1 ?_
        refine lv_iload_n hx hb dX9_areAddressesUnlike_40 rfl (lv_at hl 0 rfl) ?_
        refine sg_aald 4 hx hb F.2.1 hB.1 rfl rfl dX9_areAddressesUnlike_41 LD.1 hj4.1 (by rw [LD.2.1]; omega) (by rw [LD.2.1]; decide) ?_
        rw [show sgR _ _ _ = some _ from LD.2.2 _ (by omega)]
        refine gf_X9_196 F hB dX9_areAddressesUnlike_42 (Ld _ (by omega)).1 ?_
        refine lv_icmp_ne (tgt := 50) hx hb dX9_areAddressesUnlike_45 (by decide) (fun c45 => ?_) (fun c45 => (hA _ _ hi hj c24 c45).elim)
        refine lv_iinc (lv' := [(2, .int _), (1, .int _), (0, .ref _)]) hx hb dX9_areAddressesUnlike_50 hl (k := 0) rfl rfl (by decide) rfl (fun ls hl => ?_)
        refine lv_goto (tgt := 10) hx hb dX9_areAddressesUnlike_53 (by decide) ?_
        have q10 := cl_add1 (x := j4) (by omega) (by omega)
        exact ih10 _ (by subst hd10; rw [q10]; omega) _ _ _ _ hB (lv_sub hl [0, 1, 2] rfl) ⟨by rw [q10]; omega, by rw [q10]; omega⟩ rfl

theorem dX9_isNothingInvented_0 : decode cX9_isNothingInvented 0 = .ok (.iconst 0, 1) := by decide +kernel
theorem dX9_isNothingInvented_1 : decode cX9_isNothingInvented 1 = .ok (.istore_n 1, 1) := by decide +kernel
theorem dX9_isNothingInvented_2 : decode cX9_isNothingInvented 2 = .ok (.iload_n 1, 1) := by decide +kernel
theorem dX9_isNothingInvented_3 : decode cX9_isNothingInvented 3 = .ok (.bipush 16, 2) := by decide +kernel
theorem dX9_isNothingInvented_5 : decode cX9_isNothingInvented 5 = .ok (.if_icmp .ge 64, 3) := by decide +kernel
theorem dX9_isNothingInvented_8 : decode cX9_isNothingInvented 8 = .ok (.iconst 0, 1) := by decide +kernel
theorem dX9_isNothingInvented_9 : decode cX9_isNothingInvented 9 = .ok (.istore_n 2, 1) := by decide +kernel
theorem dX9_isNothingInvented_10 : decode cX9_isNothingInvented 10 = .ok (.iload_n 2, 1) := by decide +kernel
theorem dX9_isNothingInvented_11 : decode cX9_isNothingInvented 11 = .ok (.iconst 3, 1) := by decide +kernel
theorem dX9_isNothingInvented_12 : decode cX9_isNothingInvented 12 = .ok (.if_icmp .ge 51, 3) := by decide +kernel
theorem dX9_isNothingInvented_15 : decode cX9_isNothingInvented 15 = .ok (.aload_n 0, 1) := by decide +kernel
theorem dX9_isNothingInvented_16 : decode cX9_isNothingInvented 16 = .ok (.getfield 11, 3) := by decide +kernel
theorem dX9_isNothingInvented_19 : decode cX9_isNothingInvented 19 = .ok (.iload_n 1, 1) := by decide +kernel
theorem dX9_isNothingInvented_20 : decode cX9_isNothingInvented 20 = .ok (.aaload, 1) := by decide +kernel
theorem dX9_isNothingInvented_21 : decode cX9_isNothingInvented 21 = .ok (.getfield 130, 3) := by decide +kernel
theorem dX9_isNothingInvented_24 : decode cX9_isNothingInvented 24 = .ok (.iload_n 2, 1) := by decide +kernel
theorem dX9_isNothingInvented_25 : decode cX9_isNothingInvented 25 = .ok (.aaload, 1) := by decide +kernel
theorem dX9_isNothingInvented_26 : decode cX9_isNothingInvented 26 = .ok (.astore_n 3, 1) := by decide +kernel
theorem dX9_isNothingInvented_27 : decode cX9_isNothingInvented 27 = .ok (.aload_n 3, 1) := by decide +kernel
theorem dX9_isNothingInvented_28 : decode cX9_isNothingInvented 28 = .ok (.getfield 134, 3) := by decide +kernel
theorem dX9_isNothingInvented_31 : decode cX9_isNothingInvented 31 = .ok (.ifCond .eq 26, 3) := by decide +kernel
theorem dX9_isNothingInvented_34 : decode cX9_isNothingInvented 34 = .ok (.aload_n 3, 1) := by decide +kernel
theorem dX9_isNothingInvented_35 : decode cX9_isNothingInvented 35 = .ok (.getfield 144, 3) := by decide +kernel
theorem dX9_isNothingInvented_38 : decode cX9_isNothingInvented 38 = .ok (.ifCond .ne 19, 3) := by decide +kernel
theorem dX9_isNothingInvented_41 : decode cX9_isNothingInvented 41 = .ok (.aload_n 3, 1) := by decide +kernel
theorem dX9_isNothingInvented_42 : decode cX9_isNothingInvented 42 = .ok (.getfield 395, 3) := by decide +kernel
theorem dX9_isNothingInvented_45 : decode cX9_isNothingInvented 45 = .ok (.getfield 474, 3) := by decide +kernel
theorem dX9_isNothingInvented_48 : decode cX9_isNothingInvented 48 = .ok (.aload_n 3, 1) := by decide +kernel
theorem dX9_isNothingInvented_49 : decode cX9_isNothingInvented 49 = .ok (.getfield 629, 3) := by decide +kernel
theorem dX9_isNothingInvented_52 : decode cX9_isNothingInvented 52 = .ok (.if_icmp .le 5, 3) := by decide +kernel
theorem dX9_isNothingInvented_57 : decode cX9_isNothingInvented 57 = .ok (.iinc 2 1, 3) := by decide +kernel
theorem dX9_isNothingInvented_60 : decode cX9_isNothingInvented 60 = .ok (.goto (-50), 3) := by decide +kernel
theorem dX9_isNothingInvented_63 : decode cX9_isNothingInvented 63 = .ok (.iinc 1 1, 3) := by decide +kernel
theorem dX9_isNothingInvented_66 : decode cX9_isNothingInvented 66 = .ok (.goto (-64), 3) := by decide +kernel
theorem dX9_isNothingInvented_69 : decode cX9_isNothingInvented 69 = .ok (.iconst 1, 1) := by decide +kernel
theorem dX9_isNothingInvented_70 : decode cX9_isNothingInvented 70 = .ok (.ireturn, 1) := by decide +kernel
set_option maxRecDepth 100000 in
set_option maxHeartbeats 4000000 in
theorem k_bytes (l : Launch) (D : va_G) (cy : Nat → ClassId) {ad τ : List Nat} {Y : CY} {σ : SG} (hV : VL cy ad τ Y σ) (hA : sD Y σ) (sz : Nat) : clM l D cy ad τ Y σ sz yX9_isNothingInvented (Cond.code yX9_isNothingInvented cX9_isNothingInvented 4 (some .boolean) :: vWall) 0 0 [.ref (yX Y)] (fun v s2 => (∃ b : Int32, v = some (.int b) ∧ b = 1) ∧ σ = s2) := by
  refine cl_ofW (cc := cX9_isNothingInvented) (maxL := 4) (ret := (some .boolean)) hV (by decide) rfl (Nat.le_of_ble_eq_true rfl) (lv := [(0, .ref (yX Y))]) rfl (fun p e s m below meth c ls H hrt hnm F hB hl => ?_) sz
  have hx := F.1.1
  have hb := F.1.2.1
  have hown := F.1.2.2.2.1
  generalize hlo : ([] : List Loc) = locs at hB ⊢
  clear hlo
  obtain ⟨LX, LD, Ld, LE, Le, LP9, Lp, Lt, LU, LA, Lz⟩ := hV.2
  have e16 : (16 : Int32).toInt = 16 := rfl
  have e8 : (8 : Int32).toInt = 8 := rfl
  have e3 : (3 : Int32).toInt = 3 := rfl
  refine lv_iconst (v := 0) hx hb dX9_isNothingInvented_0 (by decide) ?_
  refine lv_istore_n (lv' := [(1, .int _), (0, .ref _)]) hx hb dX9_isNothingInvented_1 rfl hl (by decide) rfl (fun ls hl => ?_)
  have key2 : ∃ i4 : Int32, clB D cy ad τ Y s σ H locs ∧ lv_has ls 4 [(1, .int i4), (0, .ref (yX Y))] ∧ (0 ≤ i4.toInt ∧ i4.toInt ≤ 16) := ⟨_, hB, (lv_sub hl [0, 1] rfl), ⟨by first | decide | omega, by first | decide | (have e0 : (0 : Int32).toInt = 0 := rfl; omega)⟩⟩
  clear hB hl
  obtain ⟨i4, hB, hl, hi4⟩ := key2
  obtain ⟨d2, hd2⟩ : ∃ d : Nat, d = 20 - i4.toInt.toNat := ⟨_, rfl⟩
  induction d2 using Nat.strongRecOn generalizing H locs ls i4
  rename_i d2 ih2
  refine lv_iload_n hx hb dX9_isNothingInvented_2 rfl (lv_at hl 0 rfl) ?_
  refine lv_bipush (v := 16) hx hb dX9_isNothingInvented_3 (by decide) ?_
  refine lv_icmp_ge (tgt := 69) hx hb dX9_isNothingInvented_5 (by decide) (fun c5 => ?_) (fun c5 => ?_)
  · refine lv_iconst (v := 1) hx hb dX9_isNothingInvented_69 (by decide) ?_
    exact cl_zret F hB hrt dX9_isNothingInvented_70 rfl (⟨⟨_, rfl, rfl⟩, rfl⟩)
  · have hn := i_nle c5
    have hi : i4.toInt.toNat < 16 := by omega
    refine lv_iconst (v := 0) hx hb dX9_isNothingInvented_8 (by decide) ?_
    refine lv_istore_n (lv' := [(2, .int _), (1, .int _), (0, .ref _)]) hx hb dX9_isNothingInvented_9 rfl hl (by decide) rfl (fun ls hl => ?_)
    have key10 : ∃ j4 : Int32, clB D cy ad τ Y s σ H locs ∧ lv_has ls 4 [(2, .int j4), (1, .int i4), (0, .ref (yX Y))] ∧ (0 ≤ j4.toInt ∧ j4.toInt ≤ 3) := ⟨_, hB, (lv_sub hl [0, 1, 2] rfl), ⟨by first | decide | omega, by first | decide | (have e0 : (0 : Int32).toInt = 0 := rfl; omega)⟩⟩
    clear hB hl
    obtain ⟨j4, hB, hl, hj4⟩ := key10
    obtain ⟨d10, hd10⟩ : ∃ d : Nat, d = 20 - j4.toInt.toNat := ⟨_, rfl⟩
    induction d10 using Nat.strongRecOn generalizing H locs ls j4
    rename_i d10 ih10
    refine lv_iload_n hx hb dX9_isNothingInvented_10 rfl (lv_at hl 0 rfl) ?_
    refine lv_iconst (v := 3) hx hb dX9_isNothingInvented_11 (by decide) ?_
    refine lv_icmp_ge (tgt := 63) hx hb dX9_isNothingInvented_12 (by decide) (fun c12 => ?_) (fun c12 => ?_)
    · refine lv_iinc (lv' := [(1, .int _), (2, .int _), (0, .ref _)]) hx hb dX9_isNothingInvented_63 hl (k := 1) rfl rfl (by decide) rfl (fun ls hl => ?_)
      refine lv_goto (tgt := 2) hx hb dX9_isNothingInvented_66 (by decide) ?_
      have q2 := cl_add1 (x := i4) (by omega) (by omega)
      exact ih2 _ (by subst hd2; rw [q2]; omega) _ _ _ _ hB (lv_sub hl [0, 2] rfl) ⟨by rw [q2]; omega, by rw [q2]; omega⟩ rfl
    · refine lv_aload_n hx hb dX9_isNothingInvented_15 rfl (lv_at hl 2 rfl) ?_
      refine gr_X9_11 F hB dX9_isNothingInvented_16 LX.1 LX.2.1 ?_
      refine lv_iload_n hx hb dX9_isNothingInvented_19 rfl (lv_at hl 1 rfl) ?_
      have hm := i_nle c12
      have hk : j4.toInt.toNat < 3 := by omega
      refine sg_aald 4 hx hb F.2.1 hB.1 rfl rfl dX9_isNothingInvented_20 LD.1 (by omega) (by rw [LD.2.1]; omega) (by rw [LD.2.1]; decide) ?_
      rw [show sgR _ _ _ = some _ from LD.2.2 _ hi]
      refine gr_X9_130 F hB dX9_isNothingInvented_21 (Ld _ hi).1 (Ld _ hi).2.2 ?_
      refine lv_iload_n hx hb dX9_isNothingInvented_24 rfl (lv_at hl 0 rfl) ?_
      refine sg_aald 5 hx hb F.2.1 hB.1 rfl rfl dX9_isNothingInvented_25 (LE _ hi).1 hj4.1 (by rw [(LE _ hi).2.1]; omega) (by rw [(LE _ hi).2.1]; decide) ?_
      rw [show sgR _ _ _ = some _ from (LE _ hi).2.2 _ hk]
      refine lv_astore_n (lv' := [(3, .ref _), (2, .int _), (1, .int _), (0, .ref _)]) hx hb dX9_isNothingInvented_26 rfl hl (by decide) rfl (fun ls hl => ?_)
      refine lv_aload_n hx hb dX9_isNothingInvented_27 rfl (lv_at hl 0 rfl) ?_
      refine gf_X9_134 F hB dX9_isNothingInvented_28 (Le _ _ hi hk).1 ?_
      refine lv_if_eq (tgt := 57) hx hb dX9_isNothingInvented_31 (by decide) (fun c31 => ?_) (fun c31 => ?_)
      · refine lv_iinc (lv' := [(2, .int _), (3, .ref _), (1, .int _), (0, .ref _)]) hx hb dX9_isNothingInvented_57 hl (k := 1) rfl rfl (by decide) rfl (fun ls hl => ?_)
        refine lv_goto (tgt := 10) hx hb dX9_isNothingInvented_60 (by decide) ?_
        have q10 := cl_add1 (x := j4) (by omega) (by omega)
        exact ih10 _ (by subst hd10; rw [q10]; omega) _ _ _ _ hB (lv_sub hl [0, 2, 3] rfl) ⟨by rw [q10]; omega, by rw [q10]; omega⟩ rfl
      · refine lv_aload_n hx hb dX9_isNothingInvented_34 rfl (lv_at hl 0 rfl) ?_
        refine gf_X9_144 F hB dX9_isNothingInvented_35 (Le _ _ hi hk).1 ?_
        refine lv_if_ne (tgt := 57) hx hb dX9_isNothingInvented_38 (by decide) (fun c38 => ?_) (fun c38 => ?_)
        · refine lv_iinc (lv' := [(2, .int _), (3, .ref _), (1, .int _), (0, .ref _)]) hx hb dX9_isNothingInvented_57 hl (k := 1) rfl rfl (by decide) rfl (fun ls hl => ?_)
          refine lv_goto (tgt := 10) hx hb dX9_isNothingInvented_60 (by decide) ?_
          have q10 := cl_add1 (x := j4) (by omega) (by omega)
          exact ih10 _ (by subst hd10; rw [q10]; omega) _ _ _ _ hB (lv_sub hl [0, 2, 3] rfl) ⟨by rw [q10]; omega, by rw [q10]; omega⟩ rfl
        · refine lv_aload_n hx hb dX9_isNothingInvented_41 rfl (lv_at hl 0 rfl) ?_
          refine gr_X9_395 F hB dX9_isNothingInvented_42 (Le _ _ hi hk).1 (Le _ _ hi hk).2.1 ?_
          refine gf_X9_474 F hB dX9_isNothingInvented_45 (Le _ _ hi hk).2.2 ?_
          refine lv_aload_n hx hb dX9_isNothingInvented_48 rfl (lv_at hl 0 rfl) ?_
          refine gf_X9_629 F hB dX9_isNothingInvented_49 (Le _ _ hi hk).1 ?_
          refine lv_icmp_le (tgt := 57) hx hb dX9_isNothingInvented_52 (by decide) (fun c52 => ?_) (fun c52 => ((by have w1 := i_nle c52; have w2 := hA _ _ hi hk c31 (by first | exact c38 | exact Classical.not_not.mp c38); omega : False)).elim)
          refine lv_iinc (lv' := [(2, .int _), (3, .ref _), (1, .int _), (0, .ref _)]) hx hb dX9_isNothingInvented_57 hl (k := 1) rfl rfl (by decide) rfl (fun ls hl => ?_)
          refine lv_goto (tgt := 10) hx hb dX9_isNothingInvented_60 (by decide) ?_
          have q10 := cl_add1 (x := j4) (by omega) (by omega)
          exact ih10 _ (by subst hd10; rw [q10]; omega) _ _ _ _ hB (lv_sub hl [0, 2, 3] rfl) ⟨by rw [q10]; omega, by rw [q10]; omega⟩ rfl

theorem dX9_areReservesRight_0 : decode cX9_areReservesRight 0 = .ok (.iconst 0, 1) := by decide +kernel
theorem dX9_areReservesRight_1 : decode cX9_areReservesRight 1 = .ok (.istore_n 1, 1) := by decide +kernel
theorem dX9_areReservesRight_2 : decode cX9_areReservesRight 2 = .ok (.iload_n 1, 1) := by decide +kernel
theorem dX9_areReservesRight_3 : decode cX9_areReservesRight 3 = .ok (.bipush 8, 2) := by decide +kernel
theorem dX9_areReservesRight_5 : decode cX9_areReservesRight 5 = .ok (.if_icmp .ge 90, 3) := by decide +kernel
theorem dX9_areReservesRight_8 : decode cX9_areReservesRight 8 = .ok (.aload_n 0, 1) := by decide +kernel
theorem dX9_areReservesRight_9 : decode cX9_areReservesRight 9 = .ok (.getfield 45, 3) := by decide +kernel
theorem dX9_areReservesRight_12 : decode cX9_areReservesRight 12 = .ok (.getfield 344, 3) := by decide +kernel
theorem dX9_areReservesRight_15 : decode cX9_areReservesRight 15 = .ok (.iload_n 1, 1) := by decide +kernel
theorem dX9_areReservesRight_16 : decode cX9_areReservesRight 16 = .ok (.iaload, 1) := by decide +kernel
theorem dX9_areReservesRight_17 : decode cX9_areReservesRight 17 = .ok (.aload_n 0, 1) := by decide +kernel
theorem dX9_areReservesRight_18 : decode cX9_areReservesRight 18 = .ok (.iload_n 1, 1) := by decide +kernel
theorem dX9_areReservesRight_19 : decode cX9_areReservesRight 19 = .ok (.iconst (-1), 1) := by decide +kernel
theorem dX9_areReservesRight_20 : decode cX9_areReservesRight 20 = .ok (.invokevirtual 647, 3) := by decide +kernel
theorem dX9_areReservesRight_23 : decode cX9_areReservesRight 23 = .ok (.if_icmp .ne 17, 3) := by decide +kernel
theorem dX9_areReservesRight_26 : decode cX9_areReservesRight 26 = .ok (.aload_n 0, 1) := by decide +kernel
theorem dX9_areReservesRight_27 : decode cX9_areReservesRight 27 = .ok (.getfield 45, 3) := by decide +kernel
theorem dX9_areReservesRight_30 : decode cX9_areReservesRight 30 = .ok (.getfield 344, 3) := by decide +kernel
theorem dX9_areReservesRight_33 : decode cX9_areReservesRight 33 = .ok (.iload_n 1, 1) := by decide +kernel
theorem dX9_areReservesRight_34 : decode cX9_areReservesRight 34 = .ok (.iaload, 1) := by decide +kernel
theorem dX9_areReservesRight_35 : decode cX9_areReservesRight 35 = .ok (.bipush 80, 2) := by decide +kernel
theorem dX9_areReservesRight_37 : decode cX9_areReservesRight 37 = .ok (.if_icmp .le 5, 3) := by decide +kernel
theorem dX9_areReservesRight_42 : decode cX9_areReservesRight 42 = .ok (.iconst 0, 1) := by decide +kernel
theorem dX9_areReservesRight_43 : decode cX9_areReservesRight 43 = .ok (.istore_n 2, 1) := by decide +kernel
theorem dX9_areReservesRight_44 : decode cX9_areReservesRight 44 = .ok (.iload_n 2, 1) := by decide +kernel
theorem dX9_areReservesRight_45 : decode cX9_areReservesRight 45 = .ok (.bipush 16, 2) := by decide +kernel
theorem dX9_areReservesRight_47 : decode cX9_areReservesRight 47 = .ok (.if_icmp .ge 42, 3) := by decide +kernel
theorem dX9_areReservesRight_50 : decode cX9_areReservesRight 50 = .ok (.aload_n 0, 1) := by decide +kernel
theorem dX9_areReservesRight_51 : decode cX9_areReservesRight 51 = .ok (.getfield 45, 3) := by decide +kernel
theorem dX9_areReservesRight_54 : decode cX9_areReservesRight 54 = .ok (.getfield 347, 3) := by decide +kernel
theorem dX9_areReservesRight_57 : decode cX9_areReservesRight 57 = .ok (.iload_n 2, 1) := by decide +kernel
theorem dX9_areReservesRight_58 : decode cX9_areReservesRight 58 = .ok (.bipush 8, 2) := by decide +kernel
theorem dX9_areReservesRight_60 : decode cX9_areReservesRight 60 = .ok (.imul, 1) := by decide +kernel
theorem dX9_areReservesRight_61 : decode cX9_areReservesRight 61 = .ok (.iload_n 1, 1) := by decide +kernel
theorem dX9_areReservesRight_62 : decode cX9_areReservesRight 62 = .ok (.iadd, 1) := by decide +kernel
theorem dX9_areReservesRight_63 : decode cX9_areReservesRight 63 = .ok (.iaload, 1) := by decide +kernel
theorem dX9_areReservesRight_64 : decode cX9_areReservesRight 64 = .ok (.istore_n 3, 1) := by decide +kernel
theorem dX9_areReservesRight_65 : decode cX9_areReservesRight 65 = .ok (.iload_n 3, 1) := by decide +kernel
theorem dX9_areReservesRight_66 : decode cX9_areReservesRight 66 = .ok (.aload_n 0, 1) := by decide +kernel
theorem dX9_areReservesRight_67 : decode cX9_areReservesRight 67 = .ok (.iload_n 1, 1) := by decide +kernel
theorem dX9_areReservesRight_68 : decode cX9_areReservesRight 68 = .ok (.iload_n 2, 1) := by decide +kernel
theorem dX9_areReservesRight_69 : decode cX9_areReservesRight 69 = .ok (.invokevirtual 647, 3) := by decide +kernel
theorem dX9_areReservesRight_72 : decode cX9_areReservesRight 72 = .ok (.if_icmp .ne 9, 3) := by decide +kernel
theorem dX9_areReservesRight_75 : decode cX9_areReservesRight 75 = .ok (.iload_n 3, 1) := by decide +kernel
theorem dX9_areReservesRight_76 : decode cX9_areReservesRight 76 = .ok (.bipush 48, 2) := by decide +kernel
theorem dX9_areReservesRight_78 : decode cX9_areReservesRight 78 = .ok (.if_icmp .le 5, 3) := by decide +kernel
theorem dX9_areReservesRight_83 : decode cX9_areReservesRight 83 = .ok (.iinc 2 1, 3) := by decide +kernel
theorem dX9_areReservesRight_86 : decode cX9_areReservesRight 86 = .ok (.goto (-42), 3) := by decide +kernel
theorem dX9_areReservesRight_89 : decode cX9_areReservesRight 89 = .ok (.iinc 1 1, 3) := by decide +kernel
theorem dX9_areReservesRight_92 : decode cX9_areReservesRight 92 = .ok (.goto (-90), 3) := by decide +kernel
theorem dX9_areReservesRight_95 : decode cX9_areReservesRight 95 = .ok (.iconst 1, 1) := by decide +kernel
theorem dX9_areReservesRight_96 : decode cX9_areReservesRight 96 = .ok (.ireturn, 1) := by decide +kernel
set_option maxRecDepth 100000 in
set_option maxHeartbeats 4000000 in
theorem k_units (l : Launch) (D : va_G) (cy : Nat → ClassId) {ad τ : List Nat} {Y : CY} {σ : SG} (hV : VL cy ad τ Y σ) (hA : sC Y σ) (sz : Nat) : clM l D cy ad τ Y σ sz yX9_areReservesRight (Cond.code yX9_areReservesRight cX9_areReservesRight 4 (some .boolean) :: vWall) 2 48 [.ref (yX Y)] (fun v s2 => (∃ b : Int32, v = some (.int b) ∧ b = 1) ∧ σ = s2) := by
  refine cl_ofW (cc := cX9_areReservesRight) (maxL := 4) (ret := (some .boolean)) hV (by decide) rfl (Nat.le_of_ble_eq_true rfl) (lv := [(0, .ref (yX Y))]) rfl (fun p e s m below meth c ls H hrt hnm F hB hl => ?_) sz
  have hx := F.1.1
  have hb := F.1.2.1
  have hown := F.1.2.2.2.1
  generalize hlo : ([] : List Loc) = locs at hB ⊢
  clear hlo
  obtain ⟨LX, LD, Ld, LE, Le, LP9, Lp, Lt, LU, LA, Lz⟩ := hV.2
  have e16 : (16 : Int32).toInt = 16 := rfl
  have e8 : (8 : Int32).toInt = 8 := rfl
  have e3 : (3 : Int32).toInt = 3 := rfl
  refine lv_iconst (v := 0) hx hb dX9_areReservesRight_0 (by decide) ?_
  refine lv_istore_n (lv' := [(1, .int _), (0, .ref _)]) hx hb dX9_areReservesRight_1 rfl hl (by decide) rfl (fun ls hl => ?_)
  have key2 : ∃ i4 : Int32, clB D cy ad τ Y s σ H locs ∧ lv_has ls 4 [(1, .int i4), (0, .ref (yX Y))] ∧ (0 ≤ i4.toInt ∧ i4.toInt ≤ 8) := ⟨_, hB, (lv_sub hl [0, 1] rfl), ⟨by first | decide | omega, by first | decide | (have e0 : (0 : Int32).toInt = 0 := rfl; omega)⟩⟩
  clear hB hl
  obtain ⟨i4, hB, hl, hi4⟩ := key2
  obtain ⟨d2, hd2⟩ : ∃ d : Nat, d = 20 - i4.toInt.toNat := ⟨_, rfl⟩
  induction d2 using Nat.strongRecOn generalizing H locs ls i4
  rename_i d2 ih2
  refine lv_iload_n hx hb dX9_areReservesRight_2 rfl (lv_at hl 0 rfl) ?_
  refine lv_bipush (v := 8) hx hb dX9_areReservesRight_3 (by decide) ?_
  refine lv_icmp_ge (tgt := 95) hx hb dX9_areReservesRight_5 (by decide) (fun c5 => ?_) (fun c5 => ?_)
  · refine lv_iconst (v := 1) hx hb dX9_areReservesRight_95 (by decide) ?_
    exact cl_zret F hB hrt dX9_areReservesRight_96 rfl (⟨⟨_, rfl, rfl⟩, rfl⟩)
  · refine lv_aload_n hx hb dX9_areReservesRight_8 rfl (lv_at hl 1 rfl) ?_
    refine gr_X9_45 F hB dX9_areReservesRight_9 LX.1 LX.2.2.2.1 ?_
    refine gr_X9_344 F hB dX9_areReservesRight_12 LU.1 LU.2.1 ?_
    refine lv_iload_n hx hb dX9_areReservesRight_15 rfl (lv_at hl 0 rfl) ?_
    have hn := i_nle c5
    have hi8 : i4.toInt < 8 := by omega
    have hS := hA.1 i4 hi4.1 hi8
    refine sg_iald hx hb F.2.1 hB.1 dX9_areReservesRight_16 LA.1 hi4.1 (by rw [LA.2.1]; omega) (by rw [LA.2.1]; decide) ?_
    refine lv_aload_n hx hb dX9_areReservesRight_17 rfl (lv_at hl 1 rfl) ?_
    refine lv_iload_n hx hb dX9_areReservesRight_18 rfl (lv_at hl 0 rfl) ?_
    refine lv_iconst (v := (-1)) hx hb dX9_areReservesRight_19 (by decide) ?_
    refine cl_callV (ci := 14) F hB (k_reckon l D cy hB.2 _ _ _) (cwV 2 F.1.2.2.2.2 (vgV (vm_11 _ (List.mem_of_getElem? (i := 7) rfl)) (vm_11 _ (List.mem_of_getElem? (i := 8) rfl)) (vm_11 _ (List.mem_of_getElem? (i := 9) rfl)) (vm_4 _ (List.mem_of_getElem? (i := 20) rfl)) (vm_11 _ (List.mem_of_getElem? (i := 5) rfl))) rfl rfl rfl ⟨rfl, by decide, by decide, by decide +kernel⟩ ⟨Nat.le_of_ble_eq_true rfl, Nat.le_of_ble_eq_true rfl⟩) rfl rfl (by decide) rfl hl.1 rfl (Nat.le_of_ble_eq_true rfl) dX9_areReservesRight_20 ⟨Nat.le_of_ble_eq_true rfl, Nat.le_of_ble_eq_true rfl⟩ LX.1 (fun H locs v σ20 hB hP => ?_)
    obtain ⟨⟨z20, rfl, hz20⟩, rfl⟩ := hP
    have q23 : sgI σ (yh Y) i4.toInt.toNat = z20 := i_eq.mpr (hS.1.trans (hz20.trans (sumTo_eq (fun j _ => rk_m1))).symm)
    refine lv_icmp_ne (tgt := 40) hx hb dX9_areReservesRight_23 (by decide) (fun c23 => (c23 q23).elim) (fun c23 => ?_)
    refine lv_aload_n hx hb dX9_areReservesRight_26 rfl (lv_at hl 1 rfl) ?_
    refine gr_X9_45 F hB dX9_areReservesRight_27 LX.1 LX.2.2.2.1 ?_
    refine gr_X9_344 F hB dX9_areReservesRight_30 LU.1 LU.2.1 ?_
    refine lv_iload_n hx hb dX9_areReservesRight_33 rfl (lv_at hl 0 rfl) ?_
    refine sg_iald hx hb F.2.1 hB.1 dX9_areReservesRight_34 LA.1 hi4.1 (by rw [LA.2.1]; omega) (by rw [LA.2.1]; decide) ?_
    refine lv_bipush (v := 80) hx hb dX9_areReservesRight_35 (by decide) ?_
    refine lv_icmp_le (tgt := 42) hx hb dX9_areReservesRight_37 (by decide) (fun c37 => ?_) (fun c37 => ((by have w1 := i_nle c37; have e80 : (80 : Int32).toInt = 80 := rfl; have := hS.1; have := hS.2; omega : False)).elim)
    refine lv_iconst (v := 0) hx hb dX9_areReservesRight_42 (by decide) ?_
    refine lv_istore_n (lv' := [(2, .int _), (1, .int _), (0, .ref _)]) hx hb dX9_areReservesRight_43 rfl hl (by decide) rfl (fun ls hl => ?_)
    have key44 : ∃ j4 : Int32, clB D cy ad τ Y s σ H locs ∧ lv_has ls 4 [(2, .int j4), (1, .int i4), (0, .ref (yX Y))] ∧ (0 ≤ j4.toInt ∧ j4.toInt ≤ 16) := ⟨_, hB, (lv_sub hl [0, 1, 2] rfl), ⟨by first | decide | omega, by first | decide | (have e0 : (0 : Int32).toInt = 0 := rfl; omega)⟩⟩
    clear hB hl
    obtain ⟨j4, hB, hl, hj4⟩ := key44
    obtain ⟨d44, hd44⟩ : ∃ d : Nat, d = 20 - j4.toInt.toNat := ⟨_, rfl⟩
    induction d44 using Nat.strongRecOn generalizing H locs ls j4
    rename_i d44 ih44
    refine lv_iload_n hx hb dX9_areReservesRight_44 rfl (lv_at hl 0 rfl) ?_
    refine lv_bipush (v := 16) hx hb dX9_areReservesRight_45 (by decide) ?_
    refine lv_icmp_ge (tgt := 89) hx hb dX9_areReservesRight_47 (by decide) (fun c47 => ?_) (fun c47 => ?_)
    · refine lv_iinc (lv' := [(1, .int _), (2, .int _), (0, .ref _)]) hx hb dX9_areReservesRight_89 hl (k := 1) rfl rfl (by decide) rfl (fun ls hl => ?_)
      refine lv_goto (tgt := 2) hx hb dX9_areReservesRight_92 (by decide) ?_
      have q2 := cl_add1 (x := i4) (by omega) (by omega)
      exact ih2 _ (by subst hd2; rw [q2]; omega) _ _ _ _ hB (lv_sub hl [0, 2] rfl) ⟨by rw [q2]; omega, by rw [q2]; omega⟩ rfl
    · refine lv_aload_n hx hb dX9_areReservesRight_50 rfl (lv_at hl 2 rfl) ?_
      refine gr_X9_45 F hB dX9_areReservesRight_51 LX.1 LX.2.2.2.1 ?_
      refine gr_X9_347 F hB dX9_areReservesRight_54 LU.1 LU.2.2 ?_
      refine lv_iload_n hx hb dX9_areReservesRight_57 rfl (lv_at hl 0 rfl) ?_
      refine lv_bipush (v := 8) hx hb dX9_areReservesRight_58 (by decide) ?_
      refine lv_imul hx hb dX9_areReservesRight_60 ?_
      refine lv_iload_n hx hb dX9_areReservesRight_61 rfl (lv_at hl 1 rfl) ?_
      refine lv_iadd hx hb dX9_areReservesRight_62 ?_
      have hm := i_nle c47
      have hj16 : j4.toInt < 16 := by omega
      have hx9 := ix_t hj4.1 hj16 hi4.1 hi8
      have hS2 := hA.2 i4 j4 hi4.1 hi8 hj4.1 hj16
      refine sg_iald hx hb F.2.1 hB.1 dX9_areReservesRight_63 LA.2.2.1 (by rw [hx9]; omega) (by rw [hx9, LA.2.2.2]; omega) (by rw [LA.2.2.2]; decide) ?_
      refine lv_istore_n (lv' := [(3, .int _), (2, .int _), (1, .int _), (0, .ref _)]) hx hb dX9_areReservesRight_64 rfl hl (by decide) rfl (fun ls hl => ?_)
      refine lv_iload_n hx hb dX9_areReservesRight_65 rfl (lv_at hl 0 rfl) ?_
      refine lv_aload_n hx hb dX9_areReservesRight_66 rfl (lv_at hl 3 rfl) ?_
      refine lv_iload_n hx hb dX9_areReservesRight_67 rfl (lv_at hl 2 rfl) ?_
      refine lv_iload_n hx hb dX9_areReservesRight_68 rfl (lv_at hl 1 rfl) ?_
      refine cl_callV (ci := 14) F hB (k_reckon l D cy hB.2 _ _ _) (cwV 2 F.1.2.2.2.2 (vgV (vm_11 _ (List.mem_of_getElem? (i := 7) rfl)) (vm_11 _ (List.mem_of_getElem? (i := 8) rfl)) (vm_11 _ (List.mem_of_getElem? (i := 9) rfl)) (vm_4 _ (List.mem_of_getElem? (i := 20) rfl)) (vm_11 _ (List.mem_of_getElem? (i := 5) rfl))) rfl rfl rfl ⟨rfl, by decide, by decide, by decide +kernel⟩ ⟨Nat.le_of_ble_eq_true rfl, Nat.le_of_ble_eq_true rfl⟩) rfl rfl (by decide) rfl hl.1 rfl (Nat.le_of_ble_eq_true rfl) dX9_areReservesRight_69 ⟨Nat.le_of_ble_eq_true rfl, Nat.le_of_ble_eq_true rfl⟩ LX.1 (fun H locs v σ69 hB hP => ?_)
      obtain ⟨⟨z69, rfl, hz69⟩, rfl⟩ := hP
      have q72 : sgI σ (yk Y) (j4 * 8 + i4).toInt.toNat = z69 := i_eq.mpr (by rw [hx9]; exact hS2.1.trans (hz69.trans (sumTo_eq (fun j _ => rk_ge hj4.1))).symm)
      refine lv_icmp_ne (tgt := 81) hx hb dX9_areReservesRight_72 (by decide) (fun c72 => (c72 q72).elim) (fun c72 => ?_)
      refine lv_iload_n hx hb dX9_areReservesRight_75 rfl (lv_at hl 0 rfl) ?_
      refine lv_bipush (v := 48) hx hb dX9_areReservesRight_76 (by decide) ?_
      refine lv_icmp_le (tgt := 83) hx hb dX9_areReservesRight_78 (by decide) (fun c78 => ?_) (fun c78 => ((by have w1 := i_nle c78; rw [hx9] at w1; have e48 : (48 : Int32).toInt = 48 := rfl; have := hS2.1; have := hS2.2; omega : False)).elim)
      refine lv_iinc (lv' := [(2, .int _), (3, .int _), (1, .int _), (0, .ref _)]) hx hb dX9_areReservesRight_83 hl (k := 1) rfl rfl (by decide) rfl (fun ls hl => ?_)
      refine lv_goto (tgt := 44) hx hb dX9_areReservesRight_86 (by decide) ?_
      have q44 := cl_add1 (x := j4) (by omega) (by omega)
      exact ih44 _ (by subst hd44; rw [q44]; omega) _ _ _ _ hB (lv_sub hl [0, 2, 3] rfl) ⟨by rw [q44]; omega, by rw [q44]; omega⟩ rfl

theorem dX9_isSound_0 : decode cX9_isSound 0 = .ok (.aload_n 0, 1) := by decide +kernel
theorem dX9_isSound_1 : decode cX9_isSound 1 = .ok (.invokevirtual 515, 3) := by decide +kernel
theorem dX9_isSound_4 : decode cX9_isSound 4 = .ok (.ifCond .eq 28, 3) := by decide +kernel
theorem dX9_isSound_7 : decode cX9_isSound 7 = .ok (.aload_n 0, 1) := by decide +kernel
theorem dX9_isSound_8 : decode cX9_isSound 8 = .ok (.invokevirtual 519, 3) := by decide +kernel
theorem dX9_isSound_11 : decode cX9_isSound 11 = .ok (.ifCond .eq 21, 3) := by decide +kernel
theorem dX9_isSound_14 : decode cX9_isSound 14 = .ok (.aload_n 0, 1) := by decide +kernel
theorem dX9_isSound_15 : decode cX9_isSound 15 = .ok (.invokevirtual 522, 3) := by decide +kernel
theorem dX9_isSound_18 : decode cX9_isSound 18 = .ok (.ifCond .eq 14, 3) := by decide +kernel
theorem dX9_isSound_21 : decode cX9_isSound 21 = .ok (.aload_n 0, 1) := by decide +kernel
theorem dX9_isSound_22 : decode cX9_isSound 22 = .ok (.invokevirtual 525, 3) := by decide +kernel
theorem dX9_isSound_25 : decode cX9_isSound 25 = .ok (.ifCond .eq 7, 3) := by decide +kernel
theorem dX9_isSound_28 : decode cX9_isSound 28 = .ok (.iconst 1, 1) := by decide +kernel
theorem dX9_isSound_29 : decode cX9_isSound 29 = .ok (.goto 4, 3) := by decide +kernel
theorem dX9_isSound_33 : decode cX9_isSound 33 = .ok (.ireturn, 1) := by decide +kernel
set_option maxRecDepth 100000 in
set_option maxHeartbeats 4000000 in
theorem k_sound (l : Launch) (D : va_G) (cy : Nat → ClassId) {ad τ : List Nat} {Y : CY} {σ : SG} (hV : VL cy ad τ Y σ) (h1 : sA Y σ) (h2 : sB Y σ) (h3 : sC Y σ) (h4 : sD Y σ) (sz : Nat) : clM l D cy ad τ Y σ sz yX9_isSound (Cond.code yX9_isSound cX9_isSound 1 (some .boolean) :: vWall) 3 71 [.ref (yX Y)] (fun v s2 => (∃ b : Int32, v = some (.int b) ∧ b = 1) ∧ σ = s2) := by
  refine cl_ofW (cc := cX9_isSound) (maxL := 1) (ret := (some .boolean)) hV (by decide) rfl (Nat.le_of_ble_eq_true rfl) (lv := [(0, .ref (yX Y))]) rfl (fun p e s m below meth c ls H hrt hnm F hB hl => ?_) sz
  have hx := F.1.1
  have hb := F.1.2.1
  have hown := F.1.2.2.2.1
  have LX := hV.2.1
  refine lv_aload_n hx hb dX9_isSound_0 rfl (lv_at hl 0 rfl) ?_
  refine cl_callV (ci := 14) F hB (k_units l D cy hB.2 h3 _) (cwV 0 F.1.2.2.2.2 (vgV (vm_11 _ (List.mem_of_getElem? (i := 13) rfl)) (vm_11 _ (List.mem_of_getElem? (i := 14) rfl)) (vm_11 _ (List.mem_of_getElem? (i := 15) rfl)) (vm_4 _ (List.mem_of_getElem? (i := 20) rfl)) (vm_11 _ (List.mem_of_getElem? (i := 6) rfl))) rfl rfl rfl ⟨rfl, by decide, by decide, by decide +kernel⟩ ⟨Nat.le_of_ble_eq_true rfl, Nat.le_of_ble_eq_true rfl⟩) rfl rfl (by decide) rfl hl.1 rfl (Nat.le_of_ble_eq_true rfl) dX9_isSound_1 ⟨Nat.le_of_ble_eq_true rfl, Nat.le_of_ble_eq_true rfl⟩ LX.1 (fun H locs v σ1 hB hP => ?_)
  obtain ⟨⟨b1, rfl, rfl⟩, rfl⟩ := hP
  refine lv_if_eq (tgt := 32) hx hb dX9_isSound_4 (by decide) (fun c4 => (by first | exact absurd c4 (by decide) | exact (c4 (by decide)).elim)) (fun c4 => ?_)
  refine lv_aload_n hx hb dX9_isSound_7 rfl (lv_at hl 0 rfl) ?_
  refine cl_callV (ci := 14) F hB (k_addrs l D cy hB.2 h2 _) (cwV 0 F.1.2.2.2.2 (vgV (vm_11 _ (List.mem_of_getElem? (i := 16) rfl)) (vm_11 _ (List.mem_of_getElem? (i := 17) rfl)) (vm_11 _ (List.mem_of_getElem? (i := 18) rfl)) (vm_4 _ (List.mem_of_getElem? (i := 20) rfl)) (vm_11 _ (List.mem_of_getElem? (i := 10) rfl))) rfl rfl rfl ⟨rfl, by decide, by decide, by decide +kernel⟩ ⟨Nat.le_of_ble_eq_true rfl, Nat.le_of_ble_eq_true rfl⟩) rfl rfl (by decide) rfl hl.1 rfl (Nat.le_of_ble_eq_true rfl) dX9_isSound_8 ⟨Nat.le_of_ble_eq_true rfl, Nat.le_of_ble_eq_true rfl⟩ LX.1 (fun H locs v σ8 hB hP => ?_)
  obtain ⟨⟨b8, rfl, rfl⟩, rfl⟩ := hP
  refine lv_if_eq (tgt := 32) hx hb dX9_isSound_11 (by decide) (fun c11 => (by first | exact absurd c11 (by decide) | exact (c11 (by decide)).elim)) (fun c11 => ?_)
  refine lv_aload_n hx hb dX9_isSound_14 rfl (lv_at hl 0 rfl) ?_
  refine cl_callV (ci := 14) F hB (k_hubs l D cy hB.2 h1 _) (cwV 0 F.1.2.2.2.2 (vgV (vm_11 _ (List.mem_of_getElem? (i := 19) rfl)) (vm_11 _ (List.mem_of_getElem? (i := 20) rfl)) (vm_11 _ (List.mem_of_getElem? (i := 21) rfl)) (vm_4 _ (List.mem_of_getElem? (i := 20) rfl)) (vm_11 _ (List.mem_of_getElem? (i := 11) rfl))) rfl rfl rfl ⟨rfl, by decide, by decide, by decide +kernel⟩ ⟨Nat.le_of_ble_eq_true rfl, Nat.le_of_ble_eq_true rfl⟩) rfl rfl (by decide) rfl hl.1 rfl (Nat.le_of_ble_eq_true rfl) dX9_isSound_15 ⟨Nat.le_of_ble_eq_true rfl, Nat.le_of_ble_eq_true rfl⟩ LX.1 (fun H locs v σ15 hB hP => ?_)
  obtain ⟨⟨b15, rfl, rfl⟩, rfl⟩ := hP
  refine lv_if_eq (tgt := 32) hx hb dX9_isSound_18 (by decide) (fun c18 => (by first | exact absurd c18 (by decide) | exact (c18 (by decide)).elim)) (fun c18 => ?_)
  refine lv_aload_n hx hb dX9_isSound_21 rfl (lv_at hl 0 rfl) ?_
  refine cl_callV (ci := 14) F hB (k_bytes l D cy hB.2 h4 _) (cwV 0 F.1.2.2.2.2 (vgV (vm_11 _ (List.mem_of_getElem? (i := 22) rfl)) (vm_11 _ (List.mem_of_getElem? (i := 23) rfl)) (vm_11 _ (List.mem_of_getElem? (i := 24) rfl)) (vm_4 _ (List.mem_of_getElem? (i := 20) rfl)) (vm_11 _ (List.mem_of_getElem? (i := 12) rfl))) rfl rfl rfl ⟨rfl, by decide, by decide, by decide +kernel⟩ ⟨Nat.le_of_ble_eq_true rfl, Nat.le_of_ble_eq_true rfl⟩) rfl rfl (by decide) rfl hl.1 rfl (Nat.le_of_ble_eq_true rfl) dX9_isSound_22 ⟨Nat.le_of_ble_eq_true rfl, Nat.le_of_ble_eq_true rfl⟩ LX.1 (fun H locs v σ22 hB hP => ?_)
  obtain ⟨⟨b22, rfl, rfl⟩, rfl⟩ := hP
  refine lv_if_eq (tgt := 32) hx hb dX9_isSound_25 (by decide) (fun c25 => (by first | exact absurd c25 (by decide) | exact (c25 (by decide)).elim)) (fun c25 => ?_)
  refine lv_iconst (v := 1) hx hb dX9_isSound_28 (by decide) ?_
  refine lv_goto (tgt := 33) hx hb dX9_isSound_29 (by decide) ?_
  exact cl_zret F hB hrt dX9_isSound_33 rfl (⟨⟨_, rfl, rfl⟩, rfl⟩)
end CLK2
