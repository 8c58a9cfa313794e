section CLK1
theorem dX5_isDueIn_0 : decode cX5_isDueIn 0 = .ok (.iload_n 1, 1) := by decide +kernel
theorem dX5_isDueIn_1 : decode cX5_isDueIn 1 = .ok (.aload_n 0, 1) := by decide +kernel
theorem dX5_isDueIn_2 : decode cX5_isDueIn 2 = .ok (.getfield 15, 3) := by decide +kernel
theorem dX5_isDueIn_5 : decode cX5_isDueIn 5 = .ok (.iconst 1, 1) := by decide +kernel
theorem dX5_isDueIn_6 : decode cX5_isDueIn 6 = .ok (.isub, 1) := by decide +kernel
theorem dX5_isDueIn_7 : decode cX5_isDueIn 7 = .ok (.iand, 1) := by decide +kernel
theorem dX5_isDueIn_8 : decode cX5_isDueIn 8 = .ok (.aload_n 0, 1) := by decide +kernel
theorem dX5_isDueIn_9 : decode cX5_isDueIn 9 = .ok (.getfield 19, 3) := by decide +kernel
theorem dX5_isDueIn_12 : decode cX5_isDueIn 12 = .ok (.if_icmp .ne 7, 3) := by decide +kernel
theorem dX5_isDueIn_15 : decode cX5_isDueIn 15 = .ok (.iconst 1, 1) := by decide +kernel
theorem dX5_isDueIn_16 : decode cX5_isDueIn 16 = .ok (.goto 4, 3) := by decide +kernel
theorem dX5_isDueIn_19 : decode cX5_isDueIn 19 = .ok (.iconst 0, 1) := by decide +kernel
theorem dX5_isDueIn_20 : decode cX5_isDueIn 20 = .ok (.ireturn, 1) := by decide +kernel
set_option maxRecDepth 100000 in
set_option maxHeartbeats 4000000 in
theorem k_isDueIn (l : Launch) (D : va_G) (cy : Nat → ClassId) {ad τ : List Nat} {Y : CY} {σ : SG} (hV : VL cy ad τ Y σ) {a : Nat} (ha : sgT σ a = 11) (x : Int32) (sz : Nat) : clM l D cy ad τ Y σ sz yX5_isDueIn (Cond.code yX5_isDueIn cX5_isDueIn 2 (some .boolean) :: vWall) 0 0 [.ref a, .int x] (fun v s2 => (∃ b : Int32, v = some (.int b) ∧ sgb b (due σ a x)) ∧ σ = s2) := by
  refine cl_ofW (cc := cX5_isDueIn) (maxL := 2) (ret := (some .boolean)) hV (by decide) rfl (Nat.le_of_ble_eq_true rfl) (lv := [(0, .ref a), (1, .int x)]) rfl (fun p e s m below meth c ls H hrt hnm F hB hl => ?_) sz
  have hx := F.1.1
  have hb := F.1.2.1
  have hown := F.1.2.2.2.1
  refine lv_iload_n hx hb dX5_isDueIn_0 rfl (lv_at hl 1 rfl) ?_
  refine lv_aload_n hx hb dX5_isDueIn_1 rfl (lv_at hl 0 rfl) ?_
  refine gf_X5_15 F hB dX5_isDueIn_2 ha ?_
  refine lv_iconst (v := 1) hx hb dX5_isDueIn_5 (by decide) ?_
  refine lv_isub hx hb dX5_isDueIn_6 ?_
  refine lv_iand hx hb dX5_isDueIn_7 ?_
  refine lv_aload_n hx hb dX5_isDueIn_8 rfl (lv_at hl 0 rfl) ?_
  refine gf_X5_19 F hB dX5_isDueIn_9 ha ?_
  refine lv_icmp_ne (tgt := 19) hx hb dX5_isDueIn_12 (by decide) (fun c12 => ?_) (fun c12 => ?_)
  · refine lv_iconst (v := 0) hx hb dX5_isDueIn_19 (by decide) ?_
    exact cl_zret F hB hrt dX5_isDueIn_20 rfl (by first | exact ⟨⟨_, rfl, sgb_1 c12⟩, rfl⟩ | exact ⟨⟨_, rfl, sgb_0 c12⟩, rfl⟩)
  · refine lv_iconst (v := 1) hx hb dX5_isDueIn_15 (by decide) ?_
    refine lv_goto (tgt := 20) hx hb dX5_isDueIn_16 (by decide) ?_
    exact cl_zret F hB hrt dX5_isDueIn_20 rfl (by first | exact ⟨⟨_, rfl, sgb_1 c12⟩, rfl⟩ | exact ⟨⟨_, rfl, sgb_0 c12⟩, rfl⟩)

theorem dX9_hostCost_0 : decode cX9_hostCost 0 = .ok (.iconst 2, 1) := by decide +kernel
theorem dX9_hostCost_1 : decode cX9_hostCost 1 = .ok (.iload_n 0, 1) := by decide +kernel
theorem dX9_hostCost_2 : decode cX9_hostCost 2 = .ok (.iadd, 1) := by decide +kernel
theorem dX9_hostCost_3 : decode cX9_hostCost 3 = .ok (.ireturn, 1) := by decide +kernel
set_option maxRecDepth 100000 in
set_option maxHeartbeats 4000000 in
theorem k_hostCost (l : Launch) (D : va_G) (cy : Nat → ClassId) {ad τ : List Nat} {Y : CY} {σ : SG} (hV : VL cy ad τ Y σ) (x : Int32) (sz : Nat) : clM l D cy ad τ Y σ sz yX9_hostCost (Cond.code yX9_hostCost cX9_hostCost 1 (some .int) :: vWall) 0 0 [.int x] (fun v s2 => v = some (.int (2 + x)) ∧ σ = s2) := by
  refine cl_ofW (cc := cX9_hostCost) (maxL := 1) (ret := (some .int)) hV (by decide) rfl (Nat.le_of_ble_eq_true rfl) (lv := [(0, .int x)]) rfl (fun p e s m below meth c ls H hrt hnm F hB hl => ?_) sz
  have hx := F.1.1
  have hb := F.1.2.1
  have hown := F.1.2.2.2.1
  refine lv_iconst (v := 2) hx hb dX9_hostCost_0 (by decide) ?_
  refine lv_iload_n hx hb dX9_hostCost_1 rfl (lv_at hl 0 rfl) ?_
  refine lv_iadd hx hb dX9_hostCost_2 ?_
  exact cl_iret F hB hrt dX9_hostCost_3 (⟨rfl, rfl⟩)

theorem dX9_hubCost_0 : decode cX9_hubCost 0 = .ok (.iload_n 0, 1) := by decide +kernel
theorem dX9_hubCost_1 : decode cX9_hubCost 1 = .ok (.bipush 104, 2) := by decide +kernel
theorem dX9_hubCost_3 : decode cX9_hubCost 3 = .ok (.if_icmp .ne 5, 3) := by decide +kernel
theorem dX9_hubCost_6 : decode cX9_hubCost 6 = .ok (.iconst 0, 1) := by decide +kernel
theorem dX9_hubCost_7 : decode cX9_hubCost 7 = .ok (.ireturn, 1) := by decide +kernel
theorem dX9_hubCost_8 : decode cX9_hubCost 8 = .ok (.iload_n 0, 1) := by decide +kernel
theorem dX9_hubCost_9 : decode cX9_hubCost 9 = .ok (.bipush 102, 2) := by decide +kernel
theorem dX9_hubCost_11 : decode cX9_hubCost 11 = .ok (.if_icmp .ne 11, 3) := by decide +kernel
theorem dX9_hubCost_14 : decode cX9_hubCost 14 = .ok (.iconst 4, 1) := by decide +kernel
theorem dX9_hubCost_15 : decode cX9_hubCost 15 = .ok (.iconst 2, 1) := by decide +kernel
theorem dX9_hubCost_16 : decode cX9_hubCost 16 = .ok (.iload_n 1, 1) := by decide +kernel
theorem dX9_hubCost_17 : decode cX9_hubCost 17 = .ok (.imul, 1) := by decide +kernel
theorem dX9_hubCost_18 : decode cX9_hubCost 18 = .ok (.iadd, 1) := by decide +kernel
theorem dX9_hubCost_19 : decode cX9_hubCost 19 = .ok (.goto 10, 3) := by decide +kernel
theorem dX9_hubCost_22 : decode cX9_hubCost 22 = .ok (.bipush 8, 2) := by decide +kernel
theorem dX9_hubCost_24 : decode cX9_hubCost 24 = .ok (.bipush 8, 2) := by decide +kernel
theorem dX9_hubCost_26 : decode cX9_hubCost 26 = .ok (.iload_n 1, 1) := by decide +kernel
theorem dX9_hubCost_27 : decode cX9_hubCost 27 = .ok (.imul, 1) := by decide +kernel
theorem dX9_hubCost_28 : decode cX9_hubCost 28 = .ok (.iadd, 1) := by decide +kernel
theorem dX9_hubCost_29 : decode cX9_hubCost 29 = .ok (.ireturn, 1) := by decide +kernel
set_option maxRecDepth 100000 in
set_option maxHeartbeats 4000000 in
theorem k_hubCost (l : Launch) (D : va_G) (cy : Nat → ClassId) {ad τ : List Nat} {Y : CY} {σ : SG} (hV : VL cy ad τ Y σ) (r x : Int32) (h0 : 0 ≤ x.toInt) (h1 : x.toInt ≤ 16) (sz : Nat) : clM l D cy ad τ Y σ sz yX9_hubCost (Cond.code yX9_hubCost cX9_hubCost 2 (some .int) :: vWall) 0 0 [.int r, .int x] (fun v s2 => (∃ z : Int32, v = some (.int z) ∧ z.toInt = hubC r x.toInt) ∧ σ = s2) := by
  refine cl_ofW (cc := cX9_hubCost) (maxL := 2) (ret := (some .int)) hV (by decide) rfl (Nat.le_of_ble_eq_true rfl) (lv := [(0, .int r), (1, .int x)]) rfl (fun p e s m below meth c ls H hrt hnm F hB hl => ?_) sz
  have hx := F.1.1
  have hb := F.1.2.1
  have hown := F.1.2.2.2.1
  refine lv_iload_n hx hb dX9_hubCost_0 rfl (lv_at hl 0 rfl) ?_
  refine lv_bipush (v := 104) hx hb dX9_hubCost_1 (by decide) ?_
  refine lv_icmp_ne (tgt := 8) hx hb dX9_hubCost_3 (by decide) (fun c3 => ?_) (fun c3 => ?_)
  · refine lv_iload_n hx hb dX9_hubCost_8 rfl (lv_at hl 0 rfl) ?_
    refine lv_bipush (v := 102) hx hb dX9_hubCost_9 (by decide) ?_
    refine lv_icmp_ne (tgt := 22) hx hb dX9_hubCost_11 (by decide) (fun c11 => ?_) (fun c11 => ?_)
    · refine lv_bipush (v := 8) hx hb dX9_hubCost_22 (by decide) ?_
      refine lv_bipush (v := 8) hx hb dX9_hubCost_24 (by decide) ?_
      refine lv_iload_n hx hb dX9_hubCost_26 rfl (lv_at hl 1 rfl) ?_
      refine lv_imul hx hb dX9_hubCost_27 ?_
      refine lv_iadd hx hb dX9_hubCost_28 ?_
      exact cl_iret F hB hrt dX9_hubCost_29 (by first | exact ⟨⟨_, rfl, by unfold hubC; rw [if_neg c3, if_pos c11]; exact hc_f h0 h1⟩, rfl⟩ | exact ⟨⟨_, rfl, by unfold hubC; rw [if_neg c3, if_neg c11]; exact hc_l h0 h1⟩, rfl⟩)
    · refine lv_iconst (v := 4) hx hb dX9_hubCost_14 (by decide) ?_
      refine lv_iconst (v := 2) hx hb dX9_hubCost_15 (by decide) ?_
      refine lv_iload_n hx hb dX9_hubCost_16 rfl (lv_at hl 1 rfl) ?_
      refine lv_imul hx hb dX9_hubCost_17 ?_
      refine lv_iadd hx hb dX9_hubCost_18 ?_
      refine lv_goto (tgt := 29) hx hb dX9_hubCost_19 (by decide) ?_
      exact cl_iret F hB hrt dX9_hubCost_29 (by first | exact ⟨⟨_, rfl, by unfold hubC; rw [if_neg c3, if_pos c11]; exact hc_f h0 h1⟩, rfl⟩ | exact ⟨⟨_, rfl, by unfold hubC; rw [if_neg c3, if_neg c11]; exact hc_l h0 h1⟩, rfl⟩)
  · refine lv_iconst (v := 0) hx hb dX9_hubCost_6 (by decide) ?_
    exact cl_iret F hB hrt dX9_hubCost_7 (⟨⟨_, rfl, by unfold hubC; rw [if_pos c3]; rfl⟩, rfl⟩)

theorem dX9_reckonReserved_0 : decode cX9_reckonReserved 0 = .ok (.iconst 0, 1) := by decide +kernel
theorem dX9_reckonReserved_1 : decode cX9_reckonReserved 1 = .ok (.istore_n 3, 1) := by decide +kernel
theorem dX9_reckonReserved_2 : decode cX9_reckonReserved 2 = .ok (.iconst 0, 1) := by decide +kernel
theorem dX9_reckonReserved_3 : decode cX9_reckonReserved 3 = .ok (.istore 4, 2) := by decide +kernel
theorem dX9_reckonReserved_5 : decode cX9_reckonReserved 5 = .ok (.iload 4, 2) := by decide +kernel
theorem dX9_reckonReserved_7 : decode cX9_reckonReserved 7 = .ok (.bipush 12, 2) := by decide +kernel
theorem dX9_reckonReserved_9 : decode cX9_reckonReserved 9 = .ok (.if_icmp .ge 94, 3) := by decide +kernel
theorem dX9_reckonReserved_12 : decode cX9_reckonReserved 12 = .ok (.aload_n 0, 1) := by decide +kernel
theorem dX9_reckonReserved_13 : decode cX9_reckonReserved 13 = .ok (.getfield 24, 3) := by decide +kernel
theorem dX9_reckonReserved_16 : decode cX9_reckonReserved 16 = .ok (.iload 4, 2) := by decide +kernel
theorem dX9_reckonReserved_18 : decode cX9_reckonReserved 18 = .ok (.aaload, 1) := by decide +kernel
theorem dX9_reckonReserved_19 : decode cX9_reckonReserved 19 = .ok (.astore 5, 2) := by decide +kernel
theorem dX9_reckonReserved_21 : decode cX9_reckonReserved 21 = .ok (.aload 5, 2) := by decide +kernel
theorem dX9_reckonReserved_23 : decode cX9_reckonReserved 23 = .ok (.getfield 546, 3) := by decide +kernel
theorem dX9_reckonReserved_26 : decode cX9_reckonReserved 26 = .ok (.astore 6, 2) := by decide +kernel
theorem dX9_reckonReserved_28 : decode cX9_reckonReserved 28 = .ok (.aload 5, 2) := by decide +kernel
theorem dX9_reckonReserved_30 : decode cX9_reckonReserved 30 = .ok (.getfield 350, 3) := by decide +kernel
theorem dX9_reckonReserved_33 : decode cX9_reckonReserved 33 = .ok (.astore 7, 2) := by decide +kernel
theorem dX9_reckonReserved_35 : decode cX9_reckonReserved 35 = .ok (.aload 6, 2) := by decide +kernel
theorem dX9_reckonReserved_37 : decode cX9_reckonReserved 37 = .ok (.ifnull 60, 3) := by decide +kernel
theorem dX9_reckonReserved_40 : decode cX9_reckonReserved 40 = .ok (.aload 7, 2) := by decide +kernel
theorem dX9_reckonReserved_42 : decode cX9_reckonReserved 42 = .ok (.ifnull 55, 3) := by decide +kernel
theorem dX9_reckonReserved_45 : decode cX9_reckonReserved 45 = .ok (.aload 5, 2) := by decide +kernel
theorem dX9_reckonReserved_47 : decode cX9_reckonReserved 47 = .ok (.iload_n 1, 1) := by decide +kernel
theorem dX9_reckonReserved_48 : decode cX9_reckonReserved 48 = .ok (.invokevirtual 430, 3) := by decide +kernel
theorem dX9_reckonReserved_51 : decode cX9_reckonReserved 51 = .ok (.ifCond .eq 46, 3) := by decide +kernel
theorem dX9_reckonReserved_54 : decode cX9_reckonReserved 54 = .ok (.iload_n 2, 1) := by decide +kernel
theorem dX9_reckonReserved_55 : decode cX9_reckonReserved 55 = .ok (.ifCond .ge 17, 3) := by decide +kernel
theorem dX9_reckonReserved_58 : decode cX9_reckonReserved 58 = .ok (.iload_n 3, 1) := by decide +kernel
theorem dX9_reckonReserved_59 : decode cX9_reckonReserved 59 = .ok (.aload 7, 2) := by decide +kernel
theorem dX9_reckonReserved_61 : decode cX9_reckonReserved 61 = .ok (.getfield 147, 3) := by decide +kernel
theorem dX9_reckonReserved_64 : decode cX9_reckonReserved 64 = .ok (.invokestatic 301, 3) := by decide +kernel
theorem dX9_reckonReserved_67 : decode cX9_reckonReserved 67 = .ok (.iadd, 1) := by decide +kernel
theorem dX9_reckonReserved_68 : decode cX9_reckonReserved 68 = .ok (.istore_n 3, 1) := by decide +kernel
theorem dX9_reckonReserved_69 : decode cX9_reckonReserved 69 = .ok (.goto 28, 3) := by decide +kernel
theorem dX9_reckonReserved_72 : decode cX9_reckonReserved 72 = .ok (.aload 6, 2) := by decide +kernel
theorem dX9_reckonReserved_74 : decode cX9_reckonReserved 74 = .ok (.getfield 182, 3) := by decide +kernel
theorem dX9_reckonReserved_77 : decode cX9_reckonReserved 77 = .ok (.iload_n 2, 1) := by decide +kernel
theorem dX9_reckonReserved_78 : decode cX9_reckonReserved 78 = .ok (.if_icmp .ne 19, 3) := by decide +kernel
theorem dX9_reckonReserved_81 : decode cX9_reckonReserved 81 = .ok (.iload_n 3, 1) := by decide +kernel
theorem dX9_reckonReserved_82 : decode cX9_reckonReserved 82 = .ok (.aload 6, 2) := by decide +kernel
theorem dX9_reckonReserved_84 : decode cX9_reckonReserved 84 = .ok (.getfield 109, 3) := by decide +kernel
theorem dX9_reckonReserved_87 : decode cX9_reckonReserved 87 = .ok (.aload 7, 2) := by decide +kernel
theorem dX9_reckonReserved_89 : decode cX9_reckonReserved 89 = .ok (.getfield 147, 3) := by decide +kernel
theorem dX9_reckonReserved_92 : decode cX9_reckonReserved 92 = .ok (.invokestatic 304, 3) := by decide +kernel
theorem dX9_reckonReserved_95 : decode cX9_reckonReserved 95 = .ok (.iadd, 1) := by decide +kernel
theorem dX9_reckonReserved_96 : decode cX9_reckonReserved 96 = .ok (.istore_n 3, 1) := by decide +kernel
theorem dX9_reckonReserved_97 : decode cX9_reckonReserved 97 = .ok (.iinc 4 1, 3) := by decide +kernel
theorem dX9_reckonReserved_100 : decode cX9_reckonReserved 100 = .ok (.goto (-95), 3) := by decide +kernel
theorem dX9_reckonReserved_103 : decode cX9_reckonReserved 103 = .ok (.iload_n 3, 1) := by decide +kernel
theorem dX9_reckonReserved_104 : decode cX9_reckonReserved 104 = .ok (.ireturn, 1) := by decide +kernel
set_option maxRecDepth 100000 in
set_option maxHeartbeats 4000000 in
theorem k_reckon (l : Launch) (D : va_G) (cy : Nat → ClassId) {ad τ : List Nat} {Y : CY} {σ : SG} (hV : VL cy ad τ Y σ) (fx ub : Int32) (sz : Nat) : clM l D cy ad τ Y σ sz yX9_reckonReserved (Cond.code yX9_reckonReserved cX9_reckonReserved 8 (some .int) :: vWall) 1 21 [.ref (yX Y), .int fx, .int ub] (fun v s2 => (∃ z : Int32, v = some (.int z) ∧ z.toInt = sumTo (rk Y σ fx ub) 12) ∧ σ = s2) := by
  refine cl_ofW (cc := cX9_reckonReserved) (maxL := 8) (ret := (some .int)) hV (by decide) rfl (Nat.le_of_ble_eq_true rfl) (lv := [(0, .ref (yX Y)), (1, .int fx), (2, .int ub)]) rfl (fun p e s m below meth c ls H hrt hnm F hB hl => ?_) sz
  have hx := F.1.1
  have hb := F.1.2.1
  have hown := F.1.2.2.2.1
  generalize hlo : ([] : List Loc) = locs at hB ⊢
  clear hlo
  refine lv_iconst (v := 0) hx hb dX9_reckonReserved_0 (by decide) ?_
  refine lv_istore_n (lv' := [(3, .int _), (0, .ref _), (1, .int _), (2, .int _)]) hx hb dX9_reckonReserved_1 rfl hl (by decide) rfl (fun ls hl => ?_)
  refine lv_iconst (v := 0) hx hb dX9_reckonReserved_2 (by decide) ?_
  refine lv_istore (lv' := [(4, .int _), (3, .int _), (0, .ref _), (1, .int _), (2, .int _)]) hx hb dX9_reckonReserved_3 hl (by decide) rfl (fun ls hl => ?_)
  have key5 : ∃ (i4 s3 : Int32), clB D cy ad τ Y s σ H locs ∧ lv_has ls 8 [(4, .int i4), (3, .int s3), (2, .int ub), (1, .int fx), (0, .ref (yX Y))] ∧ (0 ≤ i4.toInt ∧ i4.toInt ≤ 12) ∧ s3.toInt = sumTo (rk Y σ fx ub) i4.toInt.toNat := ⟨_, _, hB, (lv_sub hl [0, 1, 4, 3, 2] rfl), ⟨by decide, by decide⟩, rfl⟩
  clear hB hl
  obtain ⟨i4, s3, hB, hl, hi4, hs3⟩ := key5
  obtain ⟨d5, hd5⟩ : ∃ d : Nat, d = 12 - i4.toInt.toNat := ⟨_, rfl⟩
  induction d5 using Nat.strongRecOn generalizing H locs ls i4 s3
  rename_i d5 ih5
  refine lv_iload hx hb dX9_reckonReserved_5 (lv_at hl 0 rfl) ?_
  refine lv_bipush (v := 12) hx hb dX9_reckonReserved_7 (by decide) ?_
  refine lv_icmp_ge (tgt := 103) hx hb dX9_reckonReserved_9 (by decide) (fun c9 => ?_) (fun c9 => ?_)
  · refine lv_iload_n hx hb dX9_reckonReserved_103 rfl (lv_at hl 1 rfl) ?_
    exact cl_iret F hB hrt dX9_reckonReserved_104 (⟨⟨_, rfl, by have e9 := i_le c9; have e12 : (12 : Int32).toInt = 12 := rfl; rw [hs3, show i4.toInt.toNat = 12 by omega]⟩, rfl⟩)
  · refine lv_aload_n hx hb dX9_reckonReserved_12 rfl (lv_at hl 4 rfl) ?_
    refine gr_X9_24 F hB dX9_reckonReserved_13 hV.2.1.1 hV.2.1.2.2.1 ?_
    refine lv_iload hx hb dX9_reckonReserved_16 (lv_at hl 0 rfl) ?_
    have hj := i_nle c9
    have hj : i4.toInt.toNat < 12 := by have e12 : (12 : Int32).toInt = 12 := rfl; omega
    have hp := hV.2.2.2.2.2.2.2.1 _ hj
    have hsr : 0 ≤ s3.toInt ∧ s3.toInt ≤ 864 := by have w := sumTo_rg (f := rk Y σ fx ub) (u := 72) (by decide) (n := i4.toInt.toNat) (fun j h9 => rk_rg (f := fx) (h := ub) hV (by omega : j < 12)); rw [hs3]; omega
    refine sg_aald 6 hx hb F.2.1 hB.1 rfl rfl dX9_reckonReserved_18 hV.2.2.2.2.2.2.1.1 hi4.1 (by rw [hV.2.2.2.2.2.2.1.2.1]; omega) (by rw [hV.2.2.2.2.2.2.1.2.1]; decide) ?_
    rw [show sgR _ _ _ = some _ from hV.2.2.2.2.2.2.1.2.2 _ hj]
    refine lv_astore (lv' := [(5, .ref _), (4, .int _), (3, .int _), (2, .int _), (1, .int _), (0, .ref _)]) hx hb dX9_reckonReserved_19 hl (by decide) rfl (fun ls hl => ?_)
    refine lv_aload hx hb dX9_reckonReserved_21 (lv_at hl 0 rfl) ?_
    refine gf_X9_546 F hB dX9_reckonReserved_23 hp.1 ?_
    refine sg_split (fun hz23 => ?_) (fun b23 hz23 => ?_)
    · skip
      refine lv_astoreN (lv' := [(6, .null), (5, .ref _), (4, .int _), (3, .int _), (2, .int _), (1, .int _), (0, .ref _)]) hx hb dX9_reckonReserved_26 hl (by decide) rfl (fun ls hl => ?_)
      refine lv_aload hx hb dX9_reckonReserved_28 (lv_at hl 1 rfl) ?_
      refine gf_X9_350 F hB dX9_reckonReserved_30 hp.1 ?_
      refine sg_split (fun hz30 => ?_) (fun b30 hz30 => ?_)
      · skip
        refine lv_astoreN (lv' := [(7, .null), (6, .null), (5, .ref _), (4, .int _), (3, .int _), (2, .int _), (1, .int _), (0, .ref _)]) hx hb dX9_reckonReserved_33 hl (by decide) rfl (fun ls hl => ?_)
        refine lv_aloadN hx hb dX9_reckonReserved_35 (lv_at hl 1 rfl) ?_
        refine lv_ifnullN (tgt := 97) hx hb dX9_reckonReserved_37 (by decide) ?_
        refine lv_iinc (lv' := [(4, .int _), (7, .null), (6, .null), (5, .ref _), (3, .int _), (2, .int _), (1, .int _), (0, .ref _)]) hx hb dX9_reckonReserved_97 hl (k := 3) rfl rfl (by decide) rfl (fun ls hl => ?_)
        refine lv_goto (tgt := 5) hx hb dX9_reckonReserved_100 (by decide) ?_
        have e8 := cl_add1 hi4.1 (by omega)
        exact ih5 _ (by subst hd5; rw [e8]; omega) _ _ _ _ _ hB (lv_sub hl [0, 4, 5, 6, 7] rfl) ⟨by rw [e8]; omega, by rw [e8]; omega⟩ (rk_st hi4.1 hi4.2 hs3 (by first | (rw [rk_n1 hz23, Int.add_zero]; done) | (rw [rk_n2 hz30, Int.add_zero]; done) | (rw [rk_nd (sgb_f hb48 c51), Int.add_zero]; done) | exact hz68 | exact hz96 | (rw [rk_v hz23 hz30 (fun z => by have := i_le c55; have e0 : (0 : Int32).toInt = 0 := rfl; omega) c78, Int.add_zero]; done) | fail "no road")) rfl
      · skip
        refine lv_astore (lv' := [(7, .ref _), (6, .null), (5, .ref _), (4, .int _), (3, .int _), (2, .int _), (1, .int _), (0, .ref _)]) hx hb dX9_reckonReserved_33 hl (by decide) rfl (fun ls hl => ?_)
        refine lv_aloadN hx hb dX9_reckonReserved_35 (lv_at hl 1 rfl) ?_
        refine lv_ifnullN (tgt := 97) hx hb dX9_reckonReserved_37 (by decide) ?_
        refine lv_iinc (lv' := [(4, .int _), (7, .ref _), (6, .null), (5, .ref _), (3, .int _), (2, .int _), (1, .int _), (0, .ref _)]) hx hb dX9_reckonReserved_97 hl (k := 3) rfl rfl (by decide) rfl (fun ls hl => ?_)
        refine lv_goto (tgt := 5) hx hb dX9_reckonReserved_100 (by decide) ?_
        have e8 := cl_add1 hi4.1 (by omega)
        exact ih5 _ (by subst hd5; rw [e8]; omega) _ _ _ _ _ hB (lv_sub hl [0, 4, 5, 6, 7] rfl) ⟨by rw [e8]; omega, by rw [e8]; omega⟩ (rk_st hi4.1 hi4.2 hs3 (by first | (rw [rk_n1 hz23, Int.add_zero]; done) | (rw [rk_n2 hz30, Int.add_zero]; done) | (rw [rk_nd (sgb_f hb48 c51), Int.add_zero]; done) | exact hz68 | exact hz96 | (rw [rk_v hz23 hz30 (fun z => by have := i_le c55; have e0 : (0 : Int32).toInt = 0 := rfl; omega) c78, Int.add_zero]; done) | fail "no road")) rfl
    · skip
      refine lv_astore (lv' := [(6, .ref _), (5, .ref _), (4, .int _), (3, .int _), (2, .int _), (1, .int _), (0, .ref _)]) hx hb dX9_reckonReserved_26 hl (by decide) rfl (fun ls hl => ?_)
      refine lv_aload hx hb dX9_reckonReserved_28 (lv_at hl 1 rfl) ?_
      refine gf_X9_350 F hB dX9_reckonReserved_30 hp.1 ?_
      refine sg_split (fun hz30 => ?_) (fun b30 hz30 => ?_)
      · skip
        refine lv_astoreN (lv' := [(7, .null), (6, .ref _), (5, .ref _), (4, .int _), (3, .int _), (2, .int _), (1, .int _), (0, .ref _)]) hx hb dX9_reckonReserved_33 hl (by decide) rfl (fun ls hl => ?_)
        refine lv_aload hx hb dX9_reckonReserved_35 (lv_at hl 1 rfl) ?_
        refine lv_ifnull hx hb dX9_reckonReserved_37 ?_
        refine lv_aloadN hx hb dX9_reckonReserved_40 (lv_at hl 0 rfl) ?_
        refine lv_ifnullN (tgt := 97) hx hb dX9_reckonReserved_42 (by decide) ?_
        refine lv_iinc (lv' := [(4, .int _), (7, .null), (6, .ref _), (5, .ref _), (3, .int _), (2, .int _), (1, .int _), (0, .ref _)]) hx hb dX9_reckonReserved_97 hl (k := 3) rfl rfl (by decide) rfl (fun ls hl => ?_)
        refine lv_goto (tgt := 5) hx hb dX9_reckonReserved_100 (by decide) ?_
        have e8 := cl_add1 hi4.1 (by omega)
        exact ih5 _ (by subst hd5; rw [e8]; omega) _ _ _ _ _ hB (lv_sub hl [0, 4, 5, 6, 7] rfl) ⟨by rw [e8]; omega, by rw [e8]; omega⟩ (rk_st hi4.1 hi4.2 hs3 (by first | (rw [rk_n1 hz23, Int.add_zero]; done) | (rw [rk_n2 hz30, Int.add_zero]; done) | (rw [rk_nd (sgb_f hb48 c51), Int.add_zero]; done) | exact hz68 | exact hz96 | (rw [rk_v hz23 hz30 (fun z => by have := i_le c55; have e0 : (0 : Int32).toInt = 0 := rfl; omega) c78, Int.add_zero]; done) | fail "no road")) rfl
      · skip
        refine lv_astore (lv' := [(7, .ref _), (6, .ref _), (5, .ref _), (4, .int _), (3, .int _), (2, .int _), (1, .int _), (0, .ref _)]) hx hb dX9_reckonReserved_33 hl (by decide) rfl (fun ls hl => ?_)
        refine lv_aload hx hb dX9_reckonReserved_35 (lv_at hl 1 rfl) ?_
        refine lv_ifnull hx hb dX9_reckonReserved_37 ?_
        refine lv_aload hx hb dX9_reckonReserved_40 (lv_at hl 0 rfl) ?_
        refine lv_ifnull hx hb dX9_reckonReserved_42 ?_
        refine lv_aload hx hb dX9_reckonReserved_45 (lv_at hl 2 rfl) ?_
        refine lv_iload_n hx hb dX9_reckonReserved_47 rfl (lv_at hl 6 rfl) ?_
        refine cl_callN (ci := 10) F hB (k_isDueIn l D cy hB.2 hp.1 fx _) ⟨va_cnB 1 F.1.2.2.2.2 (vgN (vm_2 _ (List.mem_of_getElem? (i := 24) rfl))) rfl rfl rfl (F.2.2.1.1 _ nf_127) (F.1.2.2.2.2 _ (List.mem_cons_of_mem _ (vm_2 _ (List.mem_of_getElem? (i := 22) rfl)))) ⟨by decide, by decide, by decide +kernel⟩ ⟨Nat.le_of_ble_eq_true rfl, Nat.le_of_ble_eq_true rfl⟩, F.1.2.2.2.2 _ (List.mem_cons_of_mem _ (vm_5 _ (List.mem_of_getElem? (i := 14) rfl))), F.1.2.2.2.2 _ (List.mem_cons_of_mem _ (vm_5 _ (List.mem_of_getElem? (i := 15) rfl)))⟩ rfl rfl (by decide) rfl hl.1 rfl (Nat.le_of_ble_eq_true rfl) dX9_reckonReserved_48 ⟨Nat.le_of_ble_eq_true rfl, Nat.le_of_ble_eq_true rfl⟩ hp.1 (fun H locs v σ48 hB hP => ?_)
        obtain ⟨⟨b48, rfl, hb48⟩, rfl⟩ := hP
        refine lv_if_eq (tgt := 97) hx hb dX9_reckonReserved_51 (by decide) (fun c51 => ?_) (fun c51 => ?_)
        · refine lv_iinc (lv' := [(4, .int _), (7, .ref _), (6, .ref _), (5, .ref _), (3, .int _), (2, .int _), (1, .int _), (0, .ref _)]) hx hb dX9_reckonReserved_97 hl (k := 3) rfl rfl (by decide) rfl (fun ls hl => ?_)
          refine lv_goto (tgt := 5) hx hb dX9_reckonReserved_100 (by decide) ?_
          have e8 := cl_add1 hi4.1 (by omega)
          exact ih5 _ (by subst hd5; rw [e8]; omega) _ _ _ _ _ hB (lv_sub hl [0, 4, 5, 6, 7] rfl) ⟨by rw [e8]; omega, by rw [e8]; omega⟩ (rk_st hi4.1 hi4.2 hs3 (by first | (rw [rk_n1 hz23, Int.add_zero]; done) | (rw [rk_n2 hz30, Int.add_zero]; done) | (rw [rk_nd (sgb_f hb48 c51), Int.add_zero]; done) | exact hz68 | exact hz96 | (rw [rk_v hz23 hz30 (fun z => by have := i_le c55; have e0 : (0 : Int32).toInt = 0 := rfl; omega) c78, Int.add_zero]; done) | fail "no road")) rfl
        · refine lv_iload_n hx hb dX9_reckonReserved_54 rfl (lv_at hl 5 rfl) ?_
          refine lv_if_ge (tgt := 72) hx hb dX9_reckonReserved_55 (by decide) (fun c55 => ?_) (fun c55 => ?_)
          · refine lv_aload hx hb dX9_reckonReserved_72 (lv_at hl 1 rfl) ?_
            refine gf_X9_182 F hB dX9_reckonReserved_74 (pi_dv hV hj hz23) ?_
            refine lv_iload_n hx hb dX9_reckonReserved_77 rfl (lv_at hl 5 rfl) ?_
            refine lv_icmp_ne (tgt := 97) hx hb dX9_reckonReserved_78 (by decide) (fun c78 => ?_) (fun c78 => ?_)
            · refine lv_iinc (lv' := [(4, .int _), (7, .ref _), (6, .ref _), (5, .ref _), (3, .int _), (2, .int _), (1, .int _), (0, .ref _)]) hx hb dX9_reckonReserved_97 hl (k := 3) rfl rfl (by decide) rfl (fun ls hl => ?_)
              refine lv_goto (tgt := 5) hx hb dX9_reckonReserved_100 (by decide) ?_
              have e8 := cl_add1 hi4.1 (by omega)
              exact ih5 _ (by subst hd5; rw [e8]; omega) _ _ _ _ _ hB (lv_sub hl [0, 4, 5, 6, 7] rfl) ⟨by rw [e8]; omega, by rw [e8]; omega⟩ (rk_st hi4.1 hi4.2 hs3 (by first | (rw [rk_n1 hz23, Int.add_zero]; done) | (rw [rk_n2 hz30, Int.add_zero]; done) | (rw [rk_nd (sgb_f hb48 c51), Int.add_zero]; done) | exact hz68 | exact hz96 | (rw [rk_v hz23 hz30 (fun z => by have := i_le c55; have e0 : (0 : Int32).toInt = 0 := rfl; omega) c78, Int.add_zero]; done) | fail "no road")) rfl
            · refine lv_iload_n hx hb dX9_reckonReserved_81 rfl (lv_at hl 4 rfl) ?_
              refine lv_aload hx hb dX9_reckonReserved_82 (lv_at hl 1 rfl) ?_
              refine gf_X9_109 F hB dX9_reckonReserved_84 (pi_dv hV hj hz23) ?_
              refine lv_aload hx hb dX9_reckonReserved_87 (lv_at hl 0 rfl) ?_
              refine gf_X9_147 F hB dX9_reckonReserved_89 (pi_en hV hj hz30) ?_
              have hgr := en_gr hV (pi_en hV hj hz30)
              refine cl_callS F hB (k_hubCost l D cy hB.2 _ _ hgr.1 (by omega) _) (cwS 2 F.1.2.2.2.2 (vgS (vm_5 _ (List.mem_of_getElem? (i := 12) rfl)) (vm_5 _ (List.mem_of_getElem? (i := 13) rfl)) (vm_4 _ (List.mem_of_getElem? (i := 20) rfl)) (vm_5 _ (List.mem_of_getElem? (i := 8) rfl))) rfl rfl rfl ⟨rfl, by decide, by decide, by decide +kernel⟩ ⟨Nat.le_of_ble_eq_true rfl, Nat.le_of_ble_eq_true rfl⟩) rfl hl.1 rfl (Nat.le_of_ble_eq_true rfl) dX9_reckonReserved_92 ⟨Nat.le_of_ble_eq_true rfl, Nat.le_of_ble_eq_true rfl⟩ (fun H locs v σ92 hB hP => ?_)
              obtain ⟨⟨z92, rfl, hz92⟩, rfl⟩ := hP
              refine lv_iadd hx hb dX9_reckonReserved_95 ?_
              have hz96 : (s3 + z92).toInt = s3.toInt + rk Y σ fx ub i4.toInt.toNat := by
                have h4 := i_le c55
                have e0 : (0 : Int32).toInt = 0 := rfl
                have g := hubC_rg (r := sgI σ b23 11) hgr.1 hgr.2
                rw [rk_u hz23 hz30 (sgb_t hb48 c51) (by omega) c78, i_add (by rw [hz92]; omega) (by rw [hz92]; omega), hz92]
              refine lv_istore_n (lv' := [(3, .int _), (7, .ref _), (6, .ref _), (5, .ref _), (4, .int _), (2, .int _), (1, .int _), (0, .ref _)]) hx hb dX9_reckonReserved_96 rfl hl (by decide) rfl (fun ls hl => ?_)
              refine lv_iinc (lv' := [(4, .int _), (3, .int _), (7, .ref _), (6, .ref _), (5, .ref _), (2, .int _), (1, .int _), (0, .ref _)]) hx hb dX9_reckonReserved_97 hl (k := 4) rfl rfl (by decide) rfl (fun ls hl => ?_)
              refine lv_goto (tgt := 5) hx hb dX9_reckonReserved_100 (by decide) ?_
              have e8 := cl_add1 hi4.1 (by omega)
              exact ih5 _ (by subst hd5; rw [e8]; omega) _ _ _ _ _ hB (lv_sub hl [0, 1, 5, 6, 7] rfl) ⟨by rw [e8]; omega, by rw [e8]; omega⟩ (rk_st hi4.1 hi4.2 hs3 (by first | (rw [rk_n1 hz23, Int.add_zero]; done) | (rw [rk_n2 hz30, Int.add_zero]; done) | (rw [rk_nd (sgb_f hb48 c51), Int.add_zero]; done) | exact hz68 | exact hz96 | (rw [rk_v hz23 hz30 (fun z => by have := i_le c55; have e0 : (0 : Int32).toInt = 0 := rfl; omega) c78, Int.add_zero]; done) | fail "no road")) rfl
          · refine lv_iload_n hx hb dX9_reckonReserved_58 rfl (lv_at hl 4 rfl) ?_
            refine lv_aload hx hb dX9_reckonReserved_59 (lv_at hl 0 rfl) ?_
            refine gf_X9_147 F hB dX9_reckonReserved_61 (pi_en hV hj hz30) ?_
            refine cl_callS F hB (k_hostCost l D cy hB.2 _ _) (cwS 1 F.1.2.2.2.2 (vgS (vm_5 _ (List.mem_of_getElem? (i := 10) rfl)) (vm_5 _ (List.mem_of_getElem? (i := 11) rfl)) (vm_4 _ (List.mem_of_getElem? (i := 20) rfl)) (vm_5 _ (List.mem_of_getElem? (i := 7) rfl))) rfl rfl rfl ⟨rfl, by decide, by decide, by decide +kernel⟩ ⟨Nat.le_of_ble_eq_true rfl, Nat.le_of_ble_eq_true rfl⟩) rfl hl.1 rfl (Nat.le_of_ble_eq_true rfl) dX9_reckonReserved_64 ⟨Nat.le_of_ble_eq_true rfl, Nat.le_of_ble_eq_true rfl⟩ (fun H locs v σ64 hB hP => ?_)
            obtain ⟨rfl, rfl⟩ := hP
            refine lv_iadd hx hb dX9_reckonReserved_67 ?_
            refine lv_istore_n (lv' := [(3, .int _), (7, .ref _), (6, .ref _), (5, .ref _), (4, .int _), (2, .int _), (1, .int _), (0, .ref _)]) hx hb dX9_reckonReserved_68 rfl hl (by decide) rfl (fun ls hl => ?_)
            have hz68 : (s3 + (2 + sgI σ b30 3)).toInt = s3.toInt + rk Y σ fx ub i4.toInt.toNat := by
              have g := en_gr hV (pi_en hV hj hz30)
              have e := hc_h g.1 (by omega)
              have h4 := i_nle c55
              have e0 : (0 : Int32).toInt = 0 := rfl
              rw [rk_h hz23 hz30 (sgb_t hb48 c51) (by omega), i_add (by rw [e]; omega) (by rw [e]; omega), e]
            refine lv_goto (tgt := 97) hx hb dX9_reckonReserved_69 (by decide) ?_
            refine lv_iinc (lv' := [(4, .int _), (3, .int _), (7, .ref _), (6, .ref _), (5, .ref _), (2, .int _), (1, .int _), (0, .ref _)]) hx hb dX9_reckonReserved_97 hl (k := 4) rfl rfl (by decide) rfl (fun ls hl => ?_)
            refine lv_goto (tgt := 5) hx hb dX9_reckonReserved_100 (by decide) ?_
            have e8 := cl_add1 hi4.1 (by omega)
            exact ih5 _ (by subst hd5; rw [e8]; omega) _ _ _ _ _ hB (lv_sub hl [0, 1, 5, 6, 7] rfl) ⟨by rw [e8]; omega, by rw [e8]; omega⟩ (rk_st hi4.1 hi4.2 hs3 (by first | (rw [rk_n1 hz23, Int.add_zero]; done) | (rw [rk_n2 hz30, Int.add_zero]; done) | (rw [rk_nd (sgb_f hb48 c51), Int.add_zero]; done) | exact hz68 | exact hz96 | (rw [rk_v hz23 hz30 (fun z => by have := i_le c55; have e0 : (0 : Int32).toInt = 0 := rfl; omega) c78, Int.add_zero]; done) | fail "no road")) rfl
end CLK1
