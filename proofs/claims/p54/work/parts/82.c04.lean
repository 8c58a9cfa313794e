section VC
noncomputable def q_Hubcascade_sleep_0 : VCt := ([av_37, av_6], [], [([av_13], [av_38, av_15], [], [])], [(6, 7, 4)], 2)
noncomputable def mt_Hubcascade_sleep_0 : List (Nat × Bool × Nat × List VCt) := [(185, false, 2, [q_Hubcascade_deviceBelowHost_0]), (241, false, 2, [q_Hubcascade_hasTransferWithin_0]), (246, true, 2, [q_Hubcascade_isSameOrBelow_0])]
noncomputable def fp_Hubcascade_sleep_0 : List (Nat × Nat × Nat × Nat) := [(74, 6, 7, 4)]
noncomputable def pt_Hubcascade_sleep_0_0 : List (Nat × VS) := [(0, ([av_37, av_6, av_38, av_38, av_38, av_38], [], [], 0)), (38, ([av_37, av_15, av_30, (vC 0), (vC 0), av_38], [], [(ao_71, (vC 99))], 1)), (38, ([av_37, av_15, av_30, av_17, (vC 1), av_30], [], [(ao_72, av_16)], 1)), (38, ([av_37, av_15, av_30, av_42, (vC 2), av_30], [], [(ao_72, av_16)], 1)), (38, ([av_37, av_15, av_30, av_41, (vC 3), av_30], [], [(ao_72, av_16)], 1)), (38, ([av_37, av_15, av_30, av_26, (vC 4), av_30], [], [(ao_72, av_16)], 1)), (38, ([av_37, av_15, av_30, av_49, (vC 5), av_30], [], [(ao_72, av_16)], 1)), (38, ([av_37, av_15, av_30, av_50, (vC 6), av_30], [], [(ao_72, av_16)], 1)), (38, ([av_37, av_15, av_30, av_51, (vC 7), av_30], [], [(ao_72, av_16)], 1)), (38, ([av_37, av_15, av_30, av_3, (vC 8), av_30], [], [(ao_72, av_16)], 1)), (38, ([av_37, av_15, av_30, av_52, (vC 9), av_30], [], [(ao_72, av_16)], 1)), (38, ([av_37, av_15, av_30, av_53, (vC 10), av_30], [], [(ao_72, av_16)], 1)), (38, ([av_37, av_15, av_30, av_5, (vC 11), av_30], [], [(ao_72, av_16)], 1)), (38, ([av_37, av_15, av_30, av_54, (vC 12), av_30], [], [(ao_72, av_16)], 1)), (38, ([av_37, av_15, av_30, av_55, (vC 13), av_30], [], [(ao_72, av_16)], 1)), (38, ([av_37, av_15, av_30, av_56, (vC 14), av_30], [], [(ao_72, av_16)], 1)), (38, ([av_37, av_15, av_30, av_15, (vC 15), av_30], [], [(ao_72, av_16)], 1)), (38, ([av_37, av_15, av_30, av_13, (vC 16), av_30], [], [(ao_72, av_16)], 1))]
set_option maxRecDepth 100000 in
theorem k_Hubcascade_sleep_0 : vi_chk vK vSG 6 q_Hubcascade_sleep_0.2.2.2.2 vFT_X9 fp_Hubcascade_sleep_0 vCT_X9 vC2_X9 [23] mt_Hubcascade_sleep_0 cX9_sleep [38] 400 pt_Hubcascade_sleep_0_0 q_Hubcascade_sleep_0 [] = true := by decide +kernel
set_option maxHeartbeats 4000000 in
theorem m_Hubcascade_sleep_0 (l : Launch) (D : va_G) (cy : Nat → ClassId) (hst : l.stackTraces = false) : vi_Mx l D cy vK vSG yX9_sleep (Cond.code yX9_sleep cX9_sleep 6 (some .int) :: vWall) 8 132 q_Hubcascade_sleep_0 ["java/lang/IndexOutOfBoundsException", "java/lang/UnsupportedOperationException"] := by
  refine vi_Mx_of (own := RX9) (J := [38]) (f := 400) (XP := [23]) (FT := vFT_X9) (FP := fp_Hubcascade_sleep_0) (CT := vCT_X9) (C2 := vC2_X9) (MT := mt_Hubcascade_sleep_0) (by decide) rfl rfl (by decide +kernel) (by decide +kernel) (vK_ty cy) k_Hubcascade_sleep_0 ?_
  · intro p e s m below meth c ad τ w av S hK hN hs hT hout hlocks
    refine ⟨vfg_X9 S hK hN, ?_, vct_X9 S, vc2_X9 S, ?_, ?_⟩
    · refine vi_f4 (L := fp_Hubcascade_sleep_0) ?_
      refine List.forall_mem_cons.mpr ⟨fun d x fs b v h1 h2 h3 => vfp_X9_74_6_7 S hK hN (vTy_ok h1 h2 h3), ?_⟩
      exact fun q hq => by cases hq
    · refine vi_f4 (L := mt_Hubcascade_sleep_0) ?_
      refine List.forall_mem_cons.mpr ⟨(List.forall_mem_cons.mpr ⟨⟨rfl, vi_crX S (m_Hubcascade_deviceBelowHost_0 l D cy hst) (cwV 1 S.2.2.2.2 (vgV (vm_6 _ (List.mem_of_getElem? (i := 0) rfl)) (vm_6 _ (List.mem_of_getElem? (i := 1) rfl)) (vm_6 _ (List.mem_of_getElem? (i := 2) rfl)) (vm_4 _ (List.mem_of_getElem? (i := 20) rfl)) (vm_5 _ (List.mem_of_getElem? (i := 5) rfl))) rfl rfl rfl ⟨rfl, by decide, by decide, by decide +kernel⟩ ⟨Nat.le_of_ble_eq_true rfl, Nat.le_of_ble_eq_true rfl⟩) rfl ⟨_, _, _, _, _, _, rfl, rfl, rfl, rfl⟩ hK hN hs hT (fun w1 w2 h1 h2 => vi_kept_tr (by decide +kernel) h1 h2) (fun _ h => h) ⟨Nat.le_refl _, Nat.le_refl _⟩ (by decide) hout hlocks (Nat.le_refl _)⟩, (fun ct2 h2 => by cases h2)⟩), ?_⟩
      refine List.forall_mem_cons.mpr ⟨(List.forall_mem_cons.mpr ⟨⟨rfl, vi_crV S (m_Hubcascade_hasTransferWithin_0 l D cy hst) (cwV 1 S.2.2.2.2 (vgV (vm_7 _ (List.mem_of_getElem? (i := 18) rfl)) (vm_7 _ (List.mem_of_getElem? (i := 19) rfl)) (vm_7 _ (List.mem_of_getElem? (i := 20) rfl)) (vm_4 _ (List.mem_of_getElem? (i := 20) rfl)) (vm_7 _ (List.mem_of_getElem? (i := 16) rfl))) rfl rfl rfl ⟨rfl, by decide, by decide, by decide +kernel⟩ ⟨Nat.le_of_ble_eq_true rfl, Nat.le_of_ble_eq_true rfl⟩) rfl ⟨_, _, _, _, _, _, rfl, rfl, rfl, rfl⟩ hK hN hs (fun w1 w2 h1 h2 => vi_kept_tr (by decide +kernel) h1 h2) (fun q hq => Or.inr hq) ⟨Nat.le_refl _, Nat.le_refl _⟩⟩, (fun ct2 h2 => by cases h2)⟩), ?_⟩
      refine List.forall_mem_cons.mpr ⟨(List.forall_mem_cons.mpr ⟨⟨rfl, vi_crS S (m_Hubcascade_isSameOrBelow_0 l D cy hst) (cwS 2 S.2.2.2.2 (vgS (vm_5 _ (List.mem_of_getElem? (i := 32) rfl)) (vm_5 _ (List.mem_of_getElem? (i := 33) rfl)) (vm_4 _ (List.mem_of_getElem? (i := 20) rfl)) (vm_5 _ (List.mem_of_getElem? (i := 6) rfl))) rfl rfl rfl ⟨rfl, by decide, by decide, by decide +kernel⟩ ⟨Nat.le_of_ble_eq_true rfl, Nat.le_of_ble_eq_true rfl⟩) rfl hK hN hs (fun w1 w2 h1 h2 => vi_kept_tr (by decide +kernel) h1 h2) (fun q hq => Or.inr hq) ⟨Nat.le_refl _, Nat.le_refl _⟩⟩, (fun ct2 h2 => by cases h2)⟩), ?_⟩
      exact fun q hq => by cases hq
    · refine List.forall_mem_cons.mpr ⟨vi_throwS (WS := _ :: vWall) (text := "it can\'t be put asleep") (ik := 139) (is := 244) (ic := 143) (X := "java/lang/UnsupportedOperationException") S.1 S.2.1 hst S.2.2.2.2 S.2.2.2.1 (by decide) (by decide) hT (by decide) (List.mem_cons_of_mem _ (vm_4 _ (List.mem_of_getElem? (i := 27) rfl))) (List.mem_cons_of_mem _ (vm_4 _ (List.mem_of_getElem? (i := 28) rfl))) (fun w h => List.mem_cons_of_mem _ (vmx_1 w h)) (by decide +kernel) (by decide +kernel) (by decide) S.2.2.1 (by decide +kernel) (by decide +kernel) (by decide +kernel) (by decide +kernel) (by decide +kernel) hout hlocks (Nat.le_of_ble_eq_true rfl) (Nat.le_of_ble_eq_true rfl) ⟨Nat.le_refl _, Nat.le_refl _⟩ (Nat.le_refl _) (fun _ h => h), ?_⟩
      exact fun q hq => by cases hq
end VC
section VC
noncomputable def q_Hubcascade_wake_0 : VCt := ([av_37, av_6], [], [([av_13], [av_38, av_15], [], [])], [(6, 7, 4), (6, 16, 4)], 2)
noncomputable def mt_Hubcascade_wake_0 : List (Nat × Bool × Nat × List VCt) := [(124, false, 2, [q_Hubcascade_deviceAt_0])]
noncomputable def fp_Hubcascade_wake_0 : List (Nat × Nat × Nat × Nat) := [(74, 6, 7, 4), (255, 6, 16, 4)]
noncomputable def pt_Hubcascade_wake_0_0 : List (Nat × VS) := [(0, ([av_37, av_6, av_38, av_38, av_38, av_38], [], [], 0)), (33, ([av_37, av_15, av_30, (vC 0), av_30, (vC 0)], [], [(ao_71, (vC 122))], 1)), (33, ([av_37, av_15, av_30, av_17, av_19, (vC 1)], [], [], 1)), (33, ([av_37, av_15, av_30, av_42, av_19, (vC 2)], [], [], 1)), (33, ([av_37, av_15, av_30, av_41, av_19, (vC 3)], [], [], 1)), (33, ([av_37, av_15, av_30, av_26, av_19, (vC 4)], [], [], 1)), (33, ([av_37, av_15, av_30, av_49, av_19, (vC 5)], [], [], 1)), (33, ([av_37, av_15, av_30, av_50, av_19, (vC 6)], [], [], 1)), (33, ([av_37, av_15, av_30, av_51, av_19, (vC 7)], [], [], 1)), (33, ([av_37, av_15, av_30, av_3, av_19, (vC 8)], [], [], 1)), (33, ([av_37, av_15, av_30, av_52, av_19, (vC 9)], [], [], 1)), (33, ([av_37, av_15, av_30, av_53, av_19, (vC 10)], [], [], 1)), (33, ([av_37, av_15, av_30, av_5, av_19, (vC 11)], [], [], 1)), (33, ([av_37, av_15, av_30, av_54, av_19, (vC 12)], [], [], 1)), (33, ([av_37, av_15, av_30, av_55, av_19, (vC 13)], [], [], 1)), (33, ([av_37, av_15, av_30, av_56, av_19, (vC 14)], [], [], 1)), (33, ([av_37, av_15, av_30, av_15, av_19, (vC 15)], [], [], 1)), (33, ([av_37, av_15, av_30, av_13, av_19, (vC 16)], [], [], 1))]
set_option maxRecDepth 100000 in
theorem k_Hubcascade_wake_0 : vi_chk vK vSG 6 q_Hubcascade_wake_0.2.2.2.2 vFT_X9 fp_Hubcascade_wake_0 vCT_X9 vC2_X9 [15] mt_Hubcascade_wake_0 cX9_wake [33] 400 pt_Hubcascade_wake_0_0 q_Hubcascade_wake_0 [] = true := by decide +kernel
set_option maxHeartbeats 4000000 in
theorem m_Hubcascade_wake_0 (l : Launch) (D : va_G) (cy : Nat → ClassId) (hst : l.stackTraces = false) : vi_Mx l D cy vK vSG yX9_wake (Cond.code yX9_wake cX9_wake 6 (some .int) :: vWall) 7 111 q_Hubcascade_wake_0 ["java/lang/IndexOutOfBoundsException", "java/lang/UnsupportedOperationException"] := by
  refine vi_Mx_of (own := RX9) (J := [33]) (f := 400) (XP := [15]) (FT := vFT_X9) (FP := fp_Hubcascade_wake_0) (CT := vCT_X9) (C2 := vC2_X9) (MT := mt_Hubcascade_wake_0) (by decide) rfl rfl (by decide +kernel) (by decide +kernel) (vK_ty cy) k_Hubcascade_wake_0 ?_
  · intro p e s m below meth c ad τ w av S hK hN hs hT hout hlocks
    refine ⟨vfg_X9 S hK hN, ?_, vct_X9 S, vc2_X9 S, ?_, ?_⟩
    · refine vi_f4 (L := fp_Hubcascade_wake_0) ?_
      refine List.forall_mem_cons.mpr ⟨fun d x fs b v h1 h2 h3 => vfp_X9_74_6_7 S hK hN (vTy_ok h1 h2 h3), ?_⟩
      refine List.forall_mem_cons.mpr ⟨fun d x fs b v h1 h2 h3 => vfp_X9_255_6_16 S hK hN (vTy_ok h1 h2 h3), ?_⟩
      exact fun q hq => by cases hq
    · refine vi_f4 (L := mt_Hubcascade_wake_0) ?_
      refine List.forall_mem_cons.mpr ⟨(List.forall_mem_cons.mpr ⟨⟨rfl, vi_crX S (m_Hubcascade_deviceAt_0 l D cy hst) (cwV 1 S.2.2.2.2 (vgV (vm_4 _ (List.mem_of_getElem? (i := 29) rfl)) (vm_4 _ (List.mem_of_getElem? (i := 30) rfl)) (vm_4 _ (List.mem_of_getElem? (i := 31) rfl)) (vm_4 _ (List.mem_of_getElem? (i := 20) rfl)) (vm_4 _ (List.mem_of_getElem? (i := 23) rfl))) rfl rfl rfl ⟨rfl, by decide, by decide, by decide +kernel⟩ ⟨Nat.le_of_ble_eq_true rfl, Nat.le_of_ble_eq_true rfl⟩) rfl ⟨_, _, _, _, _, _, rfl, rfl, rfl, rfl⟩ hK hN hs hT (fun w1 w2 h1 h2 => vi_kept_tr (by decide +kernel) h1 h2) (fun _ h => h) ⟨Nat.le_refl _, Nat.le_refl _⟩ (by decide) hout hlocks (Nat.le_refl _)⟩, (fun ct2 h2 => by cases h2)⟩), ?_⟩
      exact fun q hq => by cases hq
    · refine List.forall_mem_cons.mpr ⟨vi_throwS (WS := _ :: vWall) (text := "it is not asleep") (ik := 139) (is := 250) (ic := 143) (X := "java/lang/UnsupportedOperationException") S.1 S.2.1 hst S.2.2.2.2 S.2.2.2.1 (by decide) (by decide) hT (by decide) (List.mem_cons_of_mem _ (vm_4 _ (List.mem_of_getElem? (i := 27) rfl))) (List.mem_cons_of_mem _ (vm_4 _ (List.mem_of_getElem? (i := 28) rfl))) (fun w h => List.mem_cons_of_mem _ (vmx_1 w h)) (by decide +kernel) (by decide +kernel) (by decide) S.2.2.1 (by decide +kernel) (by decide +kernel) (by decide +kernel) (by decide +kernel) (by decide +kernel) hout hlocks (Nat.le_of_ble_eq_true rfl) (Nat.le_of_ble_eq_true rfl) ⟨Nat.le_refl _, Nat.le_refl _⟩ (Nat.le_refl _) (fun _ h => h), ?_⟩
      exact fun q hq => by cases hq
end VC
section VC
noncomputable def q_Hubcascade_isWithin_7 : VCt := ([av_6, (vC 0), (vC 2047)], [], [([(vC 0)], [], [], []), ([(vC 1)], [av_73], [], [])], [], 0)
noncomputable def mt_Hubcascade_isWithin_7 : List (Nat × Bool × Nat × List VCt) := []
noncomputable def fp_Hubcascade_isWithin_7 : List (Nat × Nat × Nat × Nat) := []
noncomputable def pt_Hubcascade_isWithin_7_0 : List (Nat × VS) := [(0, ([av_6, (vC 0), (vC 2047)], [], [], 0))]
set_option maxRecDepth 100000 in
theorem k_Hubcascade_isWithin_7 : vi_chk vK vSG 3 0 vFT_X9 fp_Hubcascade_isWithin_7 vCT_X9 vC2_X9 [] mt_Hubcascade_isWithin_7 cX9_isWithin [] 400 pt_Hubcascade_isWithin_7_0 q_Hubcascade_isWithin_7 [] = true := by decide +kernel
set_option maxHeartbeats 4000000 in
theorem m_Hubcascade_isWithin_7 (l : Launch) (D : va_G) (cy : Nat → ClassId) (hst : l.stackTraces = false) : vi_Mn l D cy vK vSG yX9_isWithin (Cond.code yX9_isWithin cX9_isWithin 3 (some .boolean) :: vWall) 0 0 q_Hubcascade_isWithin_7 := by
  refine vi_Mn_of (own := RX9) (J := []) (f := 400) (FT := vFT_X9) (FP := fp_Hubcascade_isWithin_7) (CT := vCT_X9) (C2 := vC2_X9) (MT := mt_Hubcascade_isWithin_7) (by decide) rfl rfl rfl (by decide +kernel) (by decide +kernel) (vK_ty cy) k_Hubcascade_isWithin_7 ?_
  · intro p e s m below meth c ad τ w av S hK hN hs
    refine ⟨vfg_X9 S hK hN, ?_, vct_X9 S, vc2_X9 S, ?_⟩
    · exact fun i ci k d9 h => by cases h
    · exact fun i sta k cts h => by cases h
end VC
section VC
noncomputable def q_Hubcascade_checkBit_0 : VCt := ([av_6, av_6, av_6, av_6], [], [([av_6], [], [], [])], [], 0)
noncomputable def mt_Hubcascade_checkBit_0 : List (Nat × Bool × Nat × List VCt) := []
noncomputable def fp_Hubcascade_checkBit_0 : List (Nat × Nat × Nat × Nat) := []
noncomputable def pt_Hubcascade_checkBit_0_0 : List (Nat × VS) := [(0, ([av_6, av_6, av_6, av_6, av_38, av_38], [], [], 0))]
set_option maxRecDepth 100000 in
theorem k_Hubcascade_checkBit_0 : vi_chk vK vSG 6 0 vFT_X9 fp_Hubcascade_checkBit_0 vCT_X9 vC2_X9 [] mt_Hubcascade_checkBit_0 cX9_checkBit [] 400 pt_Hubcascade_checkBit_0_0 q_Hubcascade_checkBit_0 [] = true := by decide +kernel
set_option maxHeartbeats 4000000 in
theorem m_Hubcascade_checkBit_0 (l : Launch) (D : va_G) (cy : Nat → ClassId) (hst : l.stackTraces = false) : vi_Mn l D cy vK vSG yX9_checkBit (Cond.code yX9_checkBit cX9_checkBit 6 (some .int) :: vWall) 0 0 q_Hubcascade_checkBit_0 := by
  refine vi_Mn_of (own := RX9) (J := []) (f := 400) (FT := vFT_X9) (FP := fp_Hubcascade_checkBit_0) (CT := vCT_X9) (C2 := vC2_X9) (MT := mt_Hubcascade_checkBit_0) (by decide) rfl rfl rfl (by decide +kernel) (by decide +kernel) (vK_ty cy) k_Hubcascade_checkBit_0 ?_
  · intro p e s m below meth c ad τ w av S hK hN hs
    refine ⟨vfg_X9 S hK hN, ?_, vct_X9 S, vc2_X9 S, ?_⟩
    · exact fun i ci k d9 h => by cases h
    · exact fun i sta k cts h => by cases h
end VC
section VC
noncomputable def q_Hubcascade_five_0 : VCt := ([av_37, av_6], [], [([av_6], [av_38, av_73], [], [])], [], 1)
noncomputable def mt_Hubcascade_five_0 : List (Nat × Bool × Nat × List VCt) := [(88, true, 3, [q_Hubcascade_isWithin_7]), (260, true, 4, [q_Hubcascade_checkBit_0])]
noncomputable def fp_Hubcascade_five_0 : List (Nat × Nat × Nat × Nat) := []
noncomputable def pt_Hubcascade_five_0_0 : List (Nat × VS) := [(0, ([av_37, av_6, av_38, av_38], [], [], 0)), (27, ([av_37, av_73, (vC 31), (vC 0)], [], [], 0)), (27, ([av_37, av_73, av_6, (vC 1)], [], [], 0)), (27, ([av_37, av_73, av_6, (vC 2)], [], [], 0)), (27, ([av_37, av_73, av_6, (vC 3)], [], [], 0)), (27, ([av_37, av_73, av_6, (vC 4)], [], [], 0)), (27, ([av_37, av_73, av_6, (vC 5)], [], [], 0)), (27, ([av_37, av_73, av_6, (vC 6)], [], [], 0)), (27, ([av_37, av_73, av_6, (vC 7)], [], [], 0)), (27, ([av_37, av_73, av_6, (vC 8)], [], [], 0)), (27, ([av_37, av_73, av_6, (vC 9)], [], [], 0)), (27, ([av_37, av_73, av_6, (vC 10)], [], [], 0)), (27, ([av_37, av_73, av_6, (vC 11)], [], [], 0))]
set_option maxRecDepth 100000 in
theorem k_Hubcascade_five_0 : vi_chk vK vSG 4 q_Hubcascade_five_0.2.2.2.2 vFT_X9 fp_Hubcascade_five_0 vCT_X9 vC2_X9 [11] mt_Hubcascade_five_0 cX9_five [27] 400 pt_Hubcascade_five_0_0 q_Hubcascade_five_0 [] = true := by decide +kernel
set_option maxHeartbeats 4000000 in
theorem m_Hubcascade_five_0 (l : Launch) (D : va_G) (cy : Nat → ClassId) (hst : l.stackTraces = false) : vi_Mx l D cy vK vSG yX9_five (Cond.code yX9_five cX9_five 4 (some .int) :: vWall) 6 90 q_Hubcascade_five_0 ["java/lang/IllegalArgumentException"] := by
  refine vi_Mx_of (own := RX9) (J := [27]) (f := 400) (XP := [11]) (FT := vFT_X9) (FP := fp_Hubcascade_five_0) (CT := vCT_X9) (C2 := vC2_X9) (MT := mt_Hubcascade_five_0) (by decide) rfl rfl (by decide +kernel) (by decide +kernel) (vK_ty cy) k_Hubcascade_five_0 ?_
  · intro p e s m below meth c ad τ w av S hK hN hs hT hout hlocks
    refine ⟨vfg_X9 S hK hN, ?_, vct_X9 S, vc2_X9 S, ?_, ?_⟩
    · exact fun i ci k d9 h => by cases h
    · refine vi_f4 (L := mt_Hubcascade_five_0) ?_
      refine List.forall_mem_cons.mpr ⟨(List.forall_mem_cons.mpr ⟨⟨rfl, vi_crS S (m_Hubcascade_isWithin_7 l D cy hst) (cwS 3 S.2.2.2.2 (vgS (vm_4 _ (List.mem_of_getElem? (i := 21) rfl)) (vm_4 _ (List.mem_of_getElem? (i := 22) rfl)) (vm_4 _ (List.mem_of_getElem? (i := 20) rfl)) (vm_4 _ (List.mem_of_getElem? (i := 12) rfl))) rfl rfl rfl ⟨rfl, by decide, by decide, by decide +kernel⟩ ⟨Nat.le_of_ble_eq_true rfl, Nat.le_of_ble_eq_true rfl⟩) rfl hK hN hs (fun w1 w2 h1 h2 => vi_kept_tr (by decide +kernel) h1 h2) (fun q hq => Or.inr hq) ⟨Nat.le_refl _, Nat.le_refl _⟩⟩, (fun ct2 h2 => by cases h2)⟩), ?_⟩
      refine List.forall_mem_cons.mpr ⟨(List.forall_mem_cons.mpr ⟨⟨rfl, vi_crS S (m_Hubcascade_checkBit_0 l D cy hst) (cwS 4 S.2.2.2.2 (vgS (vm_7 _ (List.mem_of_getElem? (i := 25) rfl)) (vm_7 _ (List.mem_of_getElem? (i := 26) rfl)) (vm_4 _ (List.mem_of_getElem? (i := 20) rfl)) (vm_7 _ (List.mem_of_getElem? (i := 23) rfl))) rfl rfl rfl ⟨rfl, by decide, by decide, by decide +kernel⟩ ⟨Nat.le_of_ble_eq_true rfl, Nat.le_of_ble_eq_true rfl⟩) rfl hK hN hs (fun w1 w2 h1 h2 => vi_kept_tr (by decide +kernel) h1 h2) (fun q hq => Or.inr hq) ⟨Nat.le_refl _, Nat.le_refl _⟩⟩, (fun ct2 h2 => by cases h2)⟩), ?_⟩
      exact fun q hq => by cases hq
    · refine List.forall_mem_cons.mpr ⟨vi_throwSW (WS := _ :: vWall) (text := "not eleven bits") (ik := 92) (is := 258) (ic := 96) (X := "java/lang/IllegalArgumentException") S.1 S.2.1 hst S.2.2.2.2 S.2.2.2.1 (by decide) (by decide) hT (by decide) (List.mem_cons_of_mem _ (vm_4 _ (List.mem_of_getElem? (i := 14) rfl))) (List.mem_cons_of_mem _ (vm_4 _ (List.mem_of_getElem? (i := 15) rfl))) (fun w h => List.mem_cons_of_mem _ (vmx_2 w h)) (by decide +kernel) (by decide +kernel) (by decide) S.2.2.1 (by decide +kernel) (by decide +kernel) (by decide +kernel) (by decide +kernel) (by decide +kernel) hout hlocks (Nat.le_of_ble_eq_true rfl) (Nat.le_of_ble_eq_true rfl) ⟨Nat.le_refl _, Nat.le_refl _⟩ (Nat.le_refl _) (fun _ h => h), ?_⟩
      exact fun q hq => by cases hq
end VC
section VC
noncomputable def q_Hubcascade_isWithin_8 : VCt := ([av_6, (vC 0), (vC 255)], [], [([(vC 0)], [], [], []), ([(vC 1)], [av_74], [], [])], [], 0)
noncomputable def mt_Hubcascade_isWithin_8 : List (Nat × Bool × Nat × List VCt) := []
noncomputable def fp_Hubcascade_isWithin_8 : List (Nat × Nat × Nat × Nat) := []
noncomputable def pt_Hubcascade_isWithin_8_0 : List (Nat × VS) := [(0, ([av_6, (vC 0), (vC 255)], [], [], 0))]
set_option maxRecDepth 100000 in
theorem k_Hubcascade_isWithin_8 : vi_chk vK vSG 3 0 vFT_X9 fp_Hubcascade_isWithin_8 vCT_X9 vC2_X9 [] mt_Hubcascade_isWithin_8 cX9_isWithin [] 400 pt_Hubcascade_isWithin_8_0 q_Hubcascade_isWithin_8 [] = true := by decide +kernel
set_option maxHeartbeats 4000000 in
theorem m_Hubcascade_isWithin_8 (l : Launch) (D : va_G) (cy : Nat → ClassId) (hst : l.stackTraces = false) : vi_Mn l D cy vK vSG yX9_isWithin (Cond.code yX9_isWithin cX9_isWithin 3 (some .boolean) :: vWall) 0 0 q_Hubcascade_isWithin_8 := by
  refine vi_Mn_of (own := RX9) (J := []) (f := 400) (FT := vFT_X9) (FP := fp_Hubcascade_isWithin_8) (CT := vCT_X9) (C2 := vC2_X9) (MT := mt_Hubcascade_isWithin_8) (by decide) rfl rfl rfl (by decide +kernel) (by decide +kernel) (vK_ty cy) k_Hubcascade_isWithin_8 ?_
  · intro p e s m below meth c ad τ w av S hK hN hs
    refine ⟨vfg_X9 S hK hN, ?_, vct_X9 S, vc2_X9 S, ?_⟩
    · exact fun i ci k d9 h => by cases h
    · exact fun i sta k cts h => by cases h
end VC
section VC
noncomputable def q_ByteRow_add_0 : VCt := ([av_7, av_6], [(ao_75, av_15)], [([], [], [(ao_75, av_1)], [])], [(5, 2, 1), (5, 3, 1), (200, 10, 0)], 0)
noncomputable def mt_ByteRow_add_0 : List (Nat × Bool × Nat × List VCt) := []
noncomputable def fp_ByteRow_add_0 : List (Nat × Nat × Nat × Nat) := [(19, 5, 2, 1), (22, 5, 3, 1), (100010, 200, 10, 0)]
noncomputable def pt_ByteRow_add_0_0 : List (Nat × VS) := [(0, ([av_7, av_6], [], [(ao_75, av_15)], 0))]
set_option maxRecDepth 100000 in
theorem k_ByteRow_add_0 : vi_chk vK vSG 2 0 vFT_X0 fp_ByteRow_add_0 vCT_X0 vC2_X0 [] mt_ByteRow_add_0 cX0_add [] 400 pt_ByteRow_add_0_0 q_ByteRow_add_0 [] = true := by decide +kernel
set_option maxHeartbeats 4000000 in
theorem m_ByteRow_add_0 (l : Launch) (D : va_G) (cy : Nat → ClassId) (hst : l.stackTraces = false) : vi_Mn l D cy vK vSG yX0_add (Cond.code yX0_add cX0_add 2 none :: vWall) 0 0 q_ByteRow_add_0 := by
  refine vi_Mn_of (own := RX0) (J := []) (f := 400) (FT := vFT_X0) (FP := fp_ByteRow_add_0) (CT := vCT_X0) (C2 := vC2_X0) (MT := mt_ByteRow_add_0) (by decide) rfl rfl rfl (by decide +kernel) (by decide +kernel) (vK_ty cy) k_ByteRow_add_0 ?_
  · intro p e s m below meth c ad τ w av S hK hN hs
    refine ⟨vfg_X0 S hK hN, ?_, vct_X0 S, vc2_X0 S, ?_⟩
    · refine vi_f4 (L := fp_ByteRow_add_0) ?_
      refine List.forall_mem_cons.mpr ⟨fun d x fs b v h1 h2 h3 => vfp_X0_19_5_2 S hK hN (vTy_ok h1 h2 h3), ?_⟩
      refine List.forall_mem_cons.mpr ⟨fun d x fs b v h1 h2 h3 => vfp_X0_22_5_3 S hK hN (vTy_ok h1 h2 h3), ?_⟩
      refine List.forall_mem_cons.mpr ⟨fun d x fs b v h1 h2 h3 => absurd h1 (vK_200 d x fs), ?_⟩
      exact fun q hq => by cases hq
    · exact fun i sta k cts h => by cases h
end VC
section VC
noncomputable def q_Hubcascade_type_0 : VCt := ([av_37, av_6], [], [([av_1], [av_38, av_74], [(ao_75, av_1)], [])], [(5, 2, 1), (5, 3, 1), (200, 10, 0)], 1)
noncomputable def mt_Hubcascade_type_0 : List (Nat × Bool × Nat × List VCt) := [(88, true, 3, [q_Hubcascade_isWithin_8]), (271, false, 2, [q_ByteRow_add_0])]
noncomputable def fp_Hubcascade_type_0 : List (Nat × Nat × Nat × Nat) := []
noncomputable def pt_Hubcascade_type_0_0 : List (Nat × VS) := [(0, ([av_37, av_6], [], [], 0))]
set_option maxRecDepth 100000 in
theorem k_Hubcascade_type_0 : vi_chk vK vSG 2 q_Hubcascade_type_0.2.2.2.2 vFT_X9 fp_Hubcascade_type_0 vCT_X9 vC2_X9 [11, 34] mt_Hubcascade_type_0 cX9_type [] 400 pt_Hubcascade_type_0_0 q_Hubcascade_type_0 [] = true := by decide +kernel
set_option maxHeartbeats 4000000 in
theorem m_Hubcascade_type_0 (l : Launch) (D : va_G) (cy : Nat → ClassId) (hst : l.stackTraces = false) : vi_Mx l D cy vK vSG yX9_type (Cond.code yX9_type cX9_type 2 (some .int) :: vWall) 6 90 q_Hubcascade_type_0 ["java/lang/IllegalArgumentException", "java/lang/IllegalStateException"] := by
  refine vi_Mx_of (own := RX9) (J := []) (f := 400) (XP := [11, 34]) (FT := vFT_X9) (FP := fp_Hubcascade_type_0) (CT := vCT_X9) (C2 := vC2_X9) (MT := mt_Hubcascade_type_0) (by decide) rfl rfl (by decide +kernel) (by decide +kernel) (vK_ty cy) k_Hubcascade_type_0 ?_
  · intro p e s m below meth c ad τ w av S hK hN hs hT hout hlocks
    refine ⟨vfg_X9 S hK hN, ?_, vct_X9 S, vc2_X9 S, ?_, ?_⟩
    · exact fun i ci k d9 h => by cases h
    · refine vi_f4 (L := mt_Hubcascade_type_0) ?_
      refine List.forall_mem_cons.mpr ⟨(List.forall_mem_cons.mpr ⟨⟨rfl, vi_crS S (m_Hubcascade_isWithin_8 l D cy hst) (cwS 3 S.2.2.2.2 (vgS (vm_4 _ (List.mem_of_getElem? (i := 21) rfl)) (vm_4 _ (List.mem_of_getElem? (i := 22) rfl)) (vm_4 _ (List.mem_of_getElem? (i := 20) rfl)) (vm_4 _ (List.mem_of_getElem? (i := 12) rfl))) rfl rfl rfl ⟨rfl, by decide, by decide, by decide +kernel⟩ ⟨Nat.le_of_ble_eq_true rfl, Nat.le_of_ble_eq_true rfl⟩) rfl hK hN hs (fun w1 w2 h1 h2 => vi_kept_tr (by decide +kernel) h1 h2) (fun q hq => Or.inr hq) ⟨Nat.le_refl _, Nat.le_refl _⟩⟩, (fun ct2 h2 => by cases h2)⟩), ?_⟩
      refine List.forall_mem_cons.mpr ⟨(List.forall_mem_cons.mpr ⟨⟨rfl, vi_crVN S (m_ByteRow_add_0 l D cy hst) ⟨va_cnB 1 S.2.2.2.2 (vgN (vm_0 _ (List.mem_of_getElem? (i := 6) rfl))) rfl rfl rfl (hN.1 _ nf_137) (S.2.2.2.2 _ (List.mem_cons_of_mem _ (vm_0 _ (List.mem_of_getElem? (i := 23) rfl)))) ⟨by decide, by decide, by decide +kernel⟩ ⟨Nat.le_of_ble_eq_true rfl, Nat.le_of_ble_eq_true rfl⟩, S.2.2.2.2 _ (List.mem_cons_of_mem _ (vm_1 _ (List.mem_of_getElem? (i := 13) rfl))), S.2.2.2.2 _ (List.mem_cons_of_mem _ (vm_1 _ (List.mem_of_getElem? (i := 14) rfl)))⟩ rfl ⟨_, _, _, _, _, _, rfl, rfl, rfl, rfl⟩ hK hN hs (fun w1 w2 h1 h2 => vi_kept_tr (by decide +kernel) h1 h2) (fun q hq => Or.inr hq) ⟨Nat.le_refl _, Nat.le_refl _⟩⟩, (fun ct2 h2 => by cases h2)⟩), ?_⟩
      exact fun q hq => by cases hq
    · refine List.forall_mem_cons.mpr ⟨vi_throwSW (WS := _ :: vWall) (text := "not a byte") (ik := 92) (is := 264) (ic := 96) (X := "java/lang/IllegalArgumentException") S.1 S.2.1 hst S.2.2.2.2 S.2.2.2.1 (by decide) (by decide) hT (by decide) (List.mem_cons_of_mem _ (vm_4 _ (List.mem_of_getElem? (i := 14) rfl))) (List.mem_cons_of_mem _ (vm_4 _ (List.mem_of_getElem? (i := 15) rfl))) (fun w h => List.mem_cons_of_mem _ (vmx_2 w h)) (by decide +kernel) (by decide +kernel) (by decide) S.2.2.1 (by decide +kernel) (by decide +kernel) (by decide +kernel) (by decide +kernel) (by decide +kernel) hout hlocks (Nat.le_of_ble_eq_true rfl) (Nat.le_of_ble_eq_true rfl) ⟨Nat.le_refl _, Nat.le_refl _⟩ (Nat.le_refl _) (fun _ h => h), ?_⟩
      refine List.forall_mem_cons.mpr ⟨vi_throwSW (WS := _ :: vWall) (text := "16 bytes are typed") (ik := 101) (is := 269) (ic := 105) (X := "java/lang/IllegalStateException") S.1 S.2.1 hst S.2.2.2.2 S.2.2.2.1 (by decide) (by decide) hT (by decide) (List.mem_cons_of_mem _ (vm_4 _ (List.mem_of_getElem? (i := 16) rfl))) (List.mem_cons_of_mem _ (vm_4 _ (List.mem_of_getElem? (i := 17) rfl))) (fun w h => List.mem_cons_of_mem _ (vmx_3 w h)) (by decide +kernel) (by decide +kernel) (by decide) S.2.2.1 (by decide +kernel) (by decide +kernel) (by decide +kernel) (by decide +kernel) (by decide +kernel) hout hlocks (Nat.le_of_ble_eq_true rfl) (Nat.le_of_ble_eq_true rfl) ⟨Nat.le_refl _, Nat.le_refl _⟩ (Nat.le_refl _) (fun _ h => h), ?_⟩
      exact fun q hq => by cases hq
end VC
section VC
noncomputable def q_ByteRow_drop_0 : VCt := ([av_7, (vC 0)], [(ao_75, (vC 0))], [([], [], [(ao_75, (vC 0))], [])], [(5, 1, 1), (5, 2, 1)], 0)
noncomputable def mt_ByteRow_drop_0 : List (Nat × Bool × Nat × List VCt) := [(25, true, 2, [(vi_mm false (vC 0) (vC 0))])]
noncomputable def fp_ByteRow_drop_0 : List (Nat × Nat × Nat × Nat) := [(15, 5, 1, 1), (19, 5, 2, 1)]
noncomputable def pt_ByteRow_drop_0_0 : List (Nat × VS) := [(0, ([av_7, (vC 0), av_38], [], [(ao_75, (vC 0))], 0))]
set_option maxRecDepth 100000 in
theorem k_ByteRow_drop_0 : vi_chk vK vSG 3 0 vFT_X0 fp_ByteRow_drop_0 vCT_X0 vC2_X0 [] mt_ByteRow_drop_0 cX0_drop [] 400 pt_ByteRow_drop_0_0 q_ByteRow_drop_0 [] = true := by decide +kernel
set_option maxHeartbeats 4000000 in
theorem m_ByteRow_drop_0 (l : Launch) (D : va_G) (cy : Nat → ClassId) (hst : l.stackTraces = false) : vi_Mn l D cy vK vSG yX0_drop (Cond.code yX0_drop cX0_drop 3 none :: vWall) 1 21 q_ByteRow_drop_0 := by
  refine vi_Mn_of (own := RX0) (J := []) (f := 400) (FT := vFT_X0) (FP := fp_ByteRow_drop_0) (CT := vCT_X0) (C2 := vC2_X0) (MT := mt_ByteRow_drop_0) (by decide) rfl rfl rfl (by decide +kernel) (by decide +kernel) (vK_ty cy) k_ByteRow_drop_0 ?_
  · intro p e s m below meth c ad τ w av S hK hN hs
    refine ⟨vfg_X0 S hK hN, ?_, vct_X0 S, vc2_X0 S, ?_⟩
    · refine vi_f4 (L := fp_ByteRow_drop_0) ?_
      refine List.forall_mem_cons.mpr ⟨fun d x fs b v h1 h2 h3 => vfp_X0_15_5_1 S hK hN (vTy_ok h1 h2 h3), ?_⟩
      refine List.forall_mem_cons.mpr ⟨fun d x fs b v h1 h2 h3 => vfp_X0_19_5_2 S hK hN (vTy_ok h1 h2 h3), ?_⟩
      exact fun q hq => by cases hq
    · refine vi_f4 (L := mt_ByteRow_drop_0) ?_
      refine List.forall_mem_cons.mpr ⟨(List.forall_mem_cons.mpr ⟨⟨rfl, vi_crMin (Ts := _ :: vWall) rfl rfl S (List.mem_cons_of_mem _ (vm_0 _ (List.mem_of_getElem? (i := 12) rfl))) (List.mem_cons_of_mem _ (vm_0 _ (List.mem_of_getElem? (i := 13) rfl))) (List.mem_cons_of_mem _ (vm_0 _ (List.mem_of_getElem? (i := 14) rfl))) (List.mem_cons_of_mem _ (vm_0 _ (List.mem_of_getElem? (i := 15) rfl))) ⟨Nat.le_refl _, Nat.le_refl _⟩ (Nat.le_of_ble_eq_true rfl) (Nat.le_of_ble_eq_true rfl)⟩, (fun ct2 h2 => by cases h2)⟩), ?_⟩
      exact fun q hq => by cases hq
end VC
section VC
noncomputable def q_ByteRow_drop_1 : VCt := ([av_7, (vC 1)], [(ao_75, (vC 1))], [([], [], [(ao_75, (vC 0))], [])], [(5, 1, 1), (5, 2, 1)], 0)
noncomputable def mt_ByteRow_drop_1 : List (Nat × Bool × Nat × List VCt) := [(25, true, 2, [(vi_mm false (vC 1) (vC 1))])]
noncomputable def fp_ByteRow_drop_1 : List (Nat × Nat × Nat × Nat) := [(15, 5, 1, 1), (19, 5, 2, 1)]
noncomputable def pt_ByteRow_drop_1_0 : List (Nat × VS) := [(0, ([av_7, (vC 1), av_38], [], [(ao_75, (vC 1))], 0))]
set_option maxRecDepth 100000 in
theorem k_ByteRow_drop_1 : vi_chk vK vSG 3 0 vFT_X0 fp_ByteRow_drop_1 vCT_X0 vC2_X0 [] mt_ByteRow_drop_1 cX0_drop [] 400 pt_ByteRow_drop_1_0 q_ByteRow_drop_1 [] = true := by decide +kernel
set_option maxHeartbeats 4000000 in
theorem m_ByteRow_drop_1 (l : Launch) (D : va_G) (cy : Nat → ClassId) (hst : l.stackTraces = false) : vi_Mn l D cy vK vSG yX0_drop (Cond.code yX0_drop cX0_drop 3 none :: vWall) 1 21 q_ByteRow_drop_1 := by
  refine vi_Mn_of (own := RX0) (J := []) (f := 400) (FT := vFT_X0) (FP := fp_ByteRow_drop_1) (CT := vCT_X0) (C2 := vC2_X0) (MT := mt_ByteRow_drop_1) (by decide) rfl rfl rfl (by decide +kernel) (by decide +kernel) (vK_ty cy) k_ByteRow_drop_1 ?_
  · intro p e s m below meth c ad τ w av S hK hN hs
    refine ⟨vfg_X0 S hK hN, ?_, vct_X0 S, vc2_X0 S, ?_⟩
    · refine vi_f4 (L := fp_ByteRow_drop_1) ?_
      refine List.forall_mem_cons.mpr ⟨fun d x fs b v h1 h2 h3 => vfp_X0_15_5_1 S hK hN (vTy_ok h1 h2 h3), ?_⟩
      refine List.forall_mem_cons.mpr ⟨fun d x fs b v h1 h2 h3 => vfp_X0_19_5_2 S hK hN (vTy_ok h1 h2 h3), ?_⟩
      exact fun q hq => by cases hq
    · refine vi_f4 (L := mt_ByteRow_drop_1) ?_
      refine List.forall_mem_cons.mpr ⟨(List.forall_mem_cons.mpr ⟨⟨rfl, vi_crMin (Ts := _ :: vWall) rfl rfl S (List.mem_cons_of_mem _ (vm_0 _ (List.mem_of_getElem? (i := 12) rfl))) (List.mem_cons_of_mem _ (vm_0 _ (List.mem_of_getElem? (i := 13) rfl))) (List.mem_cons_of_mem _ (vm_0 _ (List.mem_of_getElem? (i := 14) rfl))) (List.mem_cons_of_mem _ (vm_0 _ (List.mem_of_getElem? (i := 15) rfl))) ⟨Nat.le_refl _, Nat.le_refl _⟩ (Nat.le_of_ble_eq_true rfl) (Nat.le_of_ble_eq_true rfl)⟩, (fun ct2 h2 => by cases h2)⟩), ?_⟩
      exact fun q hq => by cases hq
end VC
section VC
noncomputable def q_ByteRow_drop_2 : VCt := ([av_7, (vC 2)], [(ao_75, (vC 2))], [([], [], [(ao_75, (vC 0))], [])], [(5, 1, 1), (5, 2, 1)], 0)
noncomputable def mt_ByteRow_drop_2 : List (Nat × Bool × Nat × List VCt) := [(25, true, 2, [(vi_mm false (vC 2) (vC 2))])]
noncomputable def fp_ByteRow_drop_2 : List (Nat × Nat × Nat × Nat) := [(15, 5, 1, 1), (19, 5, 2, 1)]
noncomputable def pt_ByteRow_drop_2_0 : List (Nat × VS) := [(0, ([av_7, (vC 2), av_38], [], [(ao_75, (vC 2))], 0))]
set_option maxRecDepth 100000 in
theorem k_ByteRow_drop_2 : vi_chk vK vSG 3 0 vFT_X0 fp_ByteRow_drop_2 vCT_X0 vC2_X0 [] mt_ByteRow_drop_2 cX0_drop [] 400 pt_ByteRow_drop_2_0 q_ByteRow_drop_2 [] = true := by decide +kernel
set_option maxHeartbeats 4000000 in
theorem m_ByteRow_drop_2 (l : Launch) (D : va_G) (cy : Nat → ClassId) (hst : l.stackTraces = false) : vi_Mn l D cy vK vSG yX0_drop (Cond.code yX0_drop cX0_drop 3 none :: vWall) 1 21 q_ByteRow_drop_2 := by
  refine vi_Mn_of (own := RX0) (J := []) (f := 400) (FT := vFT_X0) (FP := fp_ByteRow_drop_2) (CT := vCT_X0) (C2 := vC2_X0) (MT := mt_ByteRow_drop_2) (by decide) rfl rfl rfl (by decide +kernel) (by decide +kernel) (vK_ty cy) k_ByteRow_drop_2 ?_
  · intro p e s m below meth c ad τ w av S hK hN hs
    refine ⟨vfg_X0 S hK hN, ?_, vct_X0 S, vc2_X0 S, ?_⟩
    · refine vi_f4 (L := fp_ByteRow_drop_2) ?_
      refine List.forall_mem_cons.mpr ⟨fun d x fs b v h1 h2 h3 => vfp_X0_15_5_1 S hK hN (vTy_ok h1 h2 h3), ?_⟩
      refine List.forall_mem_cons.mpr ⟨fun d x fs b v h1 h2 h3 => vfp_X0_19_5_2 S hK hN (vTy_ok h1 h2 h3), ?_⟩
      exact fun q hq => by cases hq
    · refine vi_f4 (L := mt_ByteRow_drop_2) ?_
      refine List.forall_mem_cons.mpr ⟨(List.forall_mem_cons.mpr ⟨⟨rfl, vi_crMin (Ts := _ :: vWall) rfl rfl S (List.mem_cons_of_mem _ (vm_0 _ (List.mem_of_getElem? (i := 12) rfl))) (List.mem_cons_of_mem _ (vm_0 _ (List.mem_of_getElem? (i := 13) rfl))) (List.mem_cons_of_mem _ (vm_0 _ (List.mem_of_getElem? (i := 14) rfl))) (List.mem_cons_of_mem _ (vm_0 _ (List.mem_of_getElem? (i := 15) rfl))) ⟨Nat.le_refl _, Nat.le_refl _⟩ (Nat.le_of_ble_eq_true rfl) (Nat.le_of_ble_eq_true rfl)⟩, (fun ct2 h2 => by cases h2)⟩), ?_⟩
      exact fun q hq => by cases hq
end VC
section VC
noncomputable def q_ByteRow_drop_3 : VCt := ([av_7, (vC 3)], [(ao_75, (vC 3))], [([], [], [(ao_75, (vC 0))], [])], [(5, 1, 1), (5, 2, 1)], 0)
noncomputable def mt_ByteRow_drop_3 : List (Nat × Bool × Nat × List VCt) := [(25, true, 2, [(vi_mm false (vC 3) (vC 3))])]
noncomputable def fp_ByteRow_drop_3 : List (Nat × Nat × Nat × Nat) := [(15, 5, 1, 1), (19, 5, 2, 1)]
noncomputable def pt_ByteRow_drop_3_0 : List (Nat × VS) := [(0, ([av_7, (vC 3), av_38], [], [(ao_75, (vC 3))], 0))]
set_option maxRecDepth 100000 in
theorem k_ByteRow_drop_3 : vi_chk vK vSG 3 0 vFT_X0 fp_ByteRow_drop_3 vCT_X0 vC2_X0 [] mt_ByteRow_drop_3 cX0_drop [] 400 pt_ByteRow_drop_3_0 q_ByteRow_drop_3 [] = true := by decide +kernel
set_option maxHeartbeats 4000000 in
theorem m_ByteRow_drop_3 (l : Launch) (D : va_G) (cy : Nat → ClassId) (hst : l.stackTraces = false) : vi_Mn l D cy vK vSG yX0_drop (Cond.code yX0_drop cX0_drop 3 none :: vWall) 1 21 q_ByteRow_drop_3 := by
  refine vi_Mn_of (own := RX0) (J := []) (f := 400) (FT := vFT_X0) (FP := fp_ByteRow_drop_3) (CT := vCT_X0) (C2 := vC2_X0) (MT := mt_ByteRow_drop_3) (by decide) rfl rfl rfl (by decide +kernel) (by decide +kernel) (vK_ty cy) k_ByteRow_drop_3 ?_
  · intro p e s m below meth c ad τ w av S hK hN hs
    refine ⟨vfg_X0 S hK hN, ?_, vct_X0 S, vc2_X0 S, ?_⟩
    · refine vi_f4 (L := fp_ByteRow_drop_3) ?_
      refine List.forall_mem_cons.mpr ⟨fun d x fs b v h1 h2 h3 => vfp_X0_15_5_1 S hK hN (vTy_ok h1 h2 h3), ?_⟩
      refine List.forall_mem_cons.mpr ⟨fun d x fs b v h1 h2 h3 => vfp_X0_19_5_2 S hK hN (vTy_ok h1 h2 h3), ?_⟩
      exact fun q hq => by cases hq
    · refine vi_f4 (L := mt_ByteRow_drop_3) ?_
      refine List.forall_mem_cons.mpr ⟨(List.forall_mem_cons.mpr ⟨⟨rfl, vi_crMin (Ts := _ :: vWall) rfl rfl S (List.mem_cons_of_mem _ (vm_0 _ (List.mem_of_getElem? (i := 12) rfl))) (List.mem_cons_of_mem _ (vm_0 _ (List.mem_of_getElem? (i := 13) rfl))) (List.mem_cons_of_mem _ (vm_0 _ (List.mem_of_getElem? (i := 14) rfl))) (List.mem_cons_of_mem _ (vm_0 _ (List.mem_of_getElem? (i := 15) rfl))) ⟨Nat.le_refl _, Nat.le_refl _⟩ (Nat.le_of_ble_eq_true rfl) (Nat.le_of_ble_eq_true rfl)⟩, (fun ct2 h2 => by cases h2)⟩), ?_⟩
      exact fun q hq => by cases hq
end VC
section VC
noncomputable def q_ByteRow_drop_4 : VCt := ([av_7, (vC 4)], [(ao_75, (vC 4))], [([], [], [(ao_75, (vC 0))], [])], [(5, 1, 1), (5, 2, 1)], 0)
noncomputable def mt_ByteRow_drop_4 : List (Nat × Bool × Nat × List VCt) := [(25, true, 2, [(vi_mm false (vC 4) (vC 4))])]
noncomputable def fp_ByteRow_drop_4 : List (Nat × Nat × Nat × Nat) := [(15, 5, 1, 1), (19, 5, 2, 1)]
noncomputable def pt_ByteRow_drop_4_0 : List (Nat × VS) := [(0, ([av_7, (vC 4), av_38], [], [(ao_75, (vC 4))], 0))]
set_option maxRecDepth 100000 in
theorem k_ByteRow_drop_4 : vi_chk vK vSG 3 0 vFT_X0 fp_ByteRow_drop_4 vCT_X0 vC2_X0 [] mt_ByteRow_drop_4 cX0_drop [] 400 pt_ByteRow_drop_4_0 q_ByteRow_drop_4 [] = true := by decide +kernel
set_option maxHeartbeats 4000000 in
theorem m_ByteRow_drop_4 (l : Launch) (D : va_G) (cy : Nat → ClassId) (hst : l.stackTraces = false) : vi_Mn l D cy vK vSG yX0_drop (Cond.code yX0_drop cX0_drop 3 none :: vWall) 1 21 q_ByteRow_drop_4 := by
  refine vi_Mn_of (own := RX0) (J := []) (f := 400) (FT := vFT_X0) (FP := fp_ByteRow_drop_4) (CT := vCT_X0) (C2 := vC2_X0) (MT := mt_ByteRow_drop_4) (by decide) rfl rfl rfl (by decide +kernel) (by decide +kernel) (vK_ty cy) k_ByteRow_drop_4 ?_
  · intro p e s m below meth c ad τ w av S hK hN hs
    refine ⟨vfg_X0 S hK hN, ?_, vct_X0 S, vc2_X0 S, ?_⟩
    · refine vi_f4 (L := fp_ByteRow_drop_4) ?_
      refine List.forall_mem_cons.mpr ⟨fun d x fs b v h1 h2 h3 => vfp_X0_15_5_1 S hK hN (vTy_ok h1 h2 h3), ?_⟩
      refine List.forall_mem_cons.mpr ⟨fun d x fs b v h1 h2 h3 => vfp_X0_19_5_2 S hK hN (vTy_ok h1 h2 h3), ?_⟩
      exact fun q hq => by cases hq
    · refine vi_f4 (L := mt_ByteRow_drop_4) ?_
      refine List.forall_mem_cons.mpr ⟨(List.forall_mem_cons.mpr ⟨⟨rfl, vi_crMin (Ts := _ :: vWall) rfl rfl S (List.mem_cons_of_mem _ (vm_0 _ (List.mem_of_getElem? (i := 12) rfl))) (List.mem_cons_of_mem _ (vm_0 _ (List.mem_of_getElem? (i := 13) rfl))) (List.mem_cons_of_mem _ (vm_0 _ (List.mem_of_getElem? (i := 14) rfl))) (List.mem_cons_of_mem _ (vm_0 _ (List.mem_of_getElem? (i := 15) rfl))) ⟨Nat.le_refl _, Nat.le_refl _⟩ (Nat.le_of_ble_eq_true rfl) (Nat.le_of_ble_eq_true rfl)⟩, (fun ct2 h2 => by cases h2)⟩), ?_⟩
      exact fun q hq => by cases hq
end VC
section VC
noncomputable def q_ByteRow_drop_5 : VCt := ([av_7, (vC 5)], [(ao_75, (vC 5))], [([], [], [(ao_75, (vC 0))], [])], [(5, 1, 1), (5, 2, 1)], 0)
noncomputable def mt_ByteRow_drop_5 : List (Nat × Bool × Nat × List VCt) := [(25, true, 2, [(vi_mm false (vC 5) (vC 5))])]
noncomputable def fp_ByteRow_drop_5 : List (Nat × Nat × Nat × Nat) := [(15, 5, 1, 1), (19, 5, 2, 1)]
noncomputable def pt_ByteRow_drop_5_0 : List (Nat × VS) := [(0, ([av_7, (vC 5), av_38], [], [(ao_75, (vC 5))], 0))]
set_option maxRecDepth 100000 in
theorem k_ByteRow_drop_5 : vi_chk vK vSG 3 0 vFT_X0 fp_ByteRow_drop_5 vCT_X0 vC2_X0 [] mt_ByteRow_drop_5 cX0_drop [] 400 pt_ByteRow_drop_5_0 q_ByteRow_drop_5 [] = true := by decide +kernel
set_option maxHeartbeats 4000000 in
theorem m_ByteRow_drop_5 (l : Launch) (D : va_G) (cy : Nat → ClassId) (hst : l.stackTraces = false) : vi_Mn l D cy vK vSG yX0_drop (Cond.code yX0_drop cX0_drop 3 none :: vWall) 1 21 q_ByteRow_drop_5 := by
  refine vi_Mn_of (own := RX0) (J := []) (f := 400) (FT := vFT_X0) (FP := fp_ByteRow_drop_5) (CT := vCT_X0) (C2 := vC2_X0) (MT := mt_ByteRow_drop_5) (by decide) rfl rfl rfl (by decide +kernel) (by decide +kernel) (vK_ty cy) k_ByteRow_drop_5 ?_
  · intro p e s m below meth c ad τ w av S hK hN hs
    refine ⟨vfg_X0 S hK hN, ?_, vct_X0 S, vc2_X0 S, ?_⟩
    · refine vi_f4 (L := fp_ByteRow_drop_5) ?_
      refine List.forall_mem_cons.mpr ⟨fun d x fs b v h1 h2 h3 => vfp_X0_15_5_1 S hK hN (vTy_ok h1 h2 h3), ?_⟩
      refine List.forall_mem_cons.mpr ⟨fun d x fs b v h1 h2 h3 => vfp_X0_19_5_2 S hK hN (vTy_ok h1 h2 h3), ?_⟩
      exact fun q hq => by cases hq
    · refine vi_f4 (L := mt_ByteRow_drop_5) ?_
      refine List.forall_mem_cons.mpr ⟨(List.forall_mem_cons.mpr ⟨⟨rfl, vi_crMin (Ts := _ :: vWall) rfl rfl S (List.mem_cons_of_mem _ (vm_0 _ (List.mem_of_getElem? (i := 12) rfl))) (List.mem_cons_of_mem _ (vm_0 _ (List.mem_of_getElem? (i := 13) rfl))) (List.mem_cons_of_mem _ (vm_0 _ (List.mem_of_getElem? (i := 14) rfl))) (List.mem_cons_of_mem _ (vm_0 _ (List.mem_of_getElem? (i := 15) rfl))) ⟨Nat.le_refl _, Nat.le_refl _⟩ (Nat.le_of_ble_eq_true rfl) (Nat.le_of_ble_eq_true rfl)⟩, (fun ct2 h2 => by cases h2)⟩), ?_⟩
      exact fun q hq => by cases hq
end VC
section VC
noncomputable def q_ByteRow_drop_6 : VCt := ([av_7, (vC 6)], [(ao_75, (vC 6))], [([], [], [(ao_75, (vC 0))], [])], [(5, 1, 1), (5, 2, 1)], 0)
noncomputable def mt_ByteRow_drop_6 : List (Nat × Bool × Nat × List VCt) := [(25, true, 2, [(vi_mm false (vC 6) (vC 6))])]
noncomputable def fp_ByteRow_drop_6 : List (Nat × Nat × Nat × Nat) := [(15, 5, 1, 1), (19, 5, 2, 1)]
noncomputable def pt_ByteRow_drop_6_0 : List (Nat × VS) := [(0, ([av_7, (vC 6), av_38], [], [(ao_75, (vC 6))], 0))]
set_option maxRecDepth 100000 in
theorem k_ByteRow_drop_6 : vi_chk vK vSG 3 0 vFT_X0 fp_ByteRow_drop_6 vCT_X0 vC2_X0 [] mt_ByteRow_drop_6 cX0_drop [] 400 pt_ByteRow_drop_6_0 q_ByteRow_drop_6 [] = true := by decide +kernel
set_option maxHeartbeats 4000000 in
theorem m_ByteRow_drop_6 (l : Launch) (D : va_G) (cy : Nat → ClassId) (hst : l.stackTraces = false) : vi_Mn l D cy vK vSG yX0_drop (Cond.code yX0_drop cX0_drop 3 none :: vWall) 1 21 q_ByteRow_drop_6 := by
  refine vi_Mn_of (own := RX0) (J := []) (f := 400) (FT := vFT_X0) (FP := fp_ByteRow_drop_6) (CT := vCT_X0) (C2 := vC2_X0) (MT := mt_ByteRow_drop_6) (by decide) rfl rfl rfl (by decide +kernel) (by decide +kernel) (vK_ty cy) k_ByteRow_drop_6 ?_
  · intro p e s m below meth c ad τ w av S hK hN hs
    refine ⟨vfg_X0 S hK hN, ?_, vct_X0 S, vc2_X0 S, ?_⟩
    · refine vi_f4 (L := fp_ByteRow_drop_6) ?_
      refine List.forall_mem_cons.mpr ⟨fun d x fs b v h1 h2 h3 => vfp_X0_15_5_1 S hK hN (vTy_ok h1 h2 h3), ?_⟩
      refine List.forall_mem_cons.mpr ⟨fun d x fs b v h1 h2 h3 => vfp_X0_19_5_2 S hK hN (vTy_ok h1 h2 h3), ?_⟩
      exact fun q hq => by cases hq
    · refine vi_f4 (L := mt_ByteRow_drop_6) ?_
      refine List.forall_mem_cons.mpr ⟨(List.forall_mem_cons.mpr ⟨⟨rfl, vi_crMin (Ts := _ :: vWall) rfl rfl S (List.mem_cons_of_mem _ (vm_0 _ (List.mem_of_getElem? (i := 12) rfl))) (List.mem_cons_of_mem _ (vm_0 _ (List.mem_of_getElem? (i := 13) rfl))) (List.mem_cons_of_mem _ (vm_0 _ (List.mem_of_getElem? (i := 14) rfl))) (List.mem_cons_of_mem _ (vm_0 _ (List.mem_of_getElem? (i := 15) rfl))) ⟨Nat.le_refl _, Nat.le_refl _⟩ (Nat.le_of_ble_eq_true rfl) (Nat.le_of_ble_eq_true rfl)⟩, (fun ct2 h2 => by cases h2)⟩), ?_⟩
      exact fun q hq => by cases hq
end VC
section VC
noncomputable def q_ByteRow_drop_7 : VCt := ([av_7, (vC 7)], [(ao_75, (vC 7))], [([], [], [(ao_75, (vC 0))], [])], [(5, 1, 1), (5, 2, 1)], 0)
noncomputable def mt_ByteRow_drop_7 : List (Nat × Bool × Nat × List VCt) := [(25, true, 2, [(vi_mm false (vC 7) (vC 7))])]
noncomputable def fp_ByteRow_drop_7 : List (Nat × Nat × Nat × Nat) := [(15, 5, 1, 1), (19, 5, 2, 1)]
noncomputable def pt_ByteRow_drop_7_0 : List (Nat × VS) := [(0, ([av_7, (vC 7), av_38], [], [(ao_75, (vC 7))], 0))]
set_option maxRecDepth 100000 in
theorem k_ByteRow_drop_7 : vi_chk vK vSG 3 0 vFT_X0 fp_ByteRow_drop_7 vCT_X0 vC2_X0 [] mt_ByteRow_drop_7 cX0_drop [] 400 pt_ByteRow_drop_7_0 q_ByteRow_drop_7 [] = true := by decide +kernel
set_option maxHeartbeats 4000000 in
theorem m_ByteRow_drop_7 (l : Launch) (D : va_G) (cy : Nat → ClassId) (hst : l.stackTraces = false) : vi_Mn l D cy vK vSG yX0_drop (Cond.code yX0_drop cX0_drop 3 none :: vWall) 1 21 q_ByteRow_drop_7 := by
  refine vi_Mn_of (own := RX0) (J := []) (f := 400) (FT := vFT_X0) (FP := fp_ByteRow_drop_7) (CT := vCT_X0) (C2 := vC2_X0) (MT := mt_ByteRow_drop_7) (by decide) rfl rfl rfl (by decide +kernel) (by decide +kernel) (vK_ty cy) k_ByteRow_drop_7 ?_
  · intro p e s m below meth c ad τ w av S hK hN hs
    refine ⟨vfg_X0 S hK hN, ?_, vct_X0 S, vc2_X0 S, ?_⟩
    · refine vi_f4 (L := fp_ByteRow_drop_7) ?_
      refine List.forall_mem_cons.mpr ⟨fun d x fs b v h1 h2 h3 => vfp_X0_15_5_1 S hK hN (vTy_ok h1 h2 h3), ?_⟩
      refine List.forall_mem_cons.mpr ⟨fun d x fs b v h1 h2 h3 => vfp_X0_19_5_2 S hK hN (vTy_ok h1 h2 h3), ?_⟩
      exact fun q hq => by cases hq
    · refine vi_f4 (L := mt_ByteRow_drop_7) ?_
      refine List.forall_mem_cons.mpr ⟨(List.forall_mem_cons.mpr ⟨⟨rfl, vi_crMin (Ts := _ :: vWall) rfl rfl S (List.mem_cons_of_mem _ (vm_0 _ (List.mem_of_getElem? (i := 12) rfl))) (List.mem_cons_of_mem _ (vm_0 _ (List.mem_of_getElem? (i := 13) rfl))) (List.mem_cons_of_mem _ (vm_0 _ (List.mem_of_getElem? (i := 14) rfl))) (List.mem_cons_of_mem _ (vm_0 _ (List.mem_of_getElem? (i := 15) rfl))) ⟨Nat.le_refl _, Nat.le_refl _⟩ (Nat.le_of_ble_eq_true rfl) (Nat.le_of_ble_eq_true rfl)⟩, (fun ct2 h2 => by cases h2)⟩), ?_⟩
      exact fun q hq => by cases hq
end VC
section VC
noncomputable def q_ByteRow_drop_8 : VCt := ([av_7, (vC 8)], [(ao_75, (vC 8))], [([], [], [(ao_75, (vC 0))], [])], [(5, 1, 1), (5, 2, 1)], 0)
noncomputable def mt_ByteRow_drop_8 : List (Nat × Bool × Nat × List VCt) := [(25, true, 2, [(vi_mm false (vC 8) (vC 8))])]
noncomputable def fp_ByteRow_drop_8 : List (Nat × Nat × Nat × Nat) := [(15, 5, 1, 1), (19, 5, 2, 1)]
noncomputable def pt_ByteRow_drop_8_0 : List (Nat × VS) := [(0, ([av_7, (vC 8), av_38], [], [(ao_75, (vC 8))], 0))]
set_option maxRecDepth 100000 in
theorem k_ByteRow_drop_8 : vi_chk vK vSG 3 0 vFT_X0 fp_ByteRow_drop_8 vCT_X0 vC2_X0 [] mt_ByteRow_drop_8 cX0_drop [] 400 pt_ByteRow_drop_8_0 q_ByteRow_drop_8 [] = true := by decide +kernel
set_option maxHeartbeats 4000000 in
theorem m_ByteRow_drop_8 (l : Launch) (D : va_G) (cy : Nat → ClassId) (hst : l.stackTraces = false) : vi_Mn l D cy vK vSG yX0_drop (Cond.code yX0_drop cX0_drop 3 none :: vWall) 1 21 q_ByteRow_drop_8 := by
  refine vi_Mn_of (own := RX0) (J := []) (f := 400) (FT := vFT_X0) (FP := fp_ByteRow_drop_8) (CT := vCT_X0) (C2 := vC2_X0) (MT := mt_ByteRow_drop_8) (by decide) rfl rfl rfl (by decide +kernel) (by decide +kernel) (vK_ty cy) k_ByteRow_drop_8 ?_
  · intro p e s m below meth c ad τ w av S hK hN hs
    refine ⟨vfg_X0 S hK hN, ?_, vct_X0 S, vc2_X0 S, ?_⟩
    · refine vi_f4 (L := fp_ByteRow_drop_8) ?_
      refine List.forall_mem_cons.mpr ⟨fun d x fs b v h1 h2 h3 => vfp_X0_15_5_1 S hK hN (vTy_ok h1 h2 h3), ?_⟩
      refine List.forall_mem_cons.mpr ⟨fun d x fs b v h1 h2 h3 => vfp_X0_19_5_2 S hK hN (vTy_ok h1 h2 h3), ?_⟩
      exact fun q hq => by cases hq
    · refine vi_f4 (L := mt_ByteRow_drop_8) ?_
      refine List.forall_mem_cons.mpr ⟨(List.forall_mem_cons.mpr ⟨⟨rfl, vi_crMin (Ts := _ :: vWall) rfl rfl S (List.mem_cons_of_mem _ (vm_0 _ (List.mem_of_getElem? (i := 12) rfl))) (List.mem_cons_of_mem _ (vm_0 _ (List.mem_of_getElem? (i := 13) rfl))) (List.mem_cons_of_mem _ (vm_0 _ (List.mem_of_getElem? (i := 14) rfl))) (List.mem_cons_of_mem _ (vm_0 _ (List.mem_of_getElem? (i := 15) rfl))) ⟨Nat.le_refl _, Nat.le_refl _⟩ (Nat.le_of_ble_eq_true rfl) (Nat.le_of_ble_eq_true rfl)⟩, (fun ct2 h2 => by cases h2)⟩), ?_⟩
      exact fun q hq => by cases hq
end VC
section VC
noncomputable def q_ByteRow_drop_9 : VCt := ([av_7, (vC 9)], [(ao_75, (vC 9))], [([], [], [(ao_75, (vC 0))], [])], [(5, 1, 1), (5, 2, 1)], 0)
noncomputable def mt_ByteRow_drop_9 : List (Nat × Bool × Nat × List VCt) := [(25, true, 2, [(vi_mm false (vC 9) (vC 9))])]
noncomputable def fp_ByteRow_drop_9 : List (Nat × Nat × Nat × Nat) := [(15, 5, 1, 1), (19, 5, 2, 1)]
noncomputable def pt_ByteRow_drop_9_0 : List (Nat × VS) := [(0, ([av_7, (vC 9), av_38], [], [(ao_75, (vC 9))], 0))]
set_option maxRecDepth 100000 in
theorem k_ByteRow_drop_9 : vi_chk vK vSG 3 0 vFT_X0 fp_ByteRow_drop_9 vCT_X0 vC2_X0 [] mt_ByteRow_drop_9 cX0_drop [] 400 pt_ByteRow_drop_9_0 q_ByteRow_drop_9 [] = true := by decide +kernel
set_option maxHeartbeats 4000000 in
theorem m_ByteRow_drop_9 (l : Launch) (D : va_G) (cy : Nat → ClassId) (hst : l.stackTraces = false) : vi_Mn l D cy vK vSG yX0_drop (Cond.code yX0_drop cX0_drop 3 none :: vWall) 1 21 q_ByteRow_drop_9 := by
  refine vi_Mn_of (own := RX0) (J := []) (f := 400) (FT := vFT_X0) (FP := fp_ByteRow_drop_9) (CT := vCT_X0) (C2 := vC2_X0) (MT := mt_ByteRow_drop_9) (by decide) rfl rfl rfl (by decide +kernel) (by decide +kernel) (vK_ty cy) k_ByteRow_drop_9 ?_
  · intro p e s m below meth c ad τ w av S hK hN hs
    refine ⟨vfg_X0 S hK hN, ?_, vct_X0 S, vc2_X0 S, ?_⟩
    · refine vi_f4 (L := fp_ByteRow_drop_9) ?_
      refine List.forall_mem_cons.mpr ⟨fun d x fs b v h1 h2 h3 => vfp_X0_15_5_1 S hK hN (vTy_ok h1 h2 h3), ?_⟩
      refine List.forall_mem_cons.mpr ⟨fun d x fs b v h1 h2 h3 => vfp_X0_19_5_2 S hK hN (vTy_ok h1 h2 h3), ?_⟩
      exact fun q hq => by cases hq
    · refine vi_f4 (L := mt_ByteRow_drop_9) ?_
      refine List.forall_mem_cons.mpr ⟨(List.forall_mem_cons.mpr ⟨⟨rfl, vi_crMin (Ts := _ :: vWall) rfl rfl S (List.mem_cons_of_mem _ (vm_0 _ (List.mem_of_getElem? (i := 12) rfl))) (List.mem_cons_of_mem _ (vm_0 _ (List.mem_of_getElem? (i := 13) rfl))) (List.mem_cons_of_mem _ (vm_0 _ (List.mem_of_getElem? (i := 14) rfl))) (List.mem_cons_of_mem _ (vm_0 _ (List.mem_of_getElem? (i := 15) rfl))) ⟨Nat.le_refl _, Nat.le_refl _⟩ (Nat.le_of_ble_eq_true rfl) (Nat.le_of_ble_eq_true rfl)⟩, (fun ct2 h2 => by cases h2)⟩), ?_⟩
      exact fun q hq => by cases hq
end VC
section VC
noncomputable def q_ByteRow_drop_10 : VCt := ([av_7, (vC 10)], [(ao_75, (vC 10))], [([], [], [(ao_75, (vC 0))], [])], [(5, 1, 1), (5, 2, 1)], 0)
noncomputable def mt_ByteRow_drop_10 : List (Nat × Bool × Nat × List VCt) := [(25, true, 2, [(vi_mm false (vC 10) (vC 10))])]
noncomputable def fp_ByteRow_drop_10 : List (Nat × Nat × Nat × Nat) := [(15, 5, 1, 1), (19, 5, 2, 1)]
noncomputable def pt_ByteRow_drop_10_0 : List (Nat × VS) := [(0, ([av_7, (vC 10), av_38], [], [(ao_75, (vC 10))], 0))]
set_option maxRecDepth 100000 in
theorem k_ByteRow_drop_10 : vi_chk vK vSG 3 0 vFT_X0 fp_ByteRow_drop_10 vCT_X0 vC2_X0 [] mt_ByteRow_drop_10 cX0_drop [] 400 pt_ByteRow_drop_10_0 q_ByteRow_drop_10 [] = true := by decide +kernel
set_option maxHeartbeats 4000000 in
theorem m_ByteRow_drop_10 (l : Launch) (D : va_G) (cy : Nat → ClassId) (hst : l.stackTraces = false) : vi_Mn l D cy vK vSG yX0_drop (Cond.code yX0_drop cX0_drop 3 none :: vWall) 1 21 q_ByteRow_drop_10 := by
  refine vi_Mn_of (own := RX0) (J := []) (f := 400) (FT := vFT_X0) (FP := fp_ByteRow_drop_10) (CT := vCT_X0) (C2 := vC2_X0) (MT := mt_ByteRow_drop_10) (by decide) rfl rfl rfl (by decide +kernel) (by decide +kernel) (vK_ty cy) k_ByteRow_drop_10 ?_
  · intro p e s m below meth c ad τ w av S hK hN hs
    refine ⟨vfg_X0 S hK hN, ?_, vct_X0 S, vc2_X0 S, ?_⟩
    · refine vi_f4 (L := fp_ByteRow_drop_10) ?_
      refine List.forall_mem_cons.mpr ⟨fun d x fs b v h1 h2 h3 => vfp_X0_15_5_1 S hK hN (vTy_ok h1 h2 h3), ?_⟩
      refine List.forall_mem_cons.mpr ⟨fun d x fs b v h1 h2 h3 => vfp_X0_19_5_2 S hK hN (vTy_ok h1 h2 h3), ?_⟩
      exact fun q hq => by cases hq
    · refine vi_f4 (L := mt_ByteRow_drop_10) ?_
      refine List.forall_mem_cons.mpr ⟨(List.forall_mem_cons.mpr ⟨⟨rfl, vi_crMin (Ts := _ :: vWall) rfl rfl S (List.mem_cons_of_mem _ (vm_0 _ (List.mem_of_getElem? (i := 12) rfl))) (List.mem_cons_of_mem _ (vm_0 _ (List.mem_of_getElem? (i := 13) rfl))) (List.mem_cons_of_mem _ (vm_0 _ (List.mem_of_getElem? (i := 14) rfl))) (List.mem_cons_of_mem _ (vm_0 _ (List.mem_of_getElem? (i := 15) rfl))) ⟨Nat.le_refl _, Nat.le_refl _⟩ (Nat.le_of_ble_eq_true rfl) (Nat.le_of_ble_eq_true rfl)⟩, (fun ct2 h2 => by cases h2)⟩), ?_⟩
      exact fun q hq => by cases hq
end VC
section VC
noncomputable def q_ByteRow_drop_11 : VCt := ([av_7, (vC 11)], [(ao_75, (vC 11))], [([], [], [(ao_75, (vC 0))], [])], [(5, 1, 1), (5, 2, 1)], 0)
noncomputable def mt_ByteRow_drop_11 : List (Nat × Bool × Nat × List VCt) := [(25, true, 2, [(vi_mm false (vC 11) (vC 11))])]
noncomputable def fp_ByteRow_drop_11 : List (Nat × Nat × Nat × Nat) := [(15, 5, 1, 1), (19, 5, 2, 1)]
noncomputable def pt_ByteRow_drop_11_0 : List (Nat × VS) := [(0, ([av_7, (vC 11), av_38], [], [(ao_75, (vC 11))], 0))]
set_option maxRecDepth 100000 in
theorem k_ByteRow_drop_11 : vi_chk vK vSG 3 0 vFT_X0 fp_ByteRow_drop_11 vCT_X0 vC2_X0 [] mt_ByteRow_drop_11 cX0_drop [] 400 pt_ByteRow_drop_11_0 q_ByteRow_drop_11 [] = true := by decide +kernel
set_option maxHeartbeats 4000000 in
theorem m_ByteRow_drop_11 (l : Launch) (D : va_G) (cy : Nat → ClassId) (hst : l.stackTraces = false) : vi_Mn l D cy vK vSG yX0_drop (Cond.code yX0_drop cX0_drop 3 none :: vWall) 1 21 q_ByteRow_drop_11 := by
  refine vi_Mn_of (own := RX0) (J := []) (f := 400) (FT := vFT_X0) (FP := fp_ByteRow_drop_11) (CT := vCT_X0) (C2 := vC2_X0) (MT := mt_ByteRow_drop_11) (by decide) rfl rfl rfl (by decide +kernel) (by decide +kernel) (vK_ty cy) k_ByteRow_drop_11 ?_
  · intro p e s m below meth c ad τ w av S hK hN hs
    refine ⟨vfg_X0 S hK hN, ?_, vct_X0 S, vc2_X0 S, ?_⟩
    · refine vi_f4 (L := fp_ByteRow_drop_11) ?_
      refine List.forall_mem_cons.mpr ⟨fun d x fs b v h1 h2 h3 => vfp_X0_15_5_1 S hK hN (vTy_ok h1 h2 h3), ?_⟩
      refine List.forall_mem_cons.mpr ⟨fun d x fs b v h1 h2 h3 => vfp_X0_19_5_2 S hK hN (vTy_ok h1 h2 h3), ?_⟩
      exact fun q hq => by cases hq
    · refine vi_f4 (L := mt_ByteRow_drop_11) ?_
      refine List.forall_mem_cons.mpr ⟨(List.forall_mem_cons.mpr ⟨⟨rfl, vi_crMin (Ts := _ :: vWall) rfl rfl S (List.mem_cons_of_mem _ (vm_0 _ (List.mem_of_getElem? (i := 12) rfl))) (List.mem_cons_of_mem _ (vm_0 _ (List.mem_of_getElem? (i := 13) rfl))) (List.mem_cons_of_mem _ (vm_0 _ (List.mem_of_getElem? (i := 14) rfl))) (List.mem_cons_of_mem _ (vm_0 _ (List.mem_of_getElem? (i := 15) rfl))) ⟨Nat.le_refl _, Nat.le_refl _⟩ (Nat.le_of_ble_eq_true rfl) (Nat.le_of_ble_eq_true rfl)⟩, (fun ct2 h2 => by cases h2)⟩), ?_⟩
      exact fun q hq => by cases hq
end VC
section VC
noncomputable def q_ByteRow_drop_12 : VCt := ([av_7, (vC 12)], [(ao_75, (vC 12))], [([], [], [(ao_75, (vC 0))], [])], [(5, 1, 1), (5, 2, 1)], 0)
noncomputable def mt_ByteRow_drop_12 : List (Nat × Bool × Nat × List VCt) := [(25, true, 2, [(vi_mm false (vC 12) (vC 12))])]
noncomputable def fp_ByteRow_drop_12 : List (Nat × Nat × Nat × Nat) := [(15, 5, 1, 1), (19, 5, 2, 1)]
noncomputable def pt_ByteRow_drop_12_0 : List (Nat × VS) := [(0, ([av_7, (vC 12), av_38], [], [(ao_75, (vC 12))], 0))]
set_option maxRecDepth 100000 in
theorem k_ByteRow_drop_12 : vi_chk vK vSG 3 0 vFT_X0 fp_ByteRow_drop_12 vCT_X0 vC2_X0 [] mt_ByteRow_drop_12 cX0_drop [] 400 pt_ByteRow_drop_12_0 q_ByteRow_drop_12 [] = true := by decide +kernel
set_option maxHeartbeats 4000000 in
theorem m_ByteRow_drop_12 (l : Launch) (D : va_G) (cy : Nat → ClassId) (hst : l.stackTraces = false) : vi_Mn l D cy vK vSG yX0_drop (Cond.code yX0_drop cX0_drop 3 none :: vWall) 1 21 q_ByteRow_drop_12 := by
  refine vi_Mn_of (own := RX0) (J := []) (f := 400) (FT := vFT_X0) (FP := fp_ByteRow_drop_12) (CT := vCT_X0) (C2 := vC2_X0) (MT := mt_ByteRow_drop_12) (by decide) rfl rfl rfl (by decide +kernel) (by decide +kernel) (vK_ty cy) k_ByteRow_drop_12 ?_
  · intro p e s m below meth c ad τ w av S hK hN hs
    refine ⟨vfg_X0 S hK hN, ?_, vct_X0 S, vc2_X0 S, ?_⟩
    · refine vi_f4 (L := fp_ByteRow_drop_12) ?_
      refine List.forall_mem_cons.mpr ⟨fun d x fs b v h1 h2 h3 => vfp_X0_15_5_1 S hK hN (vTy_ok h1 h2 h3), ?_⟩
      refine List.forall_mem_cons.mpr ⟨fun d x fs b v h1 h2 h3 => vfp_X0_19_5_2 S hK hN (vTy_ok h1 h2 h3), ?_⟩
      exact fun q hq => by cases hq
    · refine vi_f4 (L := mt_ByteRow_drop_12) ?_
      refine List.forall_mem_cons.mpr ⟨(List.forall_mem_cons.mpr ⟨⟨rfl, vi_crMin (Ts := _ :: vWall) rfl rfl S (List.mem_cons_of_mem _ (vm_0 _ (List.mem_of_getElem? (i := 12) rfl))) (List.mem_cons_of_mem _ (vm_0 _ (List.mem_of_getElem? (i := 13) rfl))) (List.mem_cons_of_mem _ (vm_0 _ (List.mem_of_getElem? (i := 14) rfl))) (List.mem_cons_of_mem _ (vm_0 _ (List.mem_of_getElem? (i := 15) rfl))) ⟨Nat.le_refl _, Nat.le_refl _⟩ (Nat.le_of_ble_eq_true rfl) (Nat.le_of_ble_eq_true rfl)⟩, (fun ct2 h2 => by cases h2)⟩), ?_⟩
      exact fun q hq => by cases hq
end VC
