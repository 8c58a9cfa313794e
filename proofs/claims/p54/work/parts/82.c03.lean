section VC
noncomputable def q_Hubcascade_disable_0 : VCt := ([av_37, av_30, av_16], [], [([], [], [], [])], [(6, 7, 4), (6, 8, 4), (6, 10, 4), (6, 11, 4), (6, 12, 4), (6, 13, 4), (6, 14, 4), (6, 15, 4), (6, 16, 4), (6, 17, 4), (7, 2, 5), (8, 4, 19), (8, 5, 19), (8, 6, 19), (8, 7, 19), (10, 1, 7), (10, 2, 7), (10, 12, 7), (10, 13, 7), (200, 12, 0), (200, 13, 0), (200, 14, 0), (200, 21, 0)], 0)
noncomputable def mt_Hubcascade_disable_0 : List (Nat × Bool × Nat × List VCt) := [(190, false, 3, [q_Hubcascade_detach_0])]
noncomputable def fp_Hubcascade_disable_0 : List (Nat × Nat × Nat × Nat) := [(74, 6, 7, 4), (489, 6, 15, 4)]
noncomputable def pt_Hubcascade_disable_0_0 : List (Nat × VS) := [(0, ([av_37, av_30, av_16], [], [], 0))]
set_option maxRecDepth 100000 in
theorem k_Hubcascade_disable_0 : vi_chk vK vSG 3 0 vFT_X9 fp_Hubcascade_disable_0 vCT_X9 vC2_X9 [] mt_Hubcascade_disable_0 cX9_disable [] 400 pt_Hubcascade_disable_0_0 q_Hubcascade_disable_0 [] = true := by decide +kernel
set_option maxHeartbeats 4000000 in
theorem m_Hubcascade_disable_0 (l : Launch) (D : va_G) (cy : Nat → ClassId) (hst : l.stackTraces = false) : vi_Mn l D cy vK vSG yX9_disable (Cond.code yX9_disable cX9_disable 3 none :: vWall) 4 101 q_Hubcascade_disable_0 := by
  refine vi_Mn_of (own := RX9) (J := []) (f := 400) (FT := vFT_X9) (FP := fp_Hubcascade_disable_0) (CT := vCT_X9) (C2 := vC2_X9) (MT := mt_Hubcascade_disable_0) (by decide) rfl rfl rfl (by decide +kernel) (by decide +kernel) (vK_ty cy) k_Hubcascade_disable_0 ?_
  · intro p e s m below meth c ad τ w av S hK hN hs
    refine ⟨vfg_X9 S hK hN, ?_, vct_X9 S, vc2_X9 S, ?_⟩
    · refine vi_f4 (L := fp_Hubcascade_disable_0) ?_
      refine List.forall_mem_cons.mpr ⟨fun d x fs b v h1 h2 h3 => vfp_X9_74_6_7 S hK hN (vTy_ok h1 h2 h3), ?_⟩
      refine List.forall_mem_cons.mpr ⟨fun d x fs b v h1 h2 h3 => vfp_X9_489_6_15 S hK hN (vTy_ok h1 h2 h3), ?_⟩
      exact fun q hq => by cases hq
    · refine vi_f4 (L := mt_Hubcascade_disable_0) ?_
      refine List.forall_mem_cons.mpr ⟨(List.forall_mem_cons.mpr ⟨⟨rfl, vi_crV S (m_Hubcascade_detach_0 l D cy hst) (cwV 2 S.2.2.2.2 (vgV (vm_6 _ (List.mem_of_getElem? (i := 3) rfl)) (vm_6 _ (List.mem_of_getElem? (i := 4) rfl)) (vm_6 _ (List.mem_of_getElem? (i := 5) rfl)) (vm_4 _ (List.mem_of_getElem? (i := 20) rfl)) (vm_5 _ (List.mem_of_getElem? (i := 39) rfl))) rfl rfl rfl ⟨rfl, by decide, by decide, by decide +kernel⟩ ⟨Nat.le_of_ble_eq_true rfl, Nat.le_of_ble_eq_true rfl⟩) rfl ⟨_, _, _, _, _, _, rfl, rfl, rfl, rfl⟩ hK hN hs (fun w1 w2 h1 h2 => vi_kept_tr (by decide +kernel) h1 h2) (fun q hq => Or.inr hq) ⟨Nat.le_refl _, Nat.le_refl _⟩⟩, (fun ct2 h2 => by cases h2)⟩), ?_⟩
      exact fun q hq => by cases hq
end VC
section VC
noncomputable def q_Hubcascade_isAddressUsed_0 : VCt := ([av_37, av_6], [], [([(vC 1)], [], [], []), ([(vC 0)], [], [], [])], [], 0)
noncomputable def mt_Hubcascade_isAddressUsed_0 : List (Nat × Bool × Nat × List VCt) := []
noncomputable def fp_Hubcascade_isAddressUsed_0 : List (Nat × Nat × Nat × Nat) := []
noncomputable def pt_Hubcascade_isAddressUsed_0_0 : List (Nat × VS) := [(0, ([av_37, av_6, av_38], [], [], 0)), (2, ([av_37, av_6, (vC 0)], [], [], 0)), (2, ([av_37, av_6, (vC 1)], [], [], 0)), (2, ([av_37, av_6, (vC 2)], [], [], 0)), (2, ([av_37, av_6, (vC 3)], [], [], 0)), (2, ([av_37, av_6, (vC 4)], [], [], 0)), (2, ([av_37, av_6, (vC 5)], [], [], 0)), (2, ([av_37, av_6, (vC 6)], [], [], 0)), (2, ([av_37, av_6, (vC 7)], [], [], 0)), (2, ([av_37, av_6, (vC 8)], [], [], 0)), (2, ([av_37, av_6, (vC 9)], [], [], 0)), (2, ([av_37, av_6, (vC 10)], [], [], 0)), (2, ([av_37, av_6, (vC 11)], [], [], 0)), (2, ([av_37, av_6, (vC 12)], [], [], 0)), (2, ([av_37, av_6, (vC 13)], [], [], 0)), (2, ([av_37, av_6, (vC 14)], [], [], 0)), (2, ([av_37, av_6, (vC 15)], [], [], 0)), (2, ([av_37, av_6, (vC 16)], [], [], 0))]
set_option maxRecDepth 100000 in
theorem k_Hubcascade_isAddressUsed_0 : vi_chk vK vSG 3 0 vFT_X9 fp_Hubcascade_isAddressUsed_0 vCT_X9 vC2_X9 [] mt_Hubcascade_isAddressUsed_0 cX9_isAddressUsed [2] 400 pt_Hubcascade_isAddressUsed_0_0 q_Hubcascade_isAddressUsed_0 [] = true := by decide +kernel
set_option maxHeartbeats 4000000 in
theorem m_Hubcascade_isAddressUsed_0 (l : Launch) (D : va_G) (cy : Nat → ClassId) (hst : l.stackTraces = false) : vi_Mn l D cy vK vSG yX9_isAddressUsed (Cond.code yX9_isAddressUsed cX9_isAddressUsed 3 (some .boolean) :: vWall) 0 0 q_Hubcascade_isAddressUsed_0 := by
  refine vi_Mn_of (own := RX9) (J := [2]) (f := 400) (FT := vFT_X9) (FP := fp_Hubcascade_isAddressUsed_0) (CT := vCT_X9) (C2 := vC2_X9) (MT := mt_Hubcascade_isAddressUsed_0) (by decide) rfl rfl rfl (by decide +kernel) (by decide +kernel) (vK_ty cy) k_Hubcascade_isAddressUsed_0 ?_
  · intro p e s m below meth c ad τ w av S hK hN hs
    refine ⟨vfg_X9 S hK hN, ?_, vct_X9 S, vc2_X9 S, ?_⟩
    · exact fun i ci k d9 h => by cases h
    · exact fun i sta k cts h => by cases h
end VC
section VC
noncomputable def q_Hubcascade_lowestFreeAddress_0 : VCt := ([av_37], [], [([av_1], [], [], [])], [], 0)
noncomputable def mt_Hubcascade_lowestFreeAddress_0 : List (Nat × Bool × Nat × List VCt) := [(555, false, 2, [q_Hubcascade_isAddressUsed_0])]
noncomputable def fp_Hubcascade_lowestFreeAddress_0 : List (Nat × Nat × Nat × Nat) := []
noncomputable def pt_Hubcascade_lowestFreeAddress_0_0 : List (Nat × VS) := [(0, ([av_37, av_38], [], [], 0)), (2, ([av_37, (vC 1)], [], [], 0)), (2, ([av_37, (vC 2)], [], [], 0)), (2, ([av_37, (vC 3)], [], [], 0)), (2, ([av_37, (vC 4)], [], [], 0)), (2, ([av_37, (vC 5)], [], [], 0)), (2, ([av_37, (vC 6)], [], [], 0)), (2, ([av_37, (vC 7)], [], [], 0)), (2, ([av_37, (vC 8)], [], [], 0)), (2, ([av_37, (vC 9)], [], [], 0)), (2, ([av_37, (vC 10)], [], [], 0)), (2, ([av_37, (vC 11)], [], [], 0)), (2, ([av_37, (vC 12)], [], [], 0)), (2, ([av_37, (vC 13)], [], [], 0)), (2, ([av_37, (vC 14)], [], [], 0)), (2, ([av_37, (vC 15)], [], [], 0)), (2, ([av_37, (vC 16)], [], [], 0))]
set_option maxRecDepth 100000 in
theorem k_Hubcascade_lowestFreeAddress_0 : vi_chk vK vSG 2 0 vFT_X9 fp_Hubcascade_lowestFreeAddress_0 vCT_X9 vC2_X9 [] mt_Hubcascade_lowestFreeAddress_0 cX9_lowestFreeAddress [2] 400 pt_Hubcascade_lowestFreeAddress_0_0 q_Hubcascade_lowestFreeAddress_0 [] = true := by decide +kernel
set_option maxHeartbeats 4000000 in
theorem m_Hubcascade_lowestFreeAddress_0 (l : Launch) (D : va_G) (cy : Nat → ClassId) (hst : l.stackTraces = false) : vi_Mn l D cy vK vSG yX9_lowestFreeAddress (Cond.code yX9_lowestFreeAddress cX9_lowestFreeAddress 2 (some .int) :: vWall) 1 22 q_Hubcascade_lowestFreeAddress_0 := by
  refine vi_Mn_of (own := RX9) (J := [2]) (f := 400) (FT := vFT_X9) (FP := fp_Hubcascade_lowestFreeAddress_0) (CT := vCT_X9) (C2 := vC2_X9) (MT := mt_Hubcascade_lowestFreeAddress_0) (by decide) rfl rfl rfl (by decide +kernel) (by decide +kernel) (vK_ty cy) k_Hubcascade_lowestFreeAddress_0 ?_
  · intro p e s m below meth c ad τ w av S hK hN hs
    refine ⟨vfg_X9 S hK hN, ?_, vct_X9 S, vc2_X9 S, ?_⟩
    · exact fun i ci k d9 h => by cases h
    · refine vi_f4 (L := mt_Hubcascade_lowestFreeAddress_0) ?_
      refine List.forall_mem_cons.mpr ⟨(List.forall_mem_cons.mpr ⟨⟨rfl, vi_crV S (m_Hubcascade_isAddressUsed_0 l D cy hst) (cwV 1 S.2.2.2.2 (vgV (vm_6 _ (List.mem_of_getElem? (i := 20) rfl)) (vm_6 _ (List.mem_of_getElem? (i := 21) rfl)) (vm_6 _ (List.mem_of_getElem? (i := 22) rfl)) (vm_4 _ (List.mem_of_getElem? (i := 20) rfl)) (vm_6 _ (List.mem_of_getElem? (i := 18) rfl))) rfl rfl rfl ⟨rfl, by decide, by decide, by decide +kernel⟩ ⟨Nat.le_of_ble_eq_true rfl, Nat.le_of_ble_eq_true rfl⟩) rfl ⟨_, _, _, _, _, _, rfl, rfl, rfl, rfl⟩ hK hN hs (fun w1 w2 h1 h2 => vi_kept_tr (by decide +kernel) h1 h2) (fun q hq => Or.inr hq) ⟨Nat.le_refl _, Nat.le_refl _⟩⟩, (fun ct2 h2 => by cases h2)⟩), ?_⟩
      exact fun q hq => by cases hq
end VC
section VC
noncomputable def q_Hubcascade_firstDriver_0 : VCt := ([av_37, av_6, av_6], [], [([av_61], [], [], [])], [], 0)
noncomputable def mt_Hubcascade_firstDriver_0 : List (Nat × Bool × Nat × List VCt) := []
noncomputable def fp_Hubcascade_firstDriver_0 : List (Nat × Nat × Nat × Nat) := []
noncomputable def pt_Hubcascade_firstDriver_0_0 : List (Nat × VS) := [(0, ([av_37, av_6, av_6, av_38], [], [], 0)), (2, ([av_37, av_6, av_6, (vC 0)], [], [], 0)), (2, ([av_37, av_6, av_6, (vC 1)], [], [(ao_62, av_40)], 0)), (2, ([av_37, av_6, av_6, (vC 2)], [], [(ao_62, av_63)], 0)), (2, ([av_37, av_6, av_6, (vC 3)], [], [(ao_62, av_64)], 0)), (2, ([av_37, av_6, av_6, (vC 4)], [], [(ao_62, av_65)], 0)), (2, ([av_37, av_6, av_6, (vC 5)], [], [(ao_62, av_66)], 0)), (2, ([av_37, av_6, av_6, (vC 6)], [], [(ao_62, av_67)], 0)), (2, ([av_37, av_6, av_6, (vC 7)], [], [(ao_62, av_68)], 0)), (2, ([av_37, av_6, av_6, (vC 8)], [], [(ao_62, (vC 8))], 0))]
set_option maxRecDepth 100000 in
theorem k_Hubcascade_firstDriver_0 : vi_chk vK vSG 4 0 vFT_X9 fp_Hubcascade_firstDriver_0 vCT_X9 vC2_X9 [] mt_Hubcascade_firstDriver_0 cX9_firstDriver [2] 400 pt_Hubcascade_firstDriver_0_0 q_Hubcascade_firstDriver_0 [] = true := by decide +kernel
set_option maxHeartbeats 4000000 in
theorem m_Hubcascade_firstDriver_0 (l : Launch) (D : va_G) (cy : Nat → ClassId) (hst : l.stackTraces = false) : vi_Mn l D cy vK vSG yX9_firstDriver (Cond.code yX9_firstDriver cX9_firstDriver 4 (some .int) :: vWall) 0 0 q_Hubcascade_firstDriver_0 := by
  refine vi_Mn_of (own := RX9) (J := [2]) (f := 400) (FT := vFT_X9) (FP := fp_Hubcascade_firstDriver_0) (CT := vCT_X9) (C2 := vC2_X9) (MT := mt_Hubcascade_firstDriver_0) (by decide) rfl rfl rfl (by decide +kernel) (by decide +kernel) (vK_ty cy) k_Hubcascade_firstDriver_0 ?_
  · intro p e s m below meth c ad τ w av S hK hN hs
    refine ⟨vfg_X9 S hK hN, ?_, vct_X9 S, vc2_X9 S, ?_⟩
    · exact fun i ci k d9 h => by cases h
    · exact fun i sta k cts h => by cases h
end VC
section VC
noncomputable def q_Hubcascade_fittingDriver_0 : VCt := ([av_37, av_6, av_6], [], [([av_61], [], [], [])], [], 0)
noncomputable def mt_Hubcascade_fittingDriver_0 : List (Nat × Bool × Nat × List VCt) := [(558, false, 3, [q_Hubcascade_firstDriver_0])]
noncomputable def fp_Hubcascade_fittingDriver_0 : List (Nat × Nat × Nat × Nat) := []
noncomputable def pt_Hubcascade_fittingDriver_0_0 : List (Nat × VS) := [(0, ([av_37, av_6, av_6, av_38], [], [], 0))]
set_option maxRecDepth 100000 in
theorem k_Hubcascade_fittingDriver_0 : vi_chk vK vSG 4 0 vFT_X9 fp_Hubcascade_fittingDriver_0 vCT_X9 vC2_X9 [] mt_Hubcascade_fittingDriver_0 cX9_fittingDriver [] 400 pt_Hubcascade_fittingDriver_0_0 q_Hubcascade_fittingDriver_0 [] = true := by decide +kernel
set_option maxHeartbeats 4000000 in
theorem m_Hubcascade_fittingDriver_0 (l : Launch) (D : va_G) (cy : Nat → ClassId) (hst : l.stackTraces = false) : vi_Mn l D cy vK vSG yX9_fittingDriver (Cond.code yX9_fittingDriver cX9_fittingDriver 4 (some .int) :: vWall) 1 23 q_Hubcascade_fittingDriver_0 := by
  refine vi_Mn_of (own := RX9) (J := []) (f := 400) (FT := vFT_X9) (FP := fp_Hubcascade_fittingDriver_0) (CT := vCT_X9) (C2 := vC2_X9) (MT := mt_Hubcascade_fittingDriver_0) (by decide) rfl rfl rfl (by decide +kernel) (by decide +kernel) (vK_ty cy) k_Hubcascade_fittingDriver_0 ?_
  · intro p e s m below meth c ad τ w av S hK hN hs
    refine ⟨vfg_X9 S hK hN, ?_, vct_X9 S, vc2_X9 S, ?_⟩
    · exact fun i ci k d9 h => by cases h
    · refine vi_f4 (L := mt_Hubcascade_fittingDriver_0) ?_
      refine List.forall_mem_cons.mpr ⟨(List.forall_mem_cons.mpr ⟨⟨rfl, vi_crV S (m_Hubcascade_firstDriver_0 l D cy hst) (cwV 2 S.2.2.2.2 (vgV (vm_6 _ (List.mem_of_getElem? (i := 27) rfl)) (vm_6 _ (List.mem_of_getElem? (i := 28) rfl)) (vm_6 _ (List.mem_of_getElem? (i := 29) rfl)) (vm_4 _ (List.mem_of_getElem? (i := 20) rfl)) (vm_6 _ (List.mem_of_getElem? (i := 24) rfl))) rfl rfl rfl ⟨rfl, by decide, by decide, by decide +kernel⟩ ⟨Nat.le_of_ble_eq_true rfl, Nat.le_of_ble_eq_true rfl⟩) rfl ⟨_, _, _, _, _, _, rfl, rfl, rfl, rfl⟩ hK hN hs (fun w1 w2 h1 h2 => vi_kept_tr (by decide +kernel) h1 h2) (fun q hq => Or.inr hq) ⟨Nat.le_refl _, Nat.le_refl _⟩⟩, (fun ct2 h2 => by cases h2)⟩), ?_⟩
      exact fun q hq => by cases hq
end VC
section VC
noncomputable def q_Hubcascade_portPower_0 : VCt := ([av_30], [], [([av_36], [], [], [])], [], 0)
noncomputable def mt_Hubcascade_portPower_0 : List (Nat × Bool × Nat × List VCt) := []
noncomputable def fp_Hubcascade_portPower_0 : List (Nat × Nat × Nat × Nat) := []
noncomputable def pt_Hubcascade_portPower_0_0 : List (Nat × VS) := [(0, ([av_30], [], [], 0))]
set_option maxRecDepth 100000 in
theorem k_Hubcascade_portPower_0 : vi_chk vK vSG 1 0 vFT_X9 fp_Hubcascade_portPower_0 vCT_X9 vC2_X9 [] mt_Hubcascade_portPower_0 cX9_portPower [] 400 pt_Hubcascade_portPower_0_0 q_Hubcascade_portPower_0 [] = true := by decide +kernel
set_option maxHeartbeats 4000000 in
theorem m_Hubcascade_portPower_0 (l : Launch) (D : va_G) (cy : Nat → ClassId) (hst : l.stackTraces = false) : vi_Mn l D cy vK vSG yX9_portPower (Cond.code yX9_portPower cX9_portPower 1 (some .int) :: vWall) 0 0 q_Hubcascade_portPower_0 := by
  refine vi_Mn_of (own := RX9) (J := []) (f := 400) (FT := vFT_X9) (FP := fp_Hubcascade_portPower_0) (CT := vCT_X9) (C2 := vC2_X9) (MT := mt_Hubcascade_portPower_0) (by decide) rfl rfl rfl (by decide +kernel) (by decide +kernel) (vK_ty cy) k_Hubcascade_portPower_0 ?_
  · intro p e s m below meth c ad τ w av S hK hN hs
    refine ⟨vfg_X9 S hK hN, ?_, vct_X9 S, vc2_X9 S, ?_⟩
    · exact fun i ci k d9 h => by cases h
    · exact fun i sta k cts h => by cases h
end VC
section VC
noncomputable def q_Hubcascade_look_0 : VCt := ([av_37], [], [([av_15], [], [], [])], [(6, 7, 4), (6, 8, 4), (6, 10, 4), (6, 11, 4), (6, 12, 4), (6, 13, 4), (6, 14, 4), (6, 15, 4), (6, 16, 4), (6, 17, 4), (7, 2, 5), (8, 4, 19), (8, 5, 19), (8, 6, 19), (8, 7, 19), (9, 1, 6), (10, 1, 7), (10, 2, 7), (10, 12, 7), (10, 13, 7), (11, 0, 20), (200, 12, 0), (200, 13, 0), (200, 14, 0), (200, 21, 0)], 1)
noncomputable def mt_Hubcascade_look_0 : List (Nat × Bool × Nat × List VCt) := [(199, false, 1, [q_Hubcascade_firstNewDevice_0]), (208, false, 2, [q_Hubcascade_answersControl_0]), (211, false, 3, [q_Hubcascade_disable_0]), (215, false, 1, [q_Hubcascade_lowestFreeAddress_0]), (218, true, 1, [q_Hubcascade_portPower_0]), (222, false, 3, [q_Hubcascade_fittingDriver_0])]
noncomputable def fp_Hubcascade_look_0 : List (Nat × Nat × Nat × Nat) := [(74, 6, 7, 4), (196, 6, 13, 4), (226, 6, 14, 4)]
noncomputable def pt_Hubcascade_look_0_0 : List (Nat × VS) := [(0, ([av_37, av_38], [], [], 0))]
set_option maxRecDepth 100000 in
theorem k_Hubcascade_look_0 : vi_chk vK vSG 2 q_Hubcascade_look_0.2.2.2.2 vFT_X9 fp_Hubcascade_look_0 vCT_X9 vC2_X9 [9] mt_Hubcascade_look_0 cX9_look [] 400 pt_Hubcascade_look_0_0 q_Hubcascade_look_0 [] = true := by decide +kernel
set_option maxHeartbeats 4000000 in
theorem m_Hubcascade_look_0 (l : Launch) (D : va_G) (cy : Nat → ClassId) (hst : l.stackTraces = false) : vi_Mx l D cy vK vSG yX9_look (Cond.code yX9_look cX9_look 2 (some .int) :: vWall) 6 123 q_Hubcascade_look_0 ["java/util/NoSuchElementException"] := by
  refine vi_Mx_of (own := RX9) (J := []) (f := 400) (XP := [9]) (FT := vFT_X9) (FP := fp_Hubcascade_look_0) (CT := vCT_X9) (C2 := vC2_X9) (MT := mt_Hubcascade_look_0) (by decide) rfl rfl (by decide +kernel) (by decide +kernel) (vK_ty cy) k_Hubcascade_look_0 ?_
  · intro p e s m below meth c ad τ w av S hK hN hs hT hout hlocks
    refine ⟨vfg_X9 S hK hN, ?_, vct_X9 S, vc2_X9 S, ?_, ?_⟩
    · refine vi_f4 (L := fp_Hubcascade_look_0) ?_
      refine List.forall_mem_cons.mpr ⟨fun d x fs b v h1 h2 h3 => vfp_X9_74_6_7 S hK hN (vTy_ok h1 h2 h3), ?_⟩
      refine List.forall_mem_cons.mpr ⟨fun d x fs b v h1 h2 h3 => vfp_X9_196_6_13 S hK hN (vTy_ok h1 h2 h3), ?_⟩
      refine List.forall_mem_cons.mpr ⟨fun d x fs b v h1 h2 h3 => vfp_X9_226_6_14 S hK hN (vTy_ok h1 h2 h3), ?_⟩
      exact fun q hq => by cases hq
    · refine vi_f4 (L := mt_Hubcascade_look_0) ?_
      refine List.forall_mem_cons.mpr ⟨(List.forall_mem_cons.mpr ⟨⟨rfl, vi_crV S (m_Hubcascade_firstNewDevice_0 l D cy hst) (cwV 0 S.2.2.2.2 (vgV (vm_6 _ (List.mem_of_getElem? (i := 32) rfl)) (vm_6 _ (List.mem_of_getElem? (i := 33) rfl)) (vm_6 _ (List.mem_of_getElem? (i := 34) rfl)) (vm_4 _ (List.mem_of_getElem? (i := 20) rfl)) (vm_6 _ (List.mem_of_getElem? (i := 13) rfl))) rfl rfl rfl ⟨rfl, by decide, by decide, by decide +kernel⟩ ⟨Nat.le_of_ble_eq_true rfl, Nat.le_of_ble_eq_true rfl⟩) rfl ⟨_, _, _, _, _, _, rfl, rfl, rfl, rfl⟩ hK hN hs (fun w1 w2 h1 h2 => vi_kept_tr (by decide +kernel) h1 h2) (fun q hq => Or.inr hq) ⟨Nat.le_refl _, Nat.le_refl _⟩⟩, (fun ct2 h2 => by cases h2)⟩), ?_⟩
      refine List.forall_mem_cons.mpr ⟨(List.forall_mem_cons.mpr ⟨⟨rfl, vi_crV S (m_Hubcascade_answersControl_0 l D cy hst) (cwV 1 S.2.2.2.2 (vgV (vm_6 _ (List.mem_of_getElem? (i := 35) rfl)) (vm_6 _ (List.mem_of_getElem? (i := 36) rfl)) (vm_6 _ (List.mem_of_getElem? (i := 37) rfl)) (vm_4 _ (List.mem_of_getElem? (i := 20) rfl)) (vm_6 _ (List.mem_of_getElem? (i := 14) rfl))) rfl rfl rfl ⟨rfl, by decide, by decide, by decide +kernel⟩ ⟨Nat.le_of_ble_eq_true rfl, Nat.le_of_ble_eq_true rfl⟩) rfl ⟨_, _, _, _, _, _, rfl, rfl, rfl, rfl⟩ hK hN hs (fun w1 w2 h1 h2 => vi_kept_tr (by decide +kernel) h1 h2) (fun q hq => Or.inr hq) ⟨Nat.le_refl _, Nat.le_refl _⟩⟩, (fun ct2 h2 => by cases h2)⟩), ?_⟩
      refine List.forall_mem_cons.mpr ⟨(List.forall_mem_cons.mpr ⟨⟨rfl, vi_crV S (m_Hubcascade_disable_0 l D cy hst) (cwV 2 S.2.2.2.2 (vgV (vm_6 _ (List.mem_of_getElem? (i := 38) rfl)) (vm_6 _ (List.mem_of_getElem? (i := 39) rfl)) (vm_7 _ (List.mem_of_getElem? (i := 0) rfl)) (vm_4 _ (List.mem_of_getElem? (i := 20) rfl)) (vm_6 _ (List.mem_of_getElem? (i := 17) rfl))) rfl rfl rfl ⟨rfl, by decide, by decide, by decide +kernel⟩ ⟨Nat.le_of_ble_eq_true rfl, Nat.le_of_ble_eq_true rfl⟩) rfl ⟨_, _, _, _, _, _, rfl, rfl, rfl, rfl⟩ hK hN hs (fun w1 w2 h1 h2 => vi_kept_tr (by decide +kernel) h1 h2) (fun q hq => Or.inr hq) ⟨Nat.le_refl _, Nat.le_refl _⟩⟩, (fun ct2 h2 => by cases h2)⟩), ?_⟩
      refine List.forall_mem_cons.mpr ⟨(List.forall_mem_cons.mpr ⟨⟨rfl, vi_crV S (m_Hubcascade_lowestFreeAddress_0 l D cy hst) (cwV 0 S.2.2.2.2 (vgV (vm_7 _ (List.mem_of_getElem? (i := 1) rfl)) (vm_7 _ (List.mem_of_getElem? (i := 2) rfl)) (vm_7 _ (List.mem_of_getElem? (i := 3) rfl)) (vm_4 _ (List.mem_of_getElem? (i := 20) rfl)) (vm_6 _ (List.mem_of_getElem? (i := 19) rfl))) rfl rfl rfl ⟨rfl, by decide, by decide, by decide +kernel⟩ ⟨Nat.le_of_ble_eq_true rfl, Nat.le_of_ble_eq_true rfl⟩) rfl ⟨_, _, _, _, _, _, rfl, rfl, rfl, rfl⟩ hK hN hs (fun w1 w2 h1 h2 => vi_kept_tr (by decide +kernel) h1 h2) (fun q hq => Or.inr hq) ⟨Nat.le_refl _, Nat.le_refl _⟩⟩, (fun ct2 h2 => by cases h2)⟩), ?_⟩
      refine List.forall_mem_cons.mpr ⟨(List.forall_mem_cons.mpr ⟨⟨rfl, vi_crS S (m_Hubcascade_portPower_0 l D cy hst) (cwS 1 S.2.2.2.2 (vgS (vm_7 _ (List.mem_of_getElem? (i := 4) rfl)) (vm_7 _ (List.mem_of_getElem? (i := 5) rfl)) (vm_4 _ (List.mem_of_getElem? (i := 20) rfl)) (vm_6 _ (List.mem_of_getElem? (i := 23) rfl))) rfl rfl rfl ⟨rfl, by decide, by decide, by decide +kernel⟩ ⟨Nat.le_of_ble_eq_true rfl, Nat.le_of_ble_eq_true rfl⟩) rfl hK hN hs (fun w1 w2 h1 h2 => vi_kept_tr (by decide +kernel) h1 h2) (fun q hq => Or.inr hq) ⟨Nat.le_refl _, Nat.le_refl _⟩⟩, (fun ct2 h2 => by cases h2)⟩), ?_⟩
      refine List.forall_mem_cons.mpr ⟨(List.forall_mem_cons.mpr ⟨⟨rfl, vi_crV S (m_Hubcascade_fittingDriver_0 l D cy hst) (cwV 2 S.2.2.2.2 (vgV (vm_7 _ (List.mem_of_getElem? (i := 6) rfl)) (vm_7 _ (List.mem_of_getElem? (i := 7) rfl)) (vm_7 _ (List.mem_of_getElem? (i := 8) rfl)) (vm_4 _ (List.mem_of_getElem? (i := 20) rfl)) (vm_6 _ (List.mem_of_getElem? (i := 26) rfl))) rfl rfl rfl ⟨rfl, by decide, by decide, by decide +kernel⟩ ⟨Nat.le_of_ble_eq_true rfl, Nat.le_of_ble_eq_true rfl⟩) rfl ⟨_, _, _, _, _, _, rfl, rfl, rfl, rfl⟩ hK hN hs (fun w1 w2 h1 h2 => vi_kept_tr (by decide +kernel) h1 h2) (fun q hq => Or.inr hq) ⟨Nat.le_refl _, Nat.le_refl _⟩⟩, (fun ct2 h2 => by cases h2)⟩), ?_⟩
      exact fun q hq => by cases hq
    · refine List.forall_mem_cons.mpr ⟨vi_throwN (WS := _ :: vWall) (text := "no new device can be reached") (ik := 203) (is := 205) S.1 S.2.1 hst S.2.2.2.2 S.2.2.2.1 (by decide) (by decide) hT (by decide) (List.mem_cons_of_mem _ (vm_6 _ (List.mem_of_getElem? (i := 30) rfl))) (List.mem_cons_of_mem _ (vm_6 _ (List.mem_of_getElem? (i := 31) rfl))) (fun w h => List.mem_cons_of_mem _ (vmx_5 w h)) (by decide +kernel) (by decide +kernel) (by decide) S.2.2.1 (by decide +kernel) (by decide +kernel) (by decide +kernel) (by decide +kernel) (by decide +kernel) hout hlocks (Nat.le_of_ble_eq_true rfl) (Nat.le_of_ble_eq_true rfl) ⟨Nat.le_refl _, Nat.le_refl _⟩ (Nat.le_refl _) (fun _ h => h), ?_⟩
      exact fun q hq => by cases hq
end VC
section VC
noncomputable def q_Hubcascade_isWithin_5 : VCt := ([av_6, (vC 0), (vC 9)], [], [([(vC 0)], [], [], []), ([(vC 1)], [av_52], [], [])], [], 0)
noncomputable def mt_Hubcascade_isWithin_5 : List (Nat × Bool × Nat × List VCt) := []
noncomputable def fp_Hubcascade_isWithin_5 : List (Nat × Nat × Nat × Nat) := []
noncomputable def pt_Hubcascade_isWithin_5_0 : List (Nat × VS) := [(0, ([av_6, (vC 0), (vC 9)], [], [], 0))]
set_option maxRecDepth 100000 in
theorem k_Hubcascade_isWithin_5 : vi_chk vK vSG 3 0 vFT_X9 fp_Hubcascade_isWithin_5 vCT_X9 vC2_X9 [] mt_Hubcascade_isWithin_5 cX9_isWithin [] 400 pt_Hubcascade_isWithin_5_0 q_Hubcascade_isWithin_5 [] = true := by decide +kernel
set_option maxHeartbeats 4000000 in
theorem m_Hubcascade_isWithin_5 (l : Launch) (D : va_G) (cy : Nat → ClassId) (hst : l.stackTraces = false) : vi_Mn l D cy vK vSG yX9_isWithin (Cond.code yX9_isWithin cX9_isWithin 3 (some .boolean) :: vWall) 0 0 q_Hubcascade_isWithin_5 := by
  refine vi_Mn_of (own := RX9) (J := []) (f := 400) (FT := vFT_X9) (FP := fp_Hubcascade_isWithin_5) (CT := vCT_X9) (C2 := vC2_X9) (MT := mt_Hubcascade_isWithin_5) (by decide) rfl rfl rfl (by decide +kernel) (by decide +kernel) (vK_ty cy) k_Hubcascade_isWithin_5 ?_
  · intro p e s m below meth c ad τ w av S hK hN hs
    refine ⟨vfg_X9 S hK hN, ?_, vct_X9 S, vc2_X9 S, ?_⟩
    · exact fun i ci k d9 h => by cases h
    · exact fun i sta k cts h => by cases h
end VC
section VC
noncomputable def q_Hubcascade_isWithin_6 : VCt := ([av_6, av_69, (vC 9)], [], [([(vC 0)], [], [], []), ([(vC 1)], [av_70], [], [])], [], 0)
noncomputable def mt_Hubcascade_isWithin_6 : List (Nat × Bool × Nat × List VCt) := []
noncomputable def fp_Hubcascade_isWithin_6 : List (Nat × Nat × Nat × Nat) := []
noncomputable def pt_Hubcascade_isWithin_6_0 : List (Nat × VS) := [(0, ([av_6, av_69, (vC 9)], [], [], 0))]
set_option maxRecDepth 100000 in
theorem k_Hubcascade_isWithin_6 : vi_chk vK vSG 3 0 vFT_X9 fp_Hubcascade_isWithin_6 vCT_X9 vC2_X9 [] mt_Hubcascade_isWithin_6 cX9_isWithin [] 400 pt_Hubcascade_isWithin_6_0 q_Hubcascade_isWithin_6 [] = true := by decide +kernel
set_option maxHeartbeats 4000000 in
theorem m_Hubcascade_isWithin_6 (l : Launch) (D : va_G) (cy : Nat → ClassId) (hst : l.stackTraces = false) : vi_Mn l D cy vK vSG yX9_isWithin (Cond.code yX9_isWithin cX9_isWithin 3 (some .boolean) :: vWall) 0 0 q_Hubcascade_isWithin_6 := by
  refine vi_Mn_of (own := RX9) (J := []) (f := 400) (FT := vFT_X9) (FP := fp_Hubcascade_isWithin_6) (CT := vCT_X9) (C2 := vC2_X9) (MT := mt_Hubcascade_isWithin_6) (by decide) rfl rfl rfl (by decide +kernel) (by decide +kernel) (vK_ty cy) k_Hubcascade_isWithin_6 ?_
  · intro p e s m below meth c ad τ w av S hK hN hs
    refine ⟨vfg_X9 S hK hN, ?_, vct_X9 S, vc2_X9 S, ?_⟩
    · exact fun i ci k d9 h => by cases h
    · exact fun i sta k cts h => by cases h
end VC
section VC
noncomputable def q_Hubcascade_driver_0 : VCt := ([av_37, av_6, av_6], [], [([av_51], [av_38, av_52, av_70], [], [])], [(14, 4, 0), (200, 12, 0)], 1)
noncomputable def mt_Hubcascade_driver_0 : List (Nat × Bool × Nat × List VCt) := [(88, true, 3, [q_Hubcascade_isWithin_5, q_Hubcascade_isWithin_6])]
noncomputable def fp_Hubcascade_driver_0 : List (Nat × Nat × Nat × Nat) := [(231, 14, 4, 0), (100012, 200, 12, 0)]
noncomputable def pt_Hubcascade_driver_0_0 : List (Nat × VS) := [(0, ([av_37, av_6, av_6], [], [], 0))]
set_option maxRecDepth 100000 in
theorem k_Hubcascade_driver_0 : vi_chk vK vSG 3 q_Hubcascade_driver_0.2.2.2.2 vFT_X9 fp_Hubcascade_driver_0 vCT_X9 vC2_X9 [20, 39] mt_Hubcascade_driver_0 cX9_driver [] 400 pt_Hubcascade_driver_0_0 q_Hubcascade_driver_0 [] = true := by decide +kernel
set_option maxHeartbeats 4000000 in
theorem m_Hubcascade_driver_0 (l : Launch) (D : va_G) (cy : Nat → ClassId) (hst : l.stackTraces = false) : vi_Mx l D cy vK vSG yX9_driver (Cond.code yX9_driver cX9_driver 3 (some .int) :: vWall) 6 90 q_Hubcascade_driver_0 ["java/lang/IllegalArgumentException", "java/lang/IllegalStateException"] := by
  refine vi_Mx_of (own := RX9) (J := []) (f := 400) (XP := [20, 39]) (FT := vFT_X9) (FP := fp_Hubcascade_driver_0) (CT := vCT_X9) (C2 := vC2_X9) (MT := mt_Hubcascade_driver_0) (by decide) rfl rfl (by decide +kernel) (by decide +kernel) (vK_ty cy) k_Hubcascade_driver_0 ?_
  · intro p e s m below meth c ad τ w av S hK hN hs hT hout hlocks
    refine ⟨vfg_X9 S hK hN, ?_, vct_X9 S, vc2_X9 S, ?_, ?_⟩
    · refine vi_f4 (L := fp_Hubcascade_driver_0) ?_
      refine List.forall_mem_cons.mpr ⟨fun d x fs b v h1 h2 h3 => vfp_X9_231_14_4 S hK hN (vTy_ok h1 h2 h3), ?_⟩
      refine List.forall_mem_cons.mpr ⟨fun d x fs b v h1 h2 h3 => absurd h1 (vK_200 d x fs), ?_⟩
      exact fun q hq => by cases hq
    · refine vi_f4 (L := mt_Hubcascade_driver_0) ?_
      refine List.forall_mem_cons.mpr ⟨(List.forall_mem_cons.mpr ⟨⟨rfl, vi_crS S (m_Hubcascade_isWithin_5 l D cy hst) (cwS 3 S.2.2.2.2 (vgS (vm_4 _ (List.mem_of_getElem? (i := 21) rfl)) (vm_4 _ (List.mem_of_getElem? (i := 22) rfl)) (vm_4 _ (List.mem_of_getElem? (i := 20) rfl)) (vm_4 _ (List.mem_of_getElem? (i := 12) rfl))) rfl rfl rfl ⟨rfl, by decide, by decide, by decide +kernel⟩ ⟨Nat.le_of_ble_eq_true rfl, Nat.le_of_ble_eq_true rfl⟩) rfl hK hN hs (fun w1 w2 h1 h2 => vi_kept_tr (by decide +kernel) h1 h2) (fun q hq => Or.inr hq) ⟨Nat.le_refl _, Nat.le_refl _⟩⟩, (List.forall_mem_cons.mpr ⟨⟨rfl, vi_crS S (m_Hubcascade_isWithin_6 l D cy hst) (cwS 3 S.2.2.2.2 (vgS (vm_4 _ (List.mem_of_getElem? (i := 21) rfl)) (vm_4 _ (List.mem_of_getElem? (i := 22) rfl)) (vm_4 _ (List.mem_of_getElem? (i := 20) rfl)) (vm_4 _ (List.mem_of_getElem? (i := 12) rfl))) rfl rfl rfl ⟨rfl, by decide, by decide, by decide +kernel⟩ ⟨Nat.le_of_ble_eq_true rfl, Nat.le_of_ble_eq_true rfl⟩) rfl hK hN hs (fun w1 w2 h1 h2 => vi_kept_tr (by decide +kernel) h1 h2) (fun q hq => Or.inr hq) ⟨Nat.le_refl _, Nat.le_refl _⟩⟩, (fun ct2 h2 => by cases h2)⟩)⟩), ?_⟩
      exact fun q hq => by cases hq
    · refine List.forall_mem_cons.mpr ⟨vi_throwS (WS := _ :: vWall) (text := "no such class or subclass") (ik := 92) (is := 229) (ic := 96) (X := "java/lang/IllegalArgumentException") S.1 S.2.1 hst S.2.2.2.2 S.2.2.2.1 (by decide) (by decide) hT (by decide) (List.mem_cons_of_mem _ (vm_4 _ (List.mem_of_getElem? (i := 14) rfl))) (List.mem_cons_of_mem _ (vm_4 _ (List.mem_of_getElem? (i := 15) rfl))) (fun w h => List.mem_cons_of_mem _ (vmx_2 w h)) (by decide +kernel) (by decide +kernel) (by decide) S.2.2.1 (by decide +kernel) (by decide +kernel) (by decide +kernel) (by decide +kernel) (by decide +kernel) hout hlocks (Nat.le_of_ble_eq_true rfl) (Nat.le_of_ble_eq_true rfl) ⟨Nat.le_refl _, Nat.le_refl _⟩ (Nat.le_refl _) (fun _ h => h), ?_⟩
      refine List.forall_mem_cons.mpr ⟨vi_throwS (WS := _ :: vWall) (text := "there are 8 drivers") (ik := 101) (is := 234) (ic := 105) (X := "java/lang/IllegalStateException") S.1 S.2.1 hst S.2.2.2.2 S.2.2.2.1 (by decide) (by decide) hT (by decide) (List.mem_cons_of_mem _ (vm_4 _ (List.mem_of_getElem? (i := 16) rfl))) (List.mem_cons_of_mem _ (vm_4 _ (List.mem_of_getElem? (i := 17) rfl))) (fun w h => List.mem_cons_of_mem _ (vmx_3 w h)) (by decide +kernel) (by decide +kernel) (by decide) S.2.2.1 (by decide +kernel) (by decide +kernel) (by decide +kernel) (by decide +kernel) (by decide +kernel) hout hlocks (Nat.le_of_ble_eq_true rfl) (Nat.le_of_ble_eq_true rfl) ⟨Nat.le_refl _, Nat.le_refl _⟩ (Nat.le_refl _) (fun _ h => h), ?_⟩
      exact fun q hq => by cases hq
end VC
section VC
noncomputable def q_Hubcascade_driverOf_0 : VCt := ([av_37, av_6], [], [([av_6], [av_38, av_15], [], [])], [], 1)
noncomputable def mt_Hubcascade_driverOf_0 : List (Nat × Bool × Nat × List VCt) := [(124, false, 2, [q_Hubcascade_deviceAt_0])]
noncomputable def fp_Hubcascade_driverOf_0 : List (Nat × Nat × Nat × Nat) := []
noncomputable def pt_Hubcascade_driverOf_0_0 : List (Nat × VS) := [(0, ([av_37, av_6], [], [], 0))]
set_option maxRecDepth 100000 in
theorem k_Hubcascade_driverOf_0 : vi_chk vK vSG 2 q_Hubcascade_driverOf_0.2.2.2.2 vFT_X9 fp_Hubcascade_driverOf_0 vCT_X9 vC2_X9 [] mt_Hubcascade_driverOf_0 cX9_driverOf [] 400 pt_Hubcascade_driverOf_0_0 q_Hubcascade_driverOf_0 [] = true := by decide +kernel
set_option maxHeartbeats 4000000 in
theorem m_Hubcascade_driverOf_0 (l : Launch) (D : va_G) (cy : Nat → ClassId) (hst : l.stackTraces = false) : vi_Mx l D cy vK vSG yX9_driverOf (Cond.code yX9_driverOf cX9_driverOf 2 (some .int) :: vWall) 7 111 q_Hubcascade_driverOf_0 ["java/lang/IndexOutOfBoundsException"] := by
  refine vi_Mx_of (own := RX9) (J := []) (f := 400) (XP := []) (FT := vFT_X9) (FP := fp_Hubcascade_driverOf_0) (CT := vCT_X9) (C2 := vC2_X9) (MT := mt_Hubcascade_driverOf_0) (by decide) rfl rfl (by decide +kernel) (by decide +kernel) (vK_ty cy) k_Hubcascade_driverOf_0 ?_
  · intro p e s m below meth c ad τ w av S hK hN hs hT hout hlocks
    refine ⟨vfg_X9 S hK hN, ?_, vct_X9 S, vc2_X9 S, ?_, ?_⟩
    · exact fun i ci k d9 h => by cases h
    · refine vi_f4 (L := mt_Hubcascade_driverOf_0) ?_
      refine List.forall_mem_cons.mpr ⟨(List.forall_mem_cons.mpr ⟨⟨rfl, vi_crX S (m_Hubcascade_deviceAt_0 l D cy hst) (cwV 1 S.2.2.2.2 (vgV (vm_4 _ (List.mem_of_getElem? (i := 29) rfl)) (vm_4 _ (List.mem_of_getElem? (i := 30) rfl)) (vm_4 _ (List.mem_of_getElem? (i := 31) rfl)) (vm_4 _ (List.mem_of_getElem? (i := 20) rfl)) (vm_4 _ (List.mem_of_getElem? (i := 23) rfl))) rfl rfl rfl ⟨rfl, by decide, by decide, by decide +kernel⟩ ⟨Nat.le_of_ble_eq_true rfl, Nat.le_of_ble_eq_true rfl⟩) rfl ⟨_, _, _, _, _, _, rfl, rfl, rfl, rfl⟩ hK hN hs hT (fun w1 w2 h1 h2 => vi_kept_tr (by decide +kernel) h1 h2) (fun _ h => h) ⟨Nat.le_refl _, Nat.le_refl _⟩ (by decide) hout hlocks (Nat.le_refl _)⟩, (fun ct2 h2 => by cases h2)⟩), ?_⟩
      exact fun q hq => by cases hq
    · exact fun q hq => by cases hq
end VC
section VC
noncomputable def q_Hubcascade_drawnBy_0 : VCt := ([av_30], [], [([av_6], [], [], [])], [], 0)
noncomputable def mt_Hubcascade_drawnBy_0 : List (Nat × Bool × Nat × List VCt) := []
noncomputable def fp_Hubcascade_drawnBy_0 : List (Nat × Nat × Nat × Nat) := []
noncomputable def pt_Hubcascade_drawnBy_0_0 : List (Nat × VS) := [(0, ([av_30], [], [], 0))]
set_option maxRecDepth 100000 in
theorem k_Hubcascade_drawnBy_0 : vi_chk vK vSG 1 0 vFT_X9 fp_Hubcascade_drawnBy_0 vCT_X9 vC2_X9 [] mt_Hubcascade_drawnBy_0 cX9_drawnBy [] 400 pt_Hubcascade_drawnBy_0_0 q_Hubcascade_drawnBy_0 [] = true := by decide +kernel
set_option maxHeartbeats 4000000 in
theorem m_Hubcascade_drawnBy_0 (l : Launch) (D : va_G) (cy : Nat → ClassId) (hst : l.stackTraces = false) : vi_Mn l D cy vK vSG yX9_drawnBy (Cond.code yX9_drawnBy cX9_drawnBy 1 (some .int) :: vWall) 0 0 q_Hubcascade_drawnBy_0 := by
  refine vi_Mn_of (own := RX9) (J := []) (f := 400) (FT := vFT_X9) (FP := fp_Hubcascade_drawnBy_0) (CT := vCT_X9) (C2 := vC2_X9) (MT := mt_Hubcascade_drawnBy_0) (by decide) rfl rfl rfl (by decide +kernel) (by decide +kernel) (vK_ty cy) k_Hubcascade_drawnBy_0 ?_
  · intro p e s m below meth c ad τ w av S hK hN hs
    refine ⟨vfg_X9 S hK hN, ?_, vct_X9 S, vc2_X9 S, ?_⟩
    · exact fun i ci k d9 h => by cases h
    · exact fun i sta k cts h => by cases h
end VC
section VC
noncomputable def q_Hubcascade_draw_0 : VCt := ([av_37, av_6, av_6], [], [([av_6], [av_38, av_15, av_52], [], [])], [(6, 6, 4)], 2)
noncomputable def mt_Hubcascade_draw_0 : List (Nat × Bool × Nat × List VCt) := [(88, true, 3, [q_Hubcascade_isWithin_5]), (185, false, 2, [q_Hubcascade_deviceBelowHost_0]), (238, true, 1, [q_Hubcascade_drawnBy_0])]
noncomputable def fp_Hubcascade_draw_0 : List (Nat × Nat × Nat × Nat) := [(115, 6, 6, 4)]
noncomputable def pt_Hubcascade_draw_0_0 : List (Nat × VS) := [(0, ([av_37, av_6, av_6, av_38, av_38], [], [], 0))]
set_option maxRecDepth 100000 in
theorem k_Hubcascade_draw_0 : vi_chk vK vSG 5 q_Hubcascade_draw_0.2.2.2.2 vFT_X9 fp_Hubcascade_draw_0 vCT_X9 vC2_X9 [16] mt_Hubcascade_draw_0 cX9_draw [] 400 pt_Hubcascade_draw_0_0 q_Hubcascade_draw_0 [] = true := by decide +kernel
set_option maxHeartbeats 4000000 in
theorem m_Hubcascade_draw_0 (l : Launch) (D : va_G) (cy : Nat → ClassId) (hst : l.stackTraces = false) : vi_Mx l D cy vK vSG yX9_draw (Cond.code yX9_draw cX9_draw 5 (some .int) :: vWall) 8 132 q_Hubcascade_draw_0 ["java/lang/IndexOutOfBoundsException", "java/lang/IllegalArgumentException"] := by
  refine vi_Mx_of (own := RX9) (J := []) (f := 400) (XP := [16]) (FT := vFT_X9) (FP := fp_Hubcascade_draw_0) (CT := vCT_X9) (C2 := vC2_X9) (MT := mt_Hubcascade_draw_0) (by decide) rfl rfl (by decide +kernel) (by decide +kernel) (vK_ty cy) k_Hubcascade_draw_0 ?_
  · intro p e s m below meth c ad τ w av S hK hN hs hT hout hlocks
    refine ⟨vfg_X9 S hK hN, ?_, vct_X9 S, vc2_X9 S, ?_, ?_⟩
    · refine vi_f4 (L := fp_Hubcascade_draw_0) ?_
      refine List.forall_mem_cons.mpr ⟨fun d x fs b v h1 h2 h3 => vfp_X9_115_6_6 S hK hN (vTy_ok h1 h2 h3), ?_⟩
      exact fun q hq => by cases hq
    · refine vi_f4 (L := mt_Hubcascade_draw_0) ?_
      refine List.forall_mem_cons.mpr ⟨(List.forall_mem_cons.mpr ⟨⟨rfl, vi_crS S (m_Hubcascade_isWithin_5 l D cy hst) (cwS 3 S.2.2.2.2 (vgS (vm_4 _ (List.mem_of_getElem? (i := 21) rfl)) (vm_4 _ (List.mem_of_getElem? (i := 22) rfl)) (vm_4 _ (List.mem_of_getElem? (i := 20) rfl)) (vm_4 _ (List.mem_of_getElem? (i := 12) rfl))) rfl rfl rfl ⟨rfl, by decide, by decide, by decide +kernel⟩ ⟨Nat.le_of_ble_eq_true rfl, Nat.le_of_ble_eq_true rfl⟩) rfl hK hN hs (fun w1 w2 h1 h2 => vi_kept_tr (by decide +kernel) h1 h2) (fun q hq => Or.inr hq) ⟨Nat.le_refl _, Nat.le_refl _⟩⟩, (fun ct2 h2 => by cases h2)⟩), ?_⟩
      refine List.forall_mem_cons.mpr ⟨(List.forall_mem_cons.mpr ⟨⟨rfl, vi_crX S (m_Hubcascade_deviceBelowHost_0 l D cy hst) (cwV 1 S.2.2.2.2 (vgV (vm_6 _ (List.mem_of_getElem? (i := 0) rfl)) (vm_6 _ (List.mem_of_getElem? (i := 1) rfl)) (vm_6 _ (List.mem_of_getElem? (i := 2) rfl)) (vm_4 _ (List.mem_of_getElem? (i := 20) rfl)) (vm_5 _ (List.mem_of_getElem? (i := 5) rfl))) rfl rfl rfl ⟨rfl, by decide, by decide, by decide +kernel⟩ ⟨Nat.le_of_ble_eq_true rfl, Nat.le_of_ble_eq_true rfl⟩) rfl ⟨_, _, _, _, _, _, rfl, rfl, rfl, rfl⟩ hK hN hs hT (fun w1 w2 h1 h2 => vi_kept_tr (by decide +kernel) h1 h2) (fun _ h => h) ⟨Nat.le_refl _, Nat.le_refl _⟩ (by decide) hout hlocks (Nat.le_refl _)⟩, (fun ct2 h2 => by cases h2)⟩), ?_⟩
      refine List.forall_mem_cons.mpr ⟨(List.forall_mem_cons.mpr ⟨⟨rfl, vi_crS S (m_Hubcascade_drawnBy_0 l D cy hst) (cwS 1 S.2.2.2.2 (vgS (vm_7 _ (List.mem_of_getElem? (i := 14) rfl)) (vm_7 _ (List.mem_of_getElem? (i := 15) rfl)) (vm_4 _ (List.mem_of_getElem? (i := 20) rfl)) (vm_7 _ (List.mem_of_getElem? (i := 12) rfl))) rfl rfl rfl ⟨rfl, by decide, by decide, by decide +kernel⟩ ⟨Nat.le_of_ble_eq_true rfl, Nat.le_of_ble_eq_true rfl⟩) rfl hK hN hs (fun w1 w2 h1 h2 => vi_kept_tr (by decide +kernel) h1 h2) (fun q hq => Or.inr hq) ⟨Nat.le_refl _, Nat.le_refl _⟩⟩, (fun ct2 h2 => by cases h2)⟩), ?_⟩
      exact fun q hq => by cases hq
    · refine List.forall_mem_cons.mpr ⟨vi_throwS (WS := _ :: vWall) (text := "no such draw") (ik := 92) (is := 236) (ic := 96) (X := "java/lang/IllegalArgumentException") S.1 S.2.1 hst S.2.2.2.2 S.2.2.2.1 (by decide) (by decide) hT (by decide) (List.mem_cons_of_mem _ (vm_4 _ (List.mem_of_getElem? (i := 14) rfl))) (List.mem_cons_of_mem _ (vm_4 _ (List.mem_of_getElem? (i := 15) rfl))) (fun w h => List.mem_cons_of_mem _ (vmx_2 w h)) (by decide +kernel) (by decide +kernel) (by decide) S.2.2.1 (by decide +kernel) (by decide +kernel) (by decide +kernel) (by decide +kernel) (by decide +kernel) hout hlocks (Nat.le_of_ble_eq_true rfl) (Nat.le_of_ble_eq_true rfl) ⟨Nat.le_refl _, Nat.le_refl _⟩ (Nat.le_refl _) (fun _ h => h), ?_⟩
      exact fun q hq => by cases hq
end VC
section VC
noncomputable def q_Hubcascade_hasTransferWithin_0 : VCt := ([av_37, av_30], [], [([(vC 1)], [], [], []), ([(vC 0)], [], [], [])], [], 0)
noncomputable def mt_Hubcascade_hasTransferWithin_0 : List (Nat × Bool × Nat × List VCt) := [(246, true, 2, [q_Hubcascade_isSameOrBelow_0])]
noncomputable def fp_Hubcascade_hasTransferWithin_0 : List (Nat × Nat × Nat × Nat) := []
noncomputable def pt_Hubcascade_hasTransferWithin_0_0 : List (Nat × VS) := [(0, ([av_37, av_30, av_38, av_38], [], [], 0)), (2, ([av_37, av_30, (vC 0), av_38], [], [], 0)), (2, ([av_37, av_30, (vC 1), av_30], [], [], 0)), (2, ([av_37, av_30, (vC 1), av_47], [], [], 0)), (2, ([av_37, av_30, (vC 2), av_30], [], [], 0)), (2, ([av_37, av_30, (vC 2), av_47], [], [], 0)), (2, ([av_37, av_30, (vC 3), av_30], [], [], 0)), (2, ([av_37, av_30, (vC 3), av_47], [], [], 0)), (2, ([av_37, av_30, (vC 4), av_30], [], [], 0)), (2, ([av_37, av_30, (vC 4), av_47], [], [], 0)), (2, ([av_37, av_30, (vC 5), av_30], [], [], 0)), (2, ([av_37, av_30, (vC 5), av_47], [], [], 0)), (2, ([av_37, av_30, (vC 6), av_30], [], [], 0)), (2, ([av_37, av_30, (vC 6), av_47], [], [], 0)), (2, ([av_37, av_30, (vC 7), av_30], [], [], 0)), (2, ([av_37, av_30, (vC 7), av_47], [], [], 0)), (2, ([av_37, av_30, (vC 8), av_30], [], [], 0)), (2, ([av_37, av_30, (vC 8), av_47], [], [], 0)), (2, ([av_37, av_30, (vC 9), av_30], [], [], 0)), (2, ([av_37, av_30, (vC 9), av_47], [], [], 0)), (2, ([av_37, av_30, (vC 10), av_30], [], [], 0)), (2, ([av_37, av_30, (vC 10), av_47], [], [], 0)), (2, ([av_37, av_30, (vC 11), av_30], [], [], 0)), (2, ([av_37, av_30, (vC 11), av_47], [], [], 0)), (2, ([av_37, av_30, (vC 12), av_30], [], [], 0)), (2, ([av_37, av_30, (vC 12), av_47], [], [], 0))]
set_option maxRecDepth 100000 in
theorem k_Hubcascade_hasTransferWithin_0 : vi_chk vK vSG 4 0 vFT_X9 fp_Hubcascade_hasTransferWithin_0 vCT_X9 vC2_X9 [] mt_Hubcascade_hasTransferWithin_0 cX9_hasTransferWithin [2] 400 pt_Hubcascade_hasTransferWithin_0_0 q_Hubcascade_hasTransferWithin_0 [] = true := by decide +kernel
set_option maxHeartbeats 4000000 in
theorem m_Hubcascade_hasTransferWithin_0 (l : Launch) (D : va_G) (cy : Nat → ClassId) (hst : l.stackTraces = false) : vi_Mn l D cy vK vSG yX9_hasTransferWithin (Cond.code yX9_hasTransferWithin cX9_hasTransferWithin 4 (some .boolean) :: vWall) 1 23 q_Hubcascade_hasTransferWithin_0 := by
  refine vi_Mn_of (own := RX9) (J := [2]) (f := 400) (FT := vFT_X9) (FP := fp_Hubcascade_hasTransferWithin_0) (CT := vCT_X9) (C2 := vC2_X9) (MT := mt_Hubcascade_hasTransferWithin_0) (by decide) rfl rfl rfl (by decide +kernel) (by decide +kernel) (vK_ty cy) k_Hubcascade_hasTransferWithin_0 ?_
  · intro p e s m below meth c ad τ w av S hK hN hs
    refine ⟨vfg_X9 S hK hN, ?_, vct_X9 S, vc2_X9 S, ?_⟩
    · exact fun i ci k d9 h => by cases h
    · refine vi_f4 (L := mt_Hubcascade_hasTransferWithin_0) ?_
      refine List.forall_mem_cons.mpr ⟨(List.forall_mem_cons.mpr ⟨⟨rfl, vi_crS S (m_Hubcascade_isSameOrBelow_0 l D cy hst) (cwS 2 S.2.2.2.2 (vgS (vm_5 _ (List.mem_of_getElem? (i := 32) rfl)) (vm_5 _ (List.mem_of_getElem? (i := 33) rfl)) (vm_4 _ (List.mem_of_getElem? (i := 20) rfl)) (vm_5 _ (List.mem_of_getElem? (i := 6) rfl))) rfl rfl rfl ⟨rfl, by decide, by decide, by decide +kernel⟩ ⟨Nat.le_of_ble_eq_true rfl, Nat.le_of_ble_eq_true rfl⟩) rfl hK hN hs (fun w1 w2 h1 h2 => vi_kept_tr (by decide +kernel) h1 h2) (fun q hq => Or.inr hq) ⟨Nat.le_refl _, Nat.le_refl _⟩⟩, (fun ct2 h2 => by cases h2)⟩), ?_⟩
      exact fun q hq => by cases hq
end VC
