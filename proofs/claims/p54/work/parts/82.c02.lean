section VC
noncomputable def q_Hubcascade_unplug_0 : VCt := ([av_37, av_6], [], [([av_13], [av_38, av_15], [], [])], [(6, 7, 4), (6, 8, 4), (6, 10, 4), (6, 11, 4), (6, 12, 4), (6, 13, 4), (6, 14, 4), (6, 16, 4), (6, 17, 4), (7, 2, 5), (8, 4, 19), (8, 5, 19), (8, 6, 19), (8, 7, 19), (10, 1, 7), (10, 2, 7), (10, 12, 7), (10, 13, 7), (200, 12, 0), (200, 13, 0), (200, 14, 0), (200, 21, 0)], 2)
noncomputable def mt_Hubcascade_unplug_0 : List (Nat × Bool × Nat × List VCt) := [(185, false, 2, [q_Hubcascade_deviceBelowHost_0]), (190, false, 3, [q_Hubcascade_detach_0])]
noncomputable def fp_Hubcascade_unplug_0 : List (Nat × Nat × Nat × Nat) := []
noncomputable def pt_Hubcascade_unplug_0_0 : List (Nat × VS) := [(0, ([av_37, av_6, av_38], [], [], 0))]
set_option maxRecDepth 100000 in
theorem k_Hubcascade_unplug_0 : vi_chk vK vSG 3 q_Hubcascade_unplug_0.2.2.2.2 vFT_X9 fp_Hubcascade_unplug_0 vCT_X9 vC2_X9 [15] mt_Hubcascade_unplug_0 cX9_unplug [] 400 pt_Hubcascade_unplug_0_0 q_Hubcascade_unplug_0 [] = true := by decide +kernel
set_option maxHeartbeats 4000000 in
theorem m_Hubcascade_unplug_0 (l : Launch) (D : va_G) (cy : Nat → ClassId) (hst : l.stackTraces = false) : vi_Mx l D cy vK vSG yX9_unplug (Cond.code yX9_unplug cX9_unplug 3 (some .int) :: vWall) 8 132 q_Hubcascade_unplug_0 ["java/lang/IndexOutOfBoundsException", "java/lang/UnsupportedOperationException"] := by
  refine vi_Mx_of (own := RX9) (J := []) (f := 400) (XP := [15]) (FT := vFT_X9) (FP := fp_Hubcascade_unplug_0) (CT := vCT_X9) (C2 := vC2_X9) (MT := mt_Hubcascade_unplug_0) (by decide) rfl rfl (by decide +kernel) (by decide +kernel) (vK_ty cy) k_Hubcascade_unplug_0 ?_
  · intro p e s m below meth c ad τ w av S hK hN hs hT hout hlocks
    refine ⟨vfg_X9 S hK hN, ?_, vct_X9 S, vc2_X9 S, ?_, ?_⟩
    · exact fun i ci k d9 h => by cases h
    · refine vi_f4 (L := mt_Hubcascade_unplug_0) ?_
      refine List.forall_mem_cons.mpr ⟨(List.forall_mem_cons.mpr ⟨⟨rfl, vi_crX S (m_Hubcascade_deviceBelowHost_0 l D cy hst) (cwV 1 S.2.2.2.2 (vgV (vm_6 _ (List.mem_of_getElem? (i := 0) rfl)) (vm_6 _ (List.mem_of_getElem? (i := 1) rfl)) (vm_6 _ (List.mem_of_getElem? (i := 2) rfl)) (vm_4 _ (List.mem_of_getElem? (i := 20) rfl)) (vm_5 _ (List.mem_of_getElem? (i := 5) rfl))) rfl rfl rfl ⟨rfl, by decide, by decide, by decide +kernel⟩ ⟨Nat.le_of_ble_eq_true rfl, Nat.le_of_ble_eq_true rfl⟩) rfl ⟨_, _, _, _, _, _, rfl, rfl, rfl, rfl⟩ hK hN hs hT (fun w1 w2 h1 h2 => vi_kept_tr (by decide +kernel) h1 h2) (fun _ h => h) ⟨Nat.le_refl _, Nat.le_refl _⟩ (by decide) hout hlocks (Nat.le_refl _)⟩, (fun ct2 h2 => by cases h2)⟩), ?_⟩
      refine List.forall_mem_cons.mpr ⟨(List.forall_mem_cons.mpr ⟨⟨rfl, vi_crV S (m_Hubcascade_detach_0 l D cy hst) (cwV 2 S.2.2.2.2 (vgV (vm_6 _ (List.mem_of_getElem? (i := 3) rfl)) (vm_6 _ (List.mem_of_getElem? (i := 4) rfl)) (vm_6 _ (List.mem_of_getElem? (i := 5) rfl)) (vm_4 _ (List.mem_of_getElem? (i := 20) rfl)) (vm_5 _ (List.mem_of_getElem? (i := 39) rfl))) rfl rfl rfl ⟨rfl, by decide, by decide, by decide +kernel⟩ ⟨Nat.le_of_ble_eq_true rfl, Nat.le_of_ble_eq_true rfl⟩) rfl ⟨_, _, _, _, _, _, rfl, rfl, rfl, rfl⟩ hK hN hs (fun w1 w2 h1 h2 => vi_kept_tr (by decide +kernel) h1 h2) (fun q hq => Or.inr hq) ⟨Nat.le_refl _, Nat.le_refl _⟩⟩, (fun ct2 h2 => by cases h2)⟩), ?_⟩
      exact fun q hq => by cases hq
    · refine List.forall_mem_cons.mpr ⟨vi_throwS (WS := _ :: vWall) (text := "it is not plugged") (ik := 139) (is := 188) (ic := 143) (X := "java/lang/UnsupportedOperationException") S.1 S.2.1 hst S.2.2.2.2 S.2.2.2.1 (by decide) (by decide) hT (by decide) (List.mem_cons_of_mem _ (vm_4 _ (List.mem_of_getElem? (i := 27) rfl))) (List.mem_cons_of_mem _ (vm_4 _ (List.mem_of_getElem? (i := 28) rfl))) (fun w h => List.mem_cons_of_mem _ (vmx_1 w h)) (by decide +kernel) (by decide +kernel) (by decide) S.2.2.1 (by decide +kernel) (by decide +kernel) (by decide +kernel) (by decide +kernel) (by decide +kernel) hout hlocks (Nat.le_of_ble_eq_true rfl) (Nat.le_of_ble_eq_true rfl) ⟨Nat.le_refl _, Nat.le_refl _⟩ (Nat.le_refl _) (fun _ h => h), ?_⟩
      exact fun q hq => by cases hq
end VC
section VC
noncomputable def q_Hubcascade_stateOf_0 : VCt := ([av_37, av_6], [], [([av_16], [av_38, av_15], [], [])], [], 1)
noncomputable def mt_Hubcascade_stateOf_0 : List (Nat × Bool × Nat × List VCt) := [(124, false, 2, [q_Hubcascade_deviceAt_0])]
noncomputable def fp_Hubcascade_stateOf_0 : List (Nat × Nat × Nat × Nat) := []
noncomputable def pt_Hubcascade_stateOf_0_0 : List (Nat × VS) := [(0, ([av_37, av_6], [], [], 0))]
set_option maxRecDepth 100000 in
theorem k_Hubcascade_stateOf_0 : vi_chk vK vSG 2 q_Hubcascade_stateOf_0.2.2.2.2 vFT_X9 fp_Hubcascade_stateOf_0 vCT_X9 vC2_X9 [] mt_Hubcascade_stateOf_0 cX9_stateOf [] 400 pt_Hubcascade_stateOf_0_0 q_Hubcascade_stateOf_0 [] = true := by decide +kernel
set_option maxHeartbeats 4000000 in
theorem m_Hubcascade_stateOf_0 (l : Launch) (D : va_G) (cy : Nat → ClassId) (hst : l.stackTraces = false) : vi_Mx l D cy vK vSG yX9_stateOf (Cond.code yX9_stateOf cX9_stateOf 2 (some .char) :: vWall) 7 111 q_Hubcascade_stateOf_0 ["java/lang/IndexOutOfBoundsException"] := by
  refine vi_Mx_of (own := RX9) (J := []) (f := 400) (XP := []) (FT := vFT_X9) (FP := fp_Hubcascade_stateOf_0) (CT := vCT_X9) (C2 := vC2_X9) (MT := mt_Hubcascade_stateOf_0) (by decide) rfl rfl (by decide +kernel) (by decide +kernel) (vK_ty cy) k_Hubcascade_stateOf_0 ?_
  · intro p e s m below meth c ad τ w av S hK hN hs hT hout hlocks
    refine ⟨vfg_X9 S hK hN, ?_, vct_X9 S, vc2_X9 S, ?_, ?_⟩
    · exact fun i ci k d9 h => by cases h
    · refine vi_f4 (L := mt_Hubcascade_stateOf_0) ?_
      refine List.forall_mem_cons.mpr ⟨(List.forall_mem_cons.mpr ⟨⟨rfl, vi_crX S (m_Hubcascade_deviceAt_0 l D cy hst) (cwV 1 S.2.2.2.2 (vgV (vm_4 _ (List.mem_of_getElem? (i := 29) rfl)) (vm_4 _ (List.mem_of_getElem? (i := 30) rfl)) (vm_4 _ (List.mem_of_getElem? (i := 31) rfl)) (vm_4 _ (List.mem_of_getElem? (i := 20) rfl)) (vm_4 _ (List.mem_of_getElem? (i := 23) rfl))) rfl rfl rfl ⟨rfl, by decide, by decide, by decide +kernel⟩ ⟨Nat.le_of_ble_eq_true rfl, Nat.le_of_ble_eq_true rfl⟩) rfl ⟨_, _, _, _, _, _, rfl, rfl, rfl, rfl⟩ hK hN hs hT (fun w1 w2 h1 h2 => vi_kept_tr (by decide +kernel) h1 h2) (fun _ h => h) ⟨Nat.le_refl _, Nat.le_refl _⟩ (by decide) hout hlocks (Nat.le_refl _)⟩, (fun ct2 h2 => by cases h2)⟩), ?_⟩
      exact fun q hq => by cases hq
    · exact fun q hq => by cases hq
end VC
section VC
noncomputable def q_Hubcascade_hubOf_0 : VCt := ([av_37, av_6], [], [([av_57], [av_38, av_15], [], [])], [], 1)
noncomputable def mt_Hubcascade_hubOf_0 : List (Nat × Bool × Nat × List VCt) := [(124, false, 2, [q_Hubcascade_deviceAt_0])]
noncomputable def fp_Hubcascade_hubOf_0 : List (Nat × Nat × Nat × Nat) := []
noncomputable def pt_Hubcascade_hubOf_0_0 : List (Nat × VS) := [(0, ([av_37, av_6, av_38], [], [], 0))]
set_option maxRecDepth 100000 in
theorem k_Hubcascade_hubOf_0 : vi_chk vK vSG 3 q_Hubcascade_hubOf_0.2.2.2.2 vFT_X9 fp_Hubcascade_hubOf_0 vCT_X9 vC2_X9 [] mt_Hubcascade_hubOf_0 cX9_hubOf [] 400 pt_Hubcascade_hubOf_0_0 q_Hubcascade_hubOf_0 [] = true := by decide +kernel
set_option maxHeartbeats 4000000 in
theorem m_Hubcascade_hubOf_0 (l : Launch) (D : va_G) (cy : Nat → ClassId) (hst : l.stackTraces = false) : vi_Mx l D cy vK vSG yX9_hubOf (Cond.code yX9_hubOf cX9_hubOf 3 (some .int) :: vWall) 7 111 q_Hubcascade_hubOf_0 ["java/lang/IndexOutOfBoundsException"] := by
  refine vi_Mx_of (own := RX9) (J := []) (f := 400) (XP := []) (FT := vFT_X9) (FP := fp_Hubcascade_hubOf_0) (CT := vCT_X9) (C2 := vC2_X9) (MT := mt_Hubcascade_hubOf_0) (by decide) rfl rfl (by decide +kernel) (by decide +kernel) (vK_ty cy) k_Hubcascade_hubOf_0 ?_
  · intro p e s m below meth c ad τ w av S hK hN hs hT hout hlocks
    refine ⟨vfg_X9 S hK hN, ?_, vct_X9 S, vc2_X9 S, ?_, ?_⟩
    · exact fun i ci k d9 h => by cases h
    · refine vi_f4 (L := mt_Hubcascade_hubOf_0) ?_
      refine List.forall_mem_cons.mpr ⟨(List.forall_mem_cons.mpr ⟨⟨rfl, vi_crX S (m_Hubcascade_deviceAt_0 l D cy hst) (cwV 1 S.2.2.2.2 (vgV (vm_4 _ (List.mem_of_getElem? (i := 29) rfl)) (vm_4 _ (List.mem_of_getElem? (i := 30) rfl)) (vm_4 _ (List.mem_of_getElem? (i := 31) rfl)) (vm_4 _ (List.mem_of_getElem? (i := 20) rfl)) (vm_4 _ (List.mem_of_getElem? (i := 23) rfl))) rfl rfl rfl ⟨rfl, by decide, by decide, by decide +kernel⟩ ⟨Nat.le_of_ble_eq_true rfl, Nat.le_of_ble_eq_true rfl⟩) rfl ⟨_, _, _, _, _, _, rfl, rfl, rfl, rfl⟩ hK hN hs hT (fun w1 w2 h1 h2 => vi_kept_tr (by decide +kernel) h1 h2) (fun _ h => h) ⟨Nat.le_refl _, Nat.le_refl _⟩ (by decide) hout hlocks (Nat.le_refl _)⟩, (fun ct2 h2 => by cases h2)⟩), ?_⟩
      exact fun q hq => by cases hq
    · exact fun q hq => by cases hq
end VC
section VC
noncomputable def q_Hubcascade_depthOf_0 : VCt := ([av_37, av_6], [], [([av_6], [av_38, av_15], [], [])], [], 1)
noncomputable def mt_Hubcascade_depthOf_0 : List (Nat × Bool × Nat × List VCt) := [(124, false, 2, [q_Hubcascade_deviceAt_0])]
noncomputable def fp_Hubcascade_depthOf_0 : List (Nat × Nat × Nat × Nat) := []
noncomputable def pt_Hubcascade_depthOf_0_0 : List (Nat × VS) := [(0, ([av_37, av_6], [], [], 0))]
set_option maxRecDepth 100000 in
theorem k_Hubcascade_depthOf_0 : vi_chk vK vSG 2 q_Hubcascade_depthOf_0.2.2.2.2 vFT_X9 fp_Hubcascade_depthOf_0 vCT_X9 vC2_X9 [] mt_Hubcascade_depthOf_0 cX9_depthOf [] 400 pt_Hubcascade_depthOf_0_0 q_Hubcascade_depthOf_0 [] = true := by decide +kernel
set_option maxHeartbeats 4000000 in
theorem m_Hubcascade_depthOf_0 (l : Launch) (D : va_G) (cy : Nat → ClassId) (hst : l.stackTraces = false) : vi_Mx l D cy vK vSG yX9_depthOf (Cond.code yX9_depthOf cX9_depthOf 2 (some .int) :: vWall) 7 111 q_Hubcascade_depthOf_0 ["java/lang/IndexOutOfBoundsException"] := by
  refine vi_Mx_of (own := RX9) (J := []) (f := 400) (XP := []) (FT := vFT_X9) (FP := fp_Hubcascade_depthOf_0) (CT := vCT_X9) (C2 := vC2_X9) (MT := mt_Hubcascade_depthOf_0) (by decide) rfl rfl (by decide +kernel) (by decide +kernel) (vK_ty cy) k_Hubcascade_depthOf_0 ?_
  · intro p e s m below meth c ad τ w av S hK hN hs hT hout hlocks
    refine ⟨vfg_X9 S hK hN, ?_, vct_X9 S, vc2_X9 S, ?_, ?_⟩
    · exact fun i ci k d9 h => by cases h
    · refine vi_f4 (L := mt_Hubcascade_depthOf_0) ?_
      refine List.forall_mem_cons.mpr ⟨(List.forall_mem_cons.mpr ⟨⟨rfl, vi_crX S (m_Hubcascade_deviceAt_0 l D cy hst) (cwV 1 S.2.2.2.2 (vgV (vm_4 _ (List.mem_of_getElem? (i := 29) rfl)) (vm_4 _ (List.mem_of_getElem? (i := 30) rfl)) (vm_4 _ (List.mem_of_getElem? (i := 31) rfl)) (vm_4 _ (List.mem_of_getElem? (i := 20) rfl)) (vm_4 _ (List.mem_of_getElem? (i := 23) rfl))) rfl rfl rfl ⟨rfl, by decide, by decide, by decide +kernel⟩ ⟨Nat.le_of_ble_eq_true rfl, Nat.le_of_ble_eq_true rfl⟩) rfl ⟨_, _, _, _, _, _, rfl, rfl, rfl, rfl⟩ hK hN hs hT (fun w1 w2 h1 h2 => vi_kept_tr (by decide +kernel) h1 h2) (fun _ h => h) ⟨Nat.le_refl _, Nat.le_refl _⟩ (by decide) hout hlocks (Nat.le_refl _)⟩, (fun ct2 h2 => by cases h2)⟩), ?_⟩
      exact fun q hq => by cases hq
    · exact fun q hq => by cases hq
end VC
section VC
noncomputable def q_Hubcascade_speedOf_0 : VCt := ([av_37, av_6], [], [([av_16], [av_38, av_15], [], [])], [], 1)
noncomputable def mt_Hubcascade_speedOf_0 : List (Nat × Bool × Nat × List VCt) := [(124, false, 2, [q_Hubcascade_deviceAt_0])]
noncomputable def fp_Hubcascade_speedOf_0 : List (Nat × Nat × Nat × Nat) := []
noncomputable def pt_Hubcascade_speedOf_0_0 : List (Nat × VS) := [(0, ([av_37, av_6], [], [], 0))]
set_option maxRecDepth 100000 in
theorem k_Hubcascade_speedOf_0 : vi_chk vK vSG 2 q_Hubcascade_speedOf_0.2.2.2.2 vFT_X9 fp_Hubcascade_speedOf_0 vCT_X9 vC2_X9 [] mt_Hubcascade_speedOf_0 cX9_speedOf [] 400 pt_Hubcascade_speedOf_0_0 q_Hubcascade_speedOf_0 [] = true := by decide +kernel
set_option maxHeartbeats 4000000 in
theorem m_Hubcascade_speedOf_0 (l : Launch) (D : va_G) (cy : Nat → ClassId) (hst : l.stackTraces = false) : vi_Mx l D cy vK vSG yX9_speedOf (Cond.code yX9_speedOf cX9_speedOf 2 (some .char) :: vWall) 7 111 q_Hubcascade_speedOf_0 ["java/lang/IndexOutOfBoundsException"] := by
  refine vi_Mx_of (own := RX9) (J := []) (f := 400) (XP := []) (FT := vFT_X9) (FP := fp_Hubcascade_speedOf_0) (CT := vCT_X9) (C2 := vC2_X9) (MT := mt_Hubcascade_speedOf_0) (by decide) rfl rfl (by decide +kernel) (by decide +kernel) (vK_ty cy) k_Hubcascade_speedOf_0 ?_
  · intro p e s m below meth c ad τ w av S hK hN hs hT hout hlocks
    refine ⟨vfg_X9 S hK hN, ?_, vct_X9 S, vc2_X9 S, ?_, ?_⟩
    · exact fun i ci k d9 h => by cases h
    · refine vi_f4 (L := mt_Hubcascade_speedOf_0) ?_
      refine List.forall_mem_cons.mpr ⟨(List.forall_mem_cons.mpr ⟨⟨rfl, vi_crX S (m_Hubcascade_deviceAt_0 l D cy hst) (cwV 1 S.2.2.2.2 (vgV (vm_4 _ (List.mem_of_getElem? (i := 29) rfl)) (vm_4 _ (List.mem_of_getElem? (i := 30) rfl)) (vm_4 _ (List.mem_of_getElem? (i := 31) rfl)) (vm_4 _ (List.mem_of_getElem? (i := 20) rfl)) (vm_4 _ (List.mem_of_getElem? (i := 23) rfl))) rfl rfl rfl ⟨rfl, by decide, by decide, by decide +kernel⟩ ⟨Nat.le_of_ble_eq_true rfl, Nat.le_of_ble_eq_true rfl⟩) rfl ⟨_, _, _, _, _, _, rfl, rfl, rfl, rfl⟩ hK hN hs hT (fun w1 w2 h1 h2 => vi_kept_tr (by decide +kernel) h1 h2) (fun _ h => h) ⟨Nat.le_refl _, Nat.le_refl _⟩ (by decide) hout hlocks (Nat.le_refl _)⟩, (fun ct2 h2 => by cases h2)⟩), ?_⟩
      exact fun q hq => by cases hq
    · exact fun q hq => by cases hq
end VC
section VC
noncomputable def q_Hubcascade_translator_0 : VCt := ([av_37, av_6], [], [([av_6], [av_38, av_15], [], [])], [], 2)
noncomputable def mt_Hubcascade_translator_0 : List (Nat × Bool × Nat × List VCt) := [(124, false, 2, [q_Hubcascade_deviceAt_0])]
noncomputable def fp_Hubcascade_translator_0 : List (Nat × Nat × Nat × Nat) := []
noncomputable def pt_Hubcascade_translator_0_0 : List (Nat × VS) := [(0, ([av_37, av_6, av_38], [], [], 0))]
set_option maxRecDepth 100000 in
theorem k_Hubcascade_translator_0 : vi_chk vK vSG 3 q_Hubcascade_translator_0.2.2.2.2 vFT_X9 fp_Hubcascade_translator_0 vCT_X9 vC2_X9 [13] mt_Hubcascade_translator_0 cX9_translator [] 400 pt_Hubcascade_translator_0_0 q_Hubcascade_translator_0 [] = true := by decide +kernel
set_option maxHeartbeats 4000000 in
theorem m_Hubcascade_translator_0 (l : Launch) (D : va_G) (cy : Nat → ClassId) (hst : l.stackTraces = false) : vi_Mx l D cy vK vSG yX9_translator (Cond.code yX9_translator cX9_translator 3 (some .int) :: vWall) 7 111 q_Hubcascade_translator_0 ["java/lang/IndexOutOfBoundsException", "java/lang/UnsupportedOperationException"] := by
  refine vi_Mx_of (own := RX9) (J := []) (f := 400) (XP := [13]) (FT := vFT_X9) (FP := fp_Hubcascade_translator_0) (CT := vCT_X9) (C2 := vC2_X9) (MT := mt_Hubcascade_translator_0) (by decide) rfl rfl (by decide +kernel) (by decide +kernel) (vK_ty cy) k_Hubcascade_translator_0 ?_
  · intro p e s m below meth c ad τ w av S hK hN hs hT hout hlocks
    refine ⟨vfg_X9 S hK hN, ?_, vct_X9 S, vc2_X9 S, ?_, ?_⟩
    · exact fun i ci k d9 h => by cases h
    · refine vi_f4 (L := mt_Hubcascade_translator_0) ?_
      refine List.forall_mem_cons.mpr ⟨(List.forall_mem_cons.mpr ⟨⟨rfl, vi_crX S (m_Hubcascade_deviceAt_0 l D cy hst) (cwV 1 S.2.2.2.2 (vgV (vm_4 _ (List.mem_of_getElem? (i := 29) rfl)) (vm_4 _ (List.mem_of_getElem? (i := 30) rfl)) (vm_4 _ (List.mem_of_getElem? (i := 31) rfl)) (vm_4 _ (List.mem_of_getElem? (i := 20) rfl)) (vm_4 _ (List.mem_of_getElem? (i := 23) rfl))) rfl rfl rfl ⟨rfl, by decide, by decide, by decide +kernel⟩ ⟨Nat.le_of_ble_eq_true rfl, Nat.le_of_ble_eq_true rfl⟩) rfl ⟨_, _, _, _, _, _, rfl, rfl, rfl, rfl⟩ hK hN hs hT (fun w1 w2 h1 h2 => vi_kept_tr (by decide +kernel) h1 h2) (fun _ h => h) ⟨Nat.le_refl _, Nat.le_refl _⟩ (by decide) hout hlocks (Nat.le_refl _)⟩, (fun ct2 h2 => by cases h2)⟩), ?_⟩
      exact fun q hq => by cases hq
    · refine List.forall_mem_cons.mpr ⟨vi_throwS (WS := _ :: vWall) (text := "it is in no hub") (ik := 139) (is := 194) (ic := 143) (X := "java/lang/UnsupportedOperationException") S.1 S.2.1 hst S.2.2.2.2 S.2.2.2.1 (by decide) (by decide) hT (by decide) (List.mem_cons_of_mem _ (vm_4 _ (List.mem_of_getElem? (i := 27) rfl))) (List.mem_cons_of_mem _ (vm_4 _ (List.mem_of_getElem? (i := 28) rfl))) (fun w h => List.mem_cons_of_mem _ (vmx_1 w h)) (by decide +kernel) (by decide +kernel) (by decide) S.2.2.1 (by decide +kernel) (by decide +kernel) (by decide +kernel) (by decide +kernel) (by decide +kernel) hout hlocks (Nat.le_of_ble_eq_true rfl) (Nat.le_of_ble_eq_true rfl) ⟨Nat.le_refl _, Nat.le_refl _⟩ (Nat.le_refl _) (fun _ h => h), ?_⟩
      exact fun q hq => by cases hq
end VC
section VC
noncomputable def q_Hubcascade_addressOf_0 : VCt := ([av_37, av_6], [], [([av_6], [av_38, av_15], [], [])], [], 1)
noncomputable def mt_Hubcascade_addressOf_0 : List (Nat × Bool × Nat × List VCt) := [(124, false, 2, [q_Hubcascade_deviceAt_0])]
noncomputable def fp_Hubcascade_addressOf_0 : List (Nat × Nat × Nat × Nat) := []
noncomputable def pt_Hubcascade_addressOf_0_0 : List (Nat × VS) := [(0, ([av_37, av_6], [], [], 0))]
set_option maxRecDepth 100000 in
theorem k_Hubcascade_addressOf_0 : vi_chk vK vSG 2 q_Hubcascade_addressOf_0.2.2.2.2 vFT_X9 fp_Hubcascade_addressOf_0 vCT_X9 vC2_X9 [] mt_Hubcascade_addressOf_0 cX9_addressOf [] 400 pt_Hubcascade_addressOf_0_0 q_Hubcascade_addressOf_0 [] = true := by decide +kernel
set_option maxHeartbeats 4000000 in
theorem m_Hubcascade_addressOf_0 (l : Launch) (D : va_G) (cy : Nat → ClassId) (hst : l.stackTraces = false) : vi_Mx l D cy vK vSG yX9_addressOf (Cond.code yX9_addressOf cX9_addressOf 2 (some .int) :: vWall) 7 111 q_Hubcascade_addressOf_0 ["java/lang/IndexOutOfBoundsException"] := by
  refine vi_Mx_of (own := RX9) (J := []) (f := 400) (XP := []) (FT := vFT_X9) (FP := fp_Hubcascade_addressOf_0) (CT := vCT_X9) (C2 := vC2_X9) (MT := mt_Hubcascade_addressOf_0) (by decide) rfl rfl (by decide +kernel) (by decide +kernel) (vK_ty cy) k_Hubcascade_addressOf_0 ?_
  · intro p e s m below meth c ad τ w av S hK hN hs hT hout hlocks
    refine ⟨vfg_X9 S hK hN, ?_, vct_X9 S, vc2_X9 S, ?_, ?_⟩
    · exact fun i ci k d9 h => by cases h
    · refine vi_f4 (L := mt_Hubcascade_addressOf_0) ?_
      refine List.forall_mem_cons.mpr ⟨(List.forall_mem_cons.mpr ⟨⟨rfl, vi_crX S (m_Hubcascade_deviceAt_0 l D cy hst) (cwV 1 S.2.2.2.2 (vgV (vm_4 _ (List.mem_of_getElem? (i := 29) rfl)) (vm_4 _ (List.mem_of_getElem? (i := 30) rfl)) (vm_4 _ (List.mem_of_getElem? (i := 31) rfl)) (vm_4 _ (List.mem_of_getElem? (i := 20) rfl)) (vm_4 _ (List.mem_of_getElem? (i := 23) rfl))) rfl rfl rfl ⟨rfl, by decide, by decide, by decide +kernel⟩ ⟨Nat.le_of_ble_eq_true rfl, Nat.le_of_ble_eq_true rfl⟩) rfl ⟨_, _, _, _, _, _, rfl, rfl, rfl, rfl⟩ hK hN hs hT (fun w1 w2 h1 h2 => vi_kept_tr (by decide +kernel) h1 h2) (fun _ h => h) ⟨Nat.le_refl _, Nat.le_refl _⟩ (by decide) hout hlocks (Nat.le_refl _)⟩, (fun ct2 h2 => by cases h2)⟩), ?_⟩
      exact fun q hq => by cases hq
    · exact fun q hq => by cases hq
end VC
section VC
noncomputable def q_Hubcascade_firstNewDevice_0 : VCt := ([av_37], [], [([av_30], [], [], []), ([av_47], [], [], [])], [], 0)
noncomputable def mt_Hubcascade_firstNewDevice_0 : List (Nat × Bool × Nat × List VCt) := []
noncomputable def fp_Hubcascade_firstNewDevice_0 : List (Nat × Nat × Nat × Nat) := []
noncomputable def pt_Hubcascade_firstNewDevice_0_0 : List (Nat × VS) := [(0, ([av_37, av_38, av_38, av_38, av_38], [], [], 0)), (4, ([av_37, av_47, (vC 0), av_38, av_38], [], [], 0)), (4, ([av_37, av_30, (vC 1), av_30, (vC 1)], [], [(ao_58, av_30), (ao_59, (vC 110))], 0)), (4, ([av_37, av_47, (vC 1), av_30, (vC 0)], [], [(ao_59, av_16)], 0)), (4, ([av_37, av_30, (vC 2), av_30, av_17], [], [(ao_59, av_16)], 0)), (4, ([av_37, av_47, (vC 2), av_30, (vC 0)], [], [(ao_59, av_16)], 0)), (4, ([av_37, av_30, (vC 3), av_30, av_17], [], [(ao_59, av_16)], 0)), (4, ([av_37, av_47, (vC 3), av_30, (vC 0)], [], [(ao_59, av_16)], 0)), (4, ([av_37, av_30, (vC 4), av_30, av_17], [], [(ao_59, av_16)], 0)), (4, ([av_37, av_47, (vC 4), av_30, (vC 0)], [], [(ao_59, av_16)], 0)), (4, ([av_37, av_30, (vC 5), av_30, av_17], [], [(ao_59, av_16)], 0)), (4, ([av_37, av_47, (vC 5), av_30, (vC 0)], [], [(ao_59, av_16)], 0)), (4, ([av_37, av_30, (vC 6), av_30, av_17], [], [(ao_59, av_16)], 0)), (4, ([av_37, av_47, (vC 6), av_30, (vC 0)], [], [(ao_59, av_16)], 0)), (4, ([av_37, av_30, (vC 7), av_30, av_17], [], [(ao_59, av_16)], 0)), (4, ([av_37, av_47, (vC 7), av_30, (vC 0)], [], [(ao_59, av_16)], 0)), (4, ([av_37, av_30, (vC 8), av_30, av_17], [], [(ao_59, av_16)], 0)), (4, ([av_37, av_47, (vC 8), av_30, (vC 0)], [], [(ao_59, av_16)], 0)), (4, ([av_37, av_30, (vC 9), av_30, av_17], [], [(ao_59, av_16)], 0)), (4, ([av_37, av_47, (vC 9), av_30, (vC 0)], [], [(ao_59, av_16)], 0)), (4, ([av_37, av_30, (vC 10), av_30, av_17], [], [(ao_59, av_16)], 0)), (4, ([av_37, av_47, (vC 10), av_30, (vC 0)], [], [(ao_59, av_16)], 0)), (4, ([av_37, av_30, (vC 11), av_30, av_17], [], [(ao_59, av_16)], 0)), (4, ([av_37, av_47, (vC 11), av_30, (vC 0)], [], [(ao_59, av_16)], 0)), (4, ([av_37, av_30, (vC 12), av_30, av_17], [], [(ao_59, av_16)], 0)), (4, ([av_37, av_47, (vC 12), av_30, (vC 0)], [], [(ao_59, av_16)], 0)), (4, ([av_37, av_30, (vC 13), av_30, av_17], [], [(ao_59, av_16)], 0)), (4, ([av_37, av_47, (vC 13), av_30, (vC 0)], [], [(ao_59, av_16)], 0)), (4, ([av_37, av_30, (vC 14), av_30, av_17], [], [(ao_59, av_16)], 0)), (4, ([av_37, av_47, (vC 14), av_30, (vC 0)], [], [(ao_59, av_16)], 0)), (4, ([av_37, av_30, (vC 15), av_30, av_17], [], [(ao_59, av_16)], 0)), (4, ([av_37, av_47, (vC 15), av_30, (vC 0)], [], [(ao_59, av_16)], 0)), (4, ([av_37, av_30, (vC 16), av_30, av_17], [], [(ao_59, av_16)], 0)), (4, ([av_37, av_47, (vC 16), av_30, (vC 0)], [], [(ao_59, av_16)], 0))]
set_option maxRecDepth 100000 in
theorem k_Hubcascade_firstNewDevice_0 : vi_chk vK vSG 5 0 vFT_X9 fp_Hubcascade_firstNewDevice_0 vCT_X9 vC2_X9 [] mt_Hubcascade_firstNewDevice_0 cX9_firstNewDevice [4] 400 pt_Hubcascade_firstNewDevice_0_0 q_Hubcascade_firstNewDevice_0 [] = true := by decide +kernel
set_option maxHeartbeats 4000000 in
theorem m_Hubcascade_firstNewDevice_0 (l : Launch) (D : va_G) (cy : Nat → ClassId) (hst : l.stackTraces = false) : vi_Mn l D cy vK vSG yX9_firstNewDevice (Cond.code yX9_firstNewDevice cX9_firstNewDevice 5 (some (.object "Hubcascade$Device")) :: vWall) 0 0 q_Hubcascade_firstNewDevice_0 := by
  refine vi_Mn_of (own := RX9) (J := [4]) (f := 400) (FT := vFT_X9) (FP := fp_Hubcascade_firstNewDevice_0) (CT := vCT_X9) (C2 := vC2_X9) (MT := mt_Hubcascade_firstNewDevice_0) (by decide) rfl rfl rfl (by decide +kernel) (by decide +kernel) (vK_ty cy) k_Hubcascade_firstNewDevice_0 ?_
  · intro p e s m below meth c ad τ w av S hK hN hs
    refine ⟨vfg_X9 S hK hN, ?_, vct_X9 S, vc2_X9 S, ?_⟩
    · exact fun i ci k d9 h => by cases h
    · exact fun i sta k cts h => by cases h
end VC
section VC
noncomputable def q_Fault_use_0 : VCt := ([av_20], [], [([av_16], [], [], [])], [(9, 1, 6)], 0)
noncomputable def mt_Fault_use_0 : List (Nat × Bool × Nat × List VCt) := []
noncomputable def fp_Fault_use_0 : List (Nat × Nat × Nat × Nat) := [(15, 9, 1, 6)]
noncomputable def pt_Fault_use_0_0 : List (Nat × VS) := [(0, ([av_20], [], [], 0))]
set_option maxRecDepth 100000 in
theorem k_Fault_use_0 : vi_chk vK vSG 1 0 vFT_X4 fp_Fault_use_0 vCT_X4 vC2_X4 [] mt_Fault_use_0 cX4_use [] 400 pt_Fault_use_0_0 q_Fault_use_0 [] = true := by decide +kernel
set_option maxHeartbeats 4000000 in
theorem m_Fault_use_0 (l : Launch) (D : va_G) (cy : Nat → ClassId) (hst : l.stackTraces = false) : vi_Mn l D cy vK vSG yX4_use (Cond.code yX4_use cX4_use 1 (some .char) :: vWall) 0 0 q_Fault_use_0 := by
  refine vi_Mn_of (own := RX4) (J := []) (f := 400) (FT := vFT_X4) (FP := fp_Fault_use_0) (CT := vCT_X4) (C2 := vC2_X4) (MT := mt_Fault_use_0) (by decide) rfl rfl rfl (by decide +kernel) (by decide +kernel) (vK_ty cy) k_Fault_use_0 ?_
  · intro p e s m below meth c ad τ w av S hK hN hs
    refine ⟨vfg_X4 S hK hN, ?_, vct_X4 S, vc2_X4 S, ?_⟩
    · refine vi_f4 (L := fp_Fault_use_0) ?_
      refine List.forall_mem_cons.mpr ⟨fun d x fs b v h1 h2 h3 => vfp_X4_15_9_1 S hK hN (vTy_ok h1 h2 h3), ?_⟩
      exact fun q hq => by cases hq
    · exact fun i sta k cts h => by cases h
end VC
section VC
noncomputable def q_Hubcascade_answersControl_0 : VCt := ([av_37, av_30], [], [([(vC 0)], [], [], []), ([(vC 1)], [], [], [])], [(9, 1, 6), (11, 0, 20)], 0)
noncomputable def mt_Hubcascade_answersControl_0 : List (Nat × Bool × Nat × List VCt) := [(552, false, 1, [q_Fault_use_0])]
noncomputable def fp_Hubcascade_answersControl_0 : List (Nat × Nat × Nat × Nat) := [(418, 11, 0, 20)]
noncomputable def pt_Hubcascade_answersControl_0_0 : List (Nat × VS) := [(0, ([av_37, av_30, av_38, av_38, av_38], [], [], 0)), (2, ([av_37, av_30, (vC 0), av_38, av_38], [], [], 0)), (12, ([av_37, av_30, (vC 0), (vC 0), (vC 0)], [], [], 0)), (12, ([av_37, av_30, (vC 0), (vC 1), (vC 0)], [], [(ao_60, av_6)], 0)), (12, ([av_37, av_30, (vC 0), (vC 2), (vC 0)], [], [(ao_60, av_6)], 0)), (12, ([av_37, av_30, (vC 0), (vC 3), (vC 0)], [], [(ao_60, av_6)], 0)), (12, ([av_37, av_30, (vC 0), (vC 2), (vC 1)], [], [(ao_60, av_6)], 0)), (12, ([av_37, av_30, (vC 0), (vC 1), (vC 1)], [], [(ao_60, av_6)], 0)), (12, ([av_37, av_30, (vC 0), (vC 0), (vC 1)], [], [(ao_60, av_6)], 0)), (2, ([av_37, av_30, (vC 1), av_42, (vC 1)], [], [(ao_60, av_6)], 0)), (12, ([av_37, av_30, (vC 1), (vC 0), (vC 0)], [], [(ao_60, av_6)], 0)), (12, ([av_37, av_30, (vC 1), (vC 1), (vC 0)], [], [(ao_60, av_6)], 0)), (12, ([av_37, av_30, (vC 1), (vC 2), (vC 0)], [], [(ao_60, av_6)], 0)), (12, ([av_37, av_30, (vC 1), (vC 3), (vC 0)], [], [(ao_60, av_6)], 0)), (12, ([av_37, av_30, (vC 1), (vC 2), (vC 1)], [], [(ao_60, av_6)], 0)), (12, ([av_37, av_30, (vC 1), (vC 1), (vC 1)], [], [(ao_60, av_6)], 0)), (12, ([av_37, av_30, (vC 1), (vC 0), (vC 1)], [], [(ao_60, av_6)], 0)), (2, ([av_37, av_30, (vC 2), av_42, (vC 1)], [], [(ao_60, av_6)], 0)), (12, ([av_37, av_30, (vC 2), (vC 0), (vC 0)], [], [(ao_60, av_6)], 0)), (12, ([av_37, av_30, (vC 2), (vC 1), (vC 0)], [], [(ao_60, av_6)], 0)), (12, ([av_37, av_30, (vC 2), (vC 2), (vC 0)], [], [(ao_60, av_6)], 0)), (12, ([av_37, av_30, (vC 2), (vC 3), (vC 0)], [], [(ao_60, av_6)], 0)), (12, ([av_37, av_30, (vC 2), (vC 2), (vC 1)], [], [(ao_60, av_6)], 0)), (12, ([av_37, av_30, (vC 2), (vC 1), (vC 1)], [], [(ao_60, av_6)], 0)), (12, ([av_37, av_30, (vC 2), (vC 0), (vC 1)], [], [(ao_60, av_6)], 0)), (2, ([av_37, av_30, (vC 3), av_42, (vC 1)], [], [(ao_60, av_6)], 0)), (12, ([av_37, av_30, (vC 3), (vC 0), (vC 0)], [], [(ao_60, av_6)], 0)), (12, ([av_37, av_30, (vC 3), (vC 1), (vC 0)], [], [(ao_60, av_6)], 0)), (12, ([av_37, av_30, (vC 3), (vC 2), (vC 0)], [], [(ao_60, av_6)], 0)), (12, ([av_37, av_30, (vC 3), (vC 3), (vC 0)], [], [(ao_60, av_6)], 0)), (12, ([av_37, av_30, (vC 3), (vC 2), (vC 1)], [], [(ao_60, av_6)], 0)), (12, ([av_37, av_30, (vC 3), (vC 1), (vC 1)], [], [(ao_60, av_6)], 0)), (12, ([av_37, av_30, (vC 3), (vC 0), (vC 1)], [], [(ao_60, av_6)], 0)), (2, ([av_37, av_30, (vC 4), av_42, (vC 1)], [], [(ao_60, av_6)], 0)), (12, ([av_37, av_30, (vC 4), (vC 0), (vC 0)], [], [(ao_60, av_6)], 0)), (12, ([av_37, av_30, (vC 4), (vC 1), (vC 0)], [], [(ao_60, av_6)], 0)), (12, ([av_37, av_30, (vC 4), (vC 2), (vC 0)], [], [(ao_60, av_6)], 0)), (12, ([av_37, av_30, (vC 4), (vC 3), (vC 0)], [], [(ao_60, av_6)], 0)), (12, ([av_37, av_30, (vC 4), (vC 2), (vC 1)], [], [(ao_60, av_6)], 0)), (12, ([av_37, av_30, (vC 4), (vC 1), (vC 1)], [], [(ao_60, av_6)], 0)), (12, ([av_37, av_30, (vC 4), (vC 0), (vC 1)], [], [(ao_60, av_6)], 0)), (2, ([av_37, av_30, (vC 5), av_42, (vC 1)], [], [(ao_60, av_6)], 0))]
set_option maxRecDepth 100000 in
theorem k_Hubcascade_answersControl_0 : vi_chk vK vSG 5 0 vFT_X9 fp_Hubcascade_answersControl_0 vCT_X9 vC2_X9 [] mt_Hubcascade_answersControl_0 cX9_answersControl [2, 12] 400 pt_Hubcascade_answersControl_0_0 q_Hubcascade_answersControl_0 [] = true := by decide +kernel
set_option maxHeartbeats 4000000 in
theorem m_Hubcascade_answersControl_0 (l : Launch) (D : va_G) (cy : Nat → ClassId) (hst : l.stackTraces = false) : vi_Mn l D cy vK vSG yX9_answersControl (Cond.code yX9_answersControl cX9_answersControl 5 (some .boolean) :: vWall) 1 20 q_Hubcascade_answersControl_0 := by
  refine vi_Mn_of (own := RX9) (J := [2, 12]) (f := 400) (FT := vFT_X9) (FP := fp_Hubcascade_answersControl_0) (CT := vCT_X9) (C2 := vC2_X9) (MT := mt_Hubcascade_answersControl_0) (by decide) rfl rfl rfl (by decide +kernel) (by decide +kernel) (vK_ty cy) k_Hubcascade_answersControl_0 ?_
  · intro p e s m below meth c ad τ w av S hK hN hs
    refine ⟨vfg_X9 S hK hN, ?_, vct_X9 S, vc2_X9 S, ?_⟩
    · refine vi_f4 (L := fp_Hubcascade_answersControl_0) ?_
      refine List.forall_mem_cons.mpr ⟨fun d x fs b v h1 h2 h3 => vfp_X9_418_11_0 S hK hN (vTy_ok h1 h2 h3), ?_⟩
      exact fun q hq => by cases hq
    · refine vi_f4 (L := mt_Hubcascade_answersControl_0) ?_
      refine List.forall_mem_cons.mpr ⟨(List.forall_mem_cons.mpr ⟨⟨rfl, vi_crVN S (m_Fault_use_0 l D cy hst) ⟨va_cnB 0 S.2.2.2.2 (vgN (vm_1 _ (List.mem_of_getElem? (i := 34) rfl))) rfl rfl rfl (hN.1 _ nf_136) (S.2.2.2.2 _ (List.mem_cons_of_mem _ (vm_0 _ (List.mem_of_getElem? (i := 27) rfl)))) ⟨by decide, by decide, by decide +kernel⟩ ⟨Nat.le_of_ble_eq_true rfl, Nat.le_of_ble_eq_true rfl⟩, S.2.2.2.2 _ (List.mem_cons_of_mem _ (vm_6 _ (List.mem_of_getElem? (i := 15) rfl))), S.2.2.2.2 _ (List.mem_cons_of_mem _ (vm_6 _ (List.mem_of_getElem? (i := 16) rfl)))⟩ rfl ⟨_, _, _, _, _, _, rfl, rfl, rfl, rfl⟩ hK hN hs (fun w1 w2 h1 h2 => vi_kept_tr (by decide +kernel) h1 h2) (fun q hq => Or.inr hq) ⟨Nat.le_refl _, Nat.le_refl _⟩⟩, (fun ct2 h2 => by cases h2)⟩), ?_⟩
      exact fun q hq => by cases hq
end VC
