section VC
noncomputable def q_Hubcascade_isSpeed_0 : VCt := ([av_16], [], [([(vC 1)], [av_35], [], []), ([(vC 0)], [], [], [])], [], 0)
noncomputable def mt_Hubcascade_isSpeed_0 : List (Nat × Bool × Nat × List VCt) := []
noncomputable def fp_Hubcascade_isSpeed_0 : List (Nat × Nat × Nat × Nat) := []
noncomputable def pt_Hubcascade_isSpeed_0_0 : List (Nat × VS) := [(0, ([av_16], [], [], 0))]
set_option maxRecDepth 100000 in
theorem k_Hubcascade_isSpeed_0 : vi_chk vK vSG 1 0 vFT_X9 fp_Hubcascade_isSpeed_0 vCT_X9 vC2_X9 [] mt_Hubcascade_isSpeed_0 cX9_isSpeed [] 400 pt_Hubcascade_isSpeed_0_0 q_Hubcascade_isSpeed_0 [] = true := by decide +kernel
set_option maxHeartbeats 4000000 in
theorem m_Hubcascade_isSpeed_0 (l : Launch) (D : va_G) (cy : Nat → ClassId) (hst : l.stackTraces = false) : vi_Mn l D cy vK vSG yX9_isSpeed (Cond.code yX9_isSpeed cX9_isSpeed 1 (some .boolean) :: vWall) 0 0 q_Hubcascade_isSpeed_0 := by
  refine vi_Mn_of (own := RX9) (J := []) (f := 400) (FT := vFT_X9) (FP := fp_Hubcascade_isSpeed_0) (CT := vCT_X9) (C2 := vC2_X9) (MT := mt_Hubcascade_isSpeed_0) (by decide) rfl rfl rfl (by decide +kernel) (by decide +kernel) (vK_ty cy) k_Hubcascade_isSpeed_0 ?_
  · intro p e s m below meth c ad τ w av S hK hN hs
    refine ⟨vfg_X9 S hK hN, ?_, vct_X9 S, vc2_X9 S, ?_⟩
    · exact fun i ci k d9 h => by cases h
    · exact fun i sta k cts h => by cases h
end VC
section VC
noncomputable def q_Hubcascade_isWithin_0 : VCt := ([av_6, (vC 0), (vC 4)], [], [([(vC 0)], [], [], []), ([(vC 1)], [av_26], [], [])], [], 0)
noncomputable def mt_Hubcascade_isWithin_0 : List (Nat × Bool × Nat × List VCt) := []
noncomputable def fp_Hubcascade_isWithin_0 : List (Nat × Nat × Nat × Nat) := []
noncomputable def pt_Hubcascade_isWithin_0_0 : List (Nat × VS) := [(0, ([av_6, (vC 0), (vC 4)], [], [], 0))]
set_option maxRecDepth 100000 in
theorem k_Hubcascade_isWithin_0 : vi_chk vK vSG 3 0 vFT_X9 fp_Hubcascade_isWithin_0 vCT_X9 vC2_X9 [] mt_Hubcascade_isWithin_0 cX9_isWithin [] 400 pt_Hubcascade_isWithin_0_0 q_Hubcascade_isWithin_0 [] = true := by decide +kernel
set_option maxHeartbeats 4000000 in
theorem m_Hubcascade_isWithin_0 (l : Launch) (D : va_G) (cy : Nat → ClassId) (hst : l.stackTraces = false) : vi_Mn l D cy vK vSG yX9_isWithin (Cond.code yX9_isWithin cX9_isWithin 3 (some .boolean) :: vWall) 0 0 q_Hubcascade_isWithin_0 := by
  refine vi_Mn_of (own := RX9) (J := []) (f := 400) (FT := vFT_X9) (FP := fp_Hubcascade_isWithin_0) (CT := vCT_X9) (C2 := vC2_X9) (MT := mt_Hubcascade_isWithin_0) (by decide) rfl rfl rfl (by decide +kernel) (by decide +kernel) (vK_ty cy) k_Hubcascade_isWithin_0 ?_
  · intro p e s m below meth c ad τ w av S hK hN hs
    refine ⟨vfg_X9 S hK hN, ?_, vct_X9 S, vc2_X9 S, ?_⟩
    · exact fun i ci k d9 h => by cases h
    · exact fun i sta k cts h => by cases h
end VC
section VC
noncomputable def q_Hubcascade_isWithin_1 : VCt := ([av_6, (vC 1), (vC 5)], [], [([(vC 0)], [], [], []), ([(vC 1)], [av_36], [], [])], [], 0)
noncomputable def mt_Hubcascade_isWithin_1 : List (Nat × Bool × Nat × List VCt) := []
noncomputable def fp_Hubcascade_isWithin_1 : List (Nat × Nat × Nat × Nat) := []
noncomputable def pt_Hubcascade_isWithin_1_0 : List (Nat × VS) := [(0, ([av_6, (vC 1), (vC 5)], [], [], 0))]
set_option maxRecDepth 100000 in
theorem k_Hubcascade_isWithin_1 : vi_chk vK vSG 3 0 vFT_X9 fp_Hubcascade_isWithin_1 vCT_X9 vC2_X9 [] mt_Hubcascade_isWithin_1 cX9_isWithin [] 400 pt_Hubcascade_isWithin_1_0 q_Hubcascade_isWithin_1 [] = true := by decide +kernel
set_option maxHeartbeats 4000000 in
theorem m_Hubcascade_isWithin_1 (l : Launch) (D : va_G) (cy : Nat → ClassId) (hst : l.stackTraces = false) : vi_Mn l D cy vK vSG yX9_isWithin (Cond.code yX9_isWithin cX9_isWithin 3 (some .boolean) :: vWall) 0 0 q_Hubcascade_isWithin_1 := by
  refine vi_Mn_of (own := RX9) (J := []) (f := 400) (FT := vFT_X9) (FP := fp_Hubcascade_isWithin_1) (CT := vCT_X9) (C2 := vC2_X9) (MT := mt_Hubcascade_isWithin_1) (by decide) rfl rfl rfl (by decide +kernel) (by decide +kernel) (vK_ty cy) k_Hubcascade_isWithin_1 ?_
  · intro p e s m below meth c ad τ w av S hK hN hs
    refine ⟨vfg_X9 S hK hN, ?_, vct_X9 S, vc2_X9 S, ?_⟩
    · exact fun i ci k d9 h => by cases h
    · exact fun i sta k cts h => by cases h
end VC
section VC
noncomputable def q_Hubcascade_isWithin_2 : VCt := ([av_6, (vC 0), (vC 99)], [], [([(vC 0)], [], [], []), ([(vC 1)], [av_18], [], [])], [], 0)
noncomputable def mt_Hubcascade_isWithin_2 : List (Nat × Bool × Nat × List VCt) := []
noncomputable def fp_Hubcascade_isWithin_2 : List (Nat × Nat × Nat × Nat) := []
noncomputable def pt_Hubcascade_isWithin_2_0 : List (Nat × VS) := [(0, ([av_6, (vC 0), (vC 99)], [], [], 0))]
set_option maxRecDepth 100000 in
theorem k_Hubcascade_isWithin_2 : vi_chk vK vSG 3 0 vFT_X9 fp_Hubcascade_isWithin_2 vCT_X9 vC2_X9 [] mt_Hubcascade_isWithin_2 cX9_isWithin [] 400 pt_Hubcascade_isWithin_2_0 q_Hubcascade_isWithin_2 [] = true := by decide +kernel
set_option maxHeartbeats 4000000 in
theorem m_Hubcascade_isWithin_2 (l : Launch) (D : va_G) (cy : Nat → ClassId) (hst : l.stackTraces = false) : vi_Mn l D cy vK vSG yX9_isWithin (Cond.code yX9_isWithin cX9_isWithin 3 (some .boolean) :: vWall) 0 0 q_Hubcascade_isWithin_2 := by
  refine vi_Mn_of (own := RX9) (J := []) (f := 400) (FT := vFT_X9) (FP := fp_Hubcascade_isWithin_2) (CT := vCT_X9) (C2 := vC2_X9) (MT := mt_Hubcascade_isWithin_2) (by decide) rfl rfl rfl (by decide +kernel) (by decide +kernel) (vK_ty cy) k_Hubcascade_isWithin_2 ?_
  · intro p e s m below meth c ad τ w av S hK hN hs
    refine ⟨vfg_X9 S hK hN, ?_, vct_X9 S, vc2_X9 S, ?_⟩
    · exact fun i ci k d9 h => by cases h
    · exact fun i sta k cts h => by cases h
end VC
section VC
noncomputable def q_Hubcascade_make_0 : VCt := ([av_37, av_16, av_6, av_6, av_17, av_6], [], [([av_15], [av_38, av_35, av_26, av_36, av_38, av_18], [], [])], [(6, 1, 4), (6, 2, 4), (6, 3, 4), (6, 4, 4), (6, 5, 4), (6, 6, 4), (6, 11, 4), (14, 1, 0)], 1)
noncomputable def mt_Hubcascade_make_0 : List (Nat × Bool × Nat × List VCt) := [(84, true, 1, [q_Hubcascade_isSpeed_0]), (88, true, 3, [q_Hubcascade_isWithin_0, q_Hubcascade_isWithin_1, q_Hubcascade_isWithin_2])]
noncomputable def fp_Hubcascade_make_0 : List (Nat × Nat × Nat × Nat) := [(67, 6, 2, 4), (70, 6, 4, 4), (81, 14, 1, 0), (106, 6, 1, 4), (109, 6, 11, 4), (112, 6, 3, 4), (115, 6, 6, 4), (118, 6, 5, 4)]
noncomputable def pt_Hubcascade_make_0_0 : List (Nat × VS) := [(0, ([av_37, av_16, av_6, av_6, av_17, av_6, av_38], [], [], 0))]
set_option maxRecDepth 100000 in
theorem k_Hubcascade_make_0 : vi_chk vK vSG 7 q_Hubcascade_make_0.2.2.2.2 vFT_X9 fp_Hubcascade_make_0 vCT_X9 vC2_X9 [36, 56, 75] mt_Hubcascade_make_0 cX9_make [] 400 pt_Hubcascade_make_0_0 q_Hubcascade_make_0 [] = true := by decide +kernel
set_option maxHeartbeats 4000000 in
theorem m_Hubcascade_make_0 (l : Launch) (D : va_G) (cy : Nat → ClassId) (hst : l.stackTraces = false) : vi_Mx l D cy vK vSG yX9_make (Cond.code yX9_make cX9_make 7 (some .int) :: vWall) 6 90 q_Hubcascade_make_0 ["java/lang/IllegalArgumentException", "java/lang/IllegalStateException"] := by
  refine vi_Mx_of (own := RX9) (J := []) (f := 400) (XP := [36, 56, 75]) (FT := vFT_X9) (FP := fp_Hubcascade_make_0) (CT := vCT_X9) (C2 := vC2_X9) (MT := mt_Hubcascade_make_0) (by decide) rfl rfl (by decide +kernel) (by decide +kernel) (vK_ty cy) k_Hubcascade_make_0 ?_
  · intro p e s m below meth c ad τ w av S hK hN hs hT hout hlocks
    refine ⟨vfg_X9 S hK hN, ?_, vct_X9 S, vc2_X9 S, ?_, ?_⟩
    · refine vi_f4 (L := fp_Hubcascade_make_0) ?_
      refine List.forall_mem_cons.mpr ⟨fun d x fs b v h1 h2 h3 => vfp_X9_67_6_2 S hK hN (vTy_ok h1 h2 h3), ?_⟩
      refine List.forall_mem_cons.mpr ⟨fun d x fs b v h1 h2 h3 => vfp_X9_70_6_4 S hK hN (vTy_ok h1 h2 h3), ?_⟩
      refine List.forall_mem_cons.mpr ⟨fun d x fs b v h1 h2 h3 => vfp_X9_81_14_1 S hK hN (vTy_ok h1 h2 h3), ?_⟩
      refine List.forall_mem_cons.mpr ⟨fun d x fs b v h1 h2 h3 => vfp_X9_106_6_1 S hK hN (vTy_ok h1 h2 h3), ?_⟩
      refine List.forall_mem_cons.mpr ⟨fun d x fs b v h1 h2 h3 => vfp_X9_109_6_11 S hK hN (vTy_ok h1 h2 h3), ?_⟩
      refine List.forall_mem_cons.mpr ⟨fun d x fs b v h1 h2 h3 => vfp_X9_112_6_3 S hK hN (vTy_ok h1 h2 h3), ?_⟩
      refine List.forall_mem_cons.mpr ⟨fun d x fs b v h1 h2 h3 => vfp_X9_115_6_6 S hK hN (vTy_ok h1 h2 h3), ?_⟩
      refine List.forall_mem_cons.mpr ⟨fun d x fs b v h1 h2 h3 => vfp_X9_118_6_5 S hK hN (vTy_ok h1 h2 h3), ?_⟩
      exact fun q hq => by cases hq
    · refine vi_f4 (L := mt_Hubcascade_make_0) ?_
      refine List.forall_mem_cons.mpr ⟨(List.forall_mem_cons.mpr ⟨⟨rfl, vi_crS S (m_Hubcascade_isSpeed_0 l D cy hst) (cwS 1 S.2.2.2.2 (vgS (vm_4 _ (List.mem_of_getElem? (i := 18) rfl)) (vm_4 _ (List.mem_of_getElem? (i := 19) rfl)) (vm_4 _ (List.mem_of_getElem? (i := 20) rfl)) (vm_4 _ (List.mem_of_getElem? (i := 11) rfl))) rfl rfl rfl ⟨rfl, by decide, by decide, by decide +kernel⟩ ⟨Nat.le_of_ble_eq_true rfl, Nat.le_of_ble_eq_true rfl⟩) rfl hK hN hs (fun w1 w2 h1 h2 => vi_kept_tr (by decide +kernel) h1 h2) (fun q hq => Or.inr hq) ⟨Nat.le_refl _, Nat.le_refl _⟩⟩, (fun ct2 h2 => by cases h2)⟩), ?_⟩
      refine List.forall_mem_cons.mpr ⟨(List.forall_mem_cons.mpr ⟨⟨rfl, vi_crS S (m_Hubcascade_isWithin_0 l D cy hst) (cwS 3 S.2.2.2.2 (vgS (vm_4 _ (List.mem_of_getElem? (i := 21) rfl)) (vm_4 _ (List.mem_of_getElem? (i := 22) rfl)) (vm_4 _ (List.mem_of_getElem? (i := 20) rfl)) (vm_4 _ (List.mem_of_getElem? (i := 12) rfl))) rfl rfl rfl ⟨rfl, by decide, by decide, by decide +kernel⟩ ⟨Nat.le_of_ble_eq_true rfl, Nat.le_of_ble_eq_true rfl⟩) rfl hK hN hs (fun w1 w2 h1 h2 => vi_kept_tr (by decide +kernel) h1 h2) (fun q hq => Or.inr hq) ⟨Nat.le_refl _, Nat.le_refl _⟩⟩, (List.forall_mem_cons.mpr ⟨⟨rfl, vi_crS S (m_Hubcascade_isWithin_1 l D cy hst) (cwS 3 S.2.2.2.2 (vgS (vm_4 _ (List.mem_of_getElem? (i := 21) rfl)) (vm_4 _ (List.mem_of_getElem? (i := 22) rfl)) (vm_4 _ (List.mem_of_getElem? (i := 20) rfl)) (vm_4 _ (List.mem_of_getElem? (i := 12) rfl))) rfl rfl rfl ⟨rfl, by decide, by decide, by decide +kernel⟩ ⟨Nat.le_of_ble_eq_true rfl, Nat.le_of_ble_eq_true rfl⟩) rfl hK hN hs (fun w1 w2 h1 h2 => vi_kept_tr (by decide +kernel) h1 h2) (fun q hq => Or.inr hq) ⟨Nat.le_refl _, Nat.le_refl _⟩⟩, (List.forall_mem_cons.mpr ⟨⟨rfl, vi_crS S (m_Hubcascade_isWithin_2 l D cy hst) (cwS 3 S.2.2.2.2 (vgS (vm_4 _ (List.mem_of_getElem? (i := 21) rfl)) (vm_4 _ (List.mem_of_getElem? (i := 22) rfl)) (vm_4 _ (List.mem_of_getElem? (i := 20) rfl)) (vm_4 _ (List.mem_of_getElem? (i := 12) rfl))) rfl rfl rfl ⟨rfl, by decide, by decide, by decide +kernel⟩ ⟨Nat.le_of_ble_eq_true rfl, Nat.le_of_ble_eq_true rfl⟩) rfl hK hN hs (fun w1 w2 h1 h2 => vi_kept_tr (by decide +kernel) h1 h2) (fun q hq => Or.inr hq) ⟨Nat.le_refl _, Nat.le_refl _⟩⟩, (fun ct2 h2 => by cases h2)⟩)⟩)⟩), ?_⟩
      exact fun q hq => by cases hq
    · refine List.forall_mem_cons.mpr ⟨vi_throwS (WS := _ :: vWall) (text := "no such device can be made") (ik := 92) (is := 94) (ic := 96) (X := "java/lang/IllegalArgumentException") S.1 S.2.1 hst S.2.2.2.2 S.2.2.2.1 (by decide) (by decide) hT (by decide) (List.mem_cons_of_mem _ (vm_4 _ (List.mem_of_getElem? (i := 14) rfl))) (List.mem_cons_of_mem _ (vm_4 _ (List.mem_of_getElem? (i := 15) rfl))) (fun w h => List.mem_cons_of_mem _ (vmx_2 w h)) (by decide +kernel) (by decide +kernel) (by decide) S.2.2.1 (by decide +kernel) (by decide +kernel) (by decide +kernel) (by decide +kernel) (by decide +kernel) hout hlocks (Nat.le_of_ble_eq_true rfl) (Nat.le_of_ble_eq_true rfl) ⟨Nat.le_refl _, Nat.le_refl _⟩ (Nat.le_refl _) (fun _ h => h), ?_⟩
      refine List.forall_mem_cons.mpr ⟨vi_throwS (WS := _ :: vWall) (text := "a hub is not low") (ik := 92) (is := 99) (ic := 96) (X := "java/lang/IllegalArgumentException") S.1 S.2.1 hst S.2.2.2.2 S.2.2.2.1 (by decide) (by decide) hT (by decide) (List.mem_cons_of_mem _ (vm_4 _ (List.mem_of_getElem? (i := 14) rfl))) (List.mem_cons_of_mem _ (vm_4 _ (List.mem_of_getElem? (i := 15) rfl))) (fun w h => List.mem_cons_of_mem _ (vmx_2 w h)) (by decide +kernel) (by decide +kernel) (by decide) S.2.2.1 (by decide +kernel) (by decide +kernel) (by decide +kernel) (by decide +kernel) (by decide +kernel) hout hlocks (Nat.le_of_ble_eq_true rfl) (Nat.le_of_ble_eq_true rfl) ⟨Nat.le_refl _, Nat.le_refl _⟩ (Nat.le_refl _) (fun _ h => h), ?_⟩
      refine List.forall_mem_cons.mpr ⟨vi_throwS (WS := _ :: vWall) (text := "there are 16 devices") (ik := 101) (is := 103) (ic := 105) (X := "java/lang/IllegalStateException") S.1 S.2.1 hst S.2.2.2.2 S.2.2.2.1 (by decide) (by decide) hT (by decide) (List.mem_cons_of_mem _ (vm_4 _ (List.mem_of_getElem? (i := 16) rfl))) (List.mem_cons_of_mem _ (vm_4 _ (List.mem_of_getElem? (i := 17) rfl))) (fun w h => List.mem_cons_of_mem _ (vmx_3 w h)) (by decide +kernel) (by decide +kernel) (by decide) S.2.2.1 (by decide +kernel) (by decide +kernel) (by decide +kernel) (by decide +kernel) (by decide +kernel) hout hlocks (Nat.le_of_ble_eq_true rfl) (Nat.le_of_ble_eq_true rfl) ⟨Nat.le_refl _, Nat.le_refl _⟩ (Nat.le_refl _) (fun _ h => h), ?_⟩
      exact fun q hq => by cases hq
end VC
section VC
noncomputable def q_Hubcascade_deviceAt_0 : VCt := ([av_37, av_6], [], [([av_30], [av_38, av_15], [], [])], [], 1)
noncomputable def mt_Hubcascade_deviceAt_0 : List (Nat × Bool × Nat × List VCt) := []
noncomputable def fp_Hubcascade_deviceAt_0 : List (Nat × Nat × Nat × Nat) := []
noncomputable def pt_Hubcascade_deviceAt_0_0 : List (Nat × VS) := [(0, ([av_37, av_6], [], [], 0))]
set_option maxRecDepth 100000 in
theorem k_Hubcascade_deviceAt_0 : vi_chk vK vSG 2 q_Hubcascade_deviceAt_0.2.2.2.2 vFT_X9 fp_Hubcascade_deviceAt_0 vCT_X9 vC2_X9 [18] mt_Hubcascade_deviceAt_0 cX9_deviceAt [] 400 pt_Hubcascade_deviceAt_0_0 q_Hubcascade_deviceAt_0 [] = true := by decide +kernel
set_option maxHeartbeats 4000000 in
theorem m_Hubcascade_deviceAt_0 (l : Launch) (D : va_G) (cy : Nat → ClassId) (hst : l.stackTraces = false) : vi_Mx l D cy vK vSG yX9_deviceAt (Cond.code yX9_deviceAt cX9_deviceAt 2 (some (.object "Hubcascade$Device")) :: vWall) 6 90 q_Hubcascade_deviceAt_0 ["java/lang/IndexOutOfBoundsException"] := by
  refine vi_Mx_of (own := RX9) (J := []) (f := 400) (XP := [18]) (FT := vFT_X9) (FP := fp_Hubcascade_deviceAt_0) (CT := vCT_X9) (C2 := vC2_X9) (MT := mt_Hubcascade_deviceAt_0) (by decide) rfl rfl (by decide +kernel) (by decide +kernel) (vK_ty cy) k_Hubcascade_deviceAt_0 ?_
  · intro p e s m below meth c ad τ w av S hK hN hs hT hout hlocks
    refine ⟨vfg_X9 S hK hN, ?_, vct_X9 S, vc2_X9 S, ?_, ?_⟩
    · exact fun i ci k d9 h => by cases h
    · exact fun i sta k cts h => by cases h
    · refine List.forall_mem_cons.mpr ⟨vi_throwSW (WS := _ :: vWall) (text := "no such device") (ik := 154) (is := 528) (ic := 158) (X := "java/lang/IndexOutOfBoundsException") S.1 S.2.1 hst S.2.2.2.2 S.2.2.2.1 (by decide) (by decide) hT (by decide) (List.mem_cons_of_mem _ (vm_4 _ (List.mem_of_getElem? (i := 24) rfl))) (List.mem_cons_of_mem _ (vm_4 _ (List.mem_of_getElem? (i := 25) rfl))) (fun w h => List.mem_cons_of_mem _ (vmx_0 w h)) (by decide +kernel) (by decide +kernel) (by decide) S.2.2.1 (by decide +kernel) (by decide +kernel) (by decide +kernel) (by decide +kernel) (by decide +kernel) hout hlocks (Nat.le_of_ble_eq_true rfl) (Nat.le_of_ble_eq_true rfl) ⟨Nat.le_refl _, Nat.le_refl _⟩ (Nat.le_refl _) (fun _ h => h), ?_⟩
      exact fun q hq => by cases hq
end VC
section VC
noncomputable def q_Hubcascade_isWithin_3 : VCt := ([av_6, (vC 1), (vC 3)], [], [([(vC 0)], [], [], []), ([(vC 1)], [av_39], [], [])], [], 0)
noncomputable def mt_Hubcascade_isWithin_3 : List (Nat × Bool × Nat × List VCt) := []
noncomputable def fp_Hubcascade_isWithin_3 : List (Nat × Nat × Nat × Nat) := []
noncomputable def pt_Hubcascade_isWithin_3_0 : List (Nat × VS) := [(0, ([av_6, (vC 1), (vC 3)], [], [], 0))]
set_option maxRecDepth 100000 in
theorem k_Hubcascade_isWithin_3 : vi_chk vK vSG 3 0 vFT_X9 fp_Hubcascade_isWithin_3 vCT_X9 vC2_X9 [] mt_Hubcascade_isWithin_3 cX9_isWithin [] 400 pt_Hubcascade_isWithin_3_0 q_Hubcascade_isWithin_3 [] = true := by decide +kernel
set_option maxHeartbeats 4000000 in
theorem m_Hubcascade_isWithin_3 (l : Launch) (D : va_G) (cy : Nat → ClassId) (hst : l.stackTraces = false) : vi_Mn l D cy vK vSG yX9_isWithin (Cond.code yX9_isWithin cX9_isWithin 3 (some .boolean) :: vWall) 0 0 q_Hubcascade_isWithin_3 := by
  refine vi_Mn_of (own := RX9) (J := []) (f := 400) (FT := vFT_X9) (FP := fp_Hubcascade_isWithin_3) (CT := vCT_X9) (C2 := vC2_X9) (MT := mt_Hubcascade_isWithin_3) (by decide) rfl rfl rfl (by decide +kernel) (by decide +kernel) (vK_ty cy) k_Hubcascade_isWithin_3 ?_
  · intro p e s m below meth c ad τ w av S hK hN hs
    refine ⟨vfg_X9 S hK hN, ?_, vct_X9 S, vc2_X9 S, ?_⟩
    · exact fun i ci k d9 h => by cases h
    · exact fun i sta k cts h => by cases h
end VC
section VC
noncomputable def q_Hubcascade_isWithin_4 : VCt := ([av_6, (vC 1), (vC 8)], [], [([(vC 0)], [], [], []), ([(vC 1)], [av_40], [], [])], [], 0)
noncomputable def mt_Hubcascade_isWithin_4 : List (Nat × Bool × Nat × List VCt) := []
noncomputable def fp_Hubcascade_isWithin_4 : List (Nat × Nat × Nat × Nat) := []
noncomputable def pt_Hubcascade_isWithin_4_0 : List (Nat × VS) := [(0, ([av_6, (vC 1), (vC 8)], [], [], 0))]
set_option maxRecDepth 100000 in
theorem k_Hubcascade_isWithin_4 : vi_chk vK vSG 3 0 vFT_X9 fp_Hubcascade_isWithin_4 vCT_X9 vC2_X9 [] mt_Hubcascade_isWithin_4 cX9_isWithin [] 400 pt_Hubcascade_isWithin_4_0 q_Hubcascade_isWithin_4 [] = true := by decide +kernel
set_option maxHeartbeats 4000000 in
theorem m_Hubcascade_isWithin_4 (l : Launch) (D : va_G) (cy : Nat → ClassId) (hst : l.stackTraces = false) : vi_Mn l D cy vK vSG yX9_isWithin (Cond.code yX9_isWithin cX9_isWithin 3 (some .boolean) :: vWall) 0 0 q_Hubcascade_isWithin_4 := by
  refine vi_Mn_of (own := RX9) (J := []) (f := 400) (FT := vFT_X9) (FP := fp_Hubcascade_isWithin_4) (CT := vCT_X9) (C2 := vC2_X9) (MT := mt_Hubcascade_isWithin_4) (by decide) rfl rfl rfl (by decide +kernel) (by decide +kernel) (vK_ty cy) k_Hubcascade_isWithin_4 ?_
  · intro p e s m below meth c ad τ w av S hK hN hs
    refine ⟨vfg_X9 S hK hN, ?_, vct_X9 S, vc2_X9 S, ?_⟩
    · exact fun i ci k d9 h => by cases h
    · exact fun i sta k cts h => by cases h
end VC
section VC
noncomputable def q_Device_countEndpoints_0 : VCt := ([av_30], [], [([av_41], [], [], [])], [], 0)
noncomputable def mt_Device_countEndpoints_0 : List (Nat × Bool × Nat × List VCt) := []
noncomputable def fp_Device_countEndpoints_0 : List (Nat × Nat × Nat × Nat) := []
noncomputable def pt_Device_countEndpoints_0_0 : List (Nat × VS) := [(0, ([av_30, av_38, av_38], [], [], 0)), (4, ([av_30, (vC 0), (vC 0)], [], [], 0)), (4, ([av_30, av_17, (vC 1)], [], [], 0)), (4, ([av_30, av_42, (vC 2)], [], [], 0)), (4, ([av_30, av_41, (vC 3)], [], [], 0))]
set_option maxRecDepth 100000 in
theorem k_Device_countEndpoints_0 : vi_chk vK vSG 3 0 vFT_X1 fp_Device_countEndpoints_0 vCT_X1 vC2_X1 [] mt_Device_countEndpoints_0 cX1_countEndpoints [4] 400 pt_Device_countEndpoints_0_0 q_Device_countEndpoints_0 [] = true := by decide +kernel
set_option maxHeartbeats 4000000 in
theorem m_Device_countEndpoints_0 (l : Launch) (D : va_G) (cy : Nat → ClassId) (hst : l.stackTraces = false) : vi_Mn l D cy vK vSG yX1_countEndpoints (Cond.code yX1_countEndpoints cX1_countEndpoints 3 (some .int) :: vWall) 0 0 q_Device_countEndpoints_0 := by
  refine vi_Mn_of (own := RX1) (J := [4]) (f := 400) (FT := vFT_X1) (FP := fp_Device_countEndpoints_0) (CT := vCT_X1) (C2 := vC2_X1) (MT := mt_Device_countEndpoints_0) (by decide) rfl rfl rfl (by decide +kernel) (by decide +kernel) (vK_ty cy) k_Device_countEndpoints_0 ?_
  · intro p e s m below meth c ad τ w av S hK hN hs
    refine ⟨vfg_X1 S hK hN, ?_, vct_X1 S, vc2_X1 S, ?_⟩
    · exact fun i ci k d9 h => by cases h
    · exact fun i sta k cts h => by cases h
end VC
section VC
noncomputable def q_Hubcascade_endpoint_0 : VCt := ([av_37, av_6, av_6, av_17, av_6], [], [([av_41], [av_38, av_15, av_39, av_38, av_40], [], [])], [(7, 0, 5), (7, 1, 5), (7, 3, 5)], 2)
noncomputable def mt_Hubcascade_endpoint_0 : List (Nat × Bool × Nat × List VCt) := [(88, true, 3, [q_Hubcascade_isWithin_3, q_Hubcascade_isWithin_4]), (124, false, 2, [q_Hubcascade_deviceAt_0]), (150, false, 1, [q_Device_countEndpoints_0])]
noncomputable def fp_Hubcascade_endpoint_0 : List (Nat × Nat × Nat × Nat) := [(134, 7, 0, 5), (144, 7, 1, 5), (147, 7, 3, 5)]
noncomputable def pt_Hubcascade_endpoint_0_0 : List (Nat × VS) := [(0, ([av_37, av_6, av_6, av_17, av_6, av_38, av_38], [], [], 0))]
set_option maxRecDepth 100000 in
theorem k_Hubcascade_endpoint_0 : vi_chk vK vSG 7 q_Hubcascade_endpoint_0.2.2.2.2 vFT_X9 fp_Hubcascade_endpoint_0 vCT_X9 vC2_X9 [27, 66] mt_Hubcascade_endpoint_0 cX9_endpoint [] 400 pt_Hubcascade_endpoint_0_0 q_Hubcascade_endpoint_0 [] = true := by decide +kernel
set_option maxHeartbeats 4000000 in
theorem m_Hubcascade_endpoint_0 (l : Launch) (D : va_G) (cy : Nat → ClassId) (hst : l.stackTraces = false) : vi_Mx l D cy vK vSG yX9_endpoint (Cond.code yX9_endpoint cX9_endpoint 7 (some .int) :: vWall) 7 111 q_Hubcascade_endpoint_0 ["java/lang/IndexOutOfBoundsException", "java/lang/IllegalArgumentException", "java/lang/UnsupportedOperationException"] := by
  refine vi_Mx_of (own := RX9) (J := []) (f := 400) (XP := [27, 66]) (FT := vFT_X9) (FP := fp_Hubcascade_endpoint_0) (CT := vCT_X9) (C2 := vC2_X9) (MT := mt_Hubcascade_endpoint_0) (by decide) rfl rfl (by decide +kernel) (by decide +kernel) (vK_ty cy) k_Hubcascade_endpoint_0 ?_
  · intro p e s m below meth c ad τ w av S hK hN hs hT hout hlocks
    refine ⟨vfg_X9 S hK hN, ?_, vct_X9 S, vc2_X9 S, ?_, ?_⟩
    · refine vi_f4 (L := fp_Hubcascade_endpoint_0) ?_
      refine List.forall_mem_cons.mpr ⟨fun d x fs b v h1 h2 h3 => vfp_X9_134_7_0 S hK hN (vTy_ok h1 h2 h3), ?_⟩
      refine List.forall_mem_cons.mpr ⟨fun d x fs b v h1 h2 h3 => vfp_X9_144_7_1 S hK hN (vTy_ok h1 h2 h3), ?_⟩
      refine List.forall_mem_cons.mpr ⟨fun d x fs b v h1 h2 h3 => vfp_X9_147_7_3 S hK hN (vTy_ok h1 h2 h3), ?_⟩
      exact fun q hq => by cases hq
    · refine vi_f4 (L := mt_Hubcascade_endpoint_0) ?_
      refine List.forall_mem_cons.mpr ⟨(List.forall_mem_cons.mpr ⟨⟨rfl, vi_crS S (m_Hubcascade_isWithin_3 l D cy hst) (cwS 3 S.2.2.2.2 (vgS (vm_4 _ (List.mem_of_getElem? (i := 21) rfl)) (vm_4 _ (List.mem_of_getElem? (i := 22) rfl)) (vm_4 _ (List.mem_of_getElem? (i := 20) rfl)) (vm_4 _ (List.mem_of_getElem? (i := 12) rfl))) rfl rfl rfl ⟨rfl, by decide, by decide, by decide +kernel⟩ ⟨Nat.le_of_ble_eq_true rfl, Nat.le_of_ble_eq_true rfl⟩) rfl hK hN hs (fun w1 w2 h1 h2 => vi_kept_tr (by decide +kernel) h1 h2) (fun q hq => Or.inr hq) ⟨Nat.le_refl _, Nat.le_refl _⟩⟩, (List.forall_mem_cons.mpr ⟨⟨rfl, vi_crS S (m_Hubcascade_isWithin_4 l D cy hst) (cwS 3 S.2.2.2.2 (vgS (vm_4 _ (List.mem_of_getElem? (i := 21) rfl)) (vm_4 _ (List.mem_of_getElem? (i := 22) rfl)) (vm_4 _ (List.mem_of_getElem? (i := 20) rfl)) (vm_4 _ (List.mem_of_getElem? (i := 12) rfl))) rfl rfl rfl ⟨rfl, by decide, by decide, by decide +kernel⟩ ⟨Nat.le_of_ble_eq_true rfl, Nat.le_of_ble_eq_true rfl⟩) rfl hK hN hs (fun w1 w2 h1 h2 => vi_kept_tr (by decide +kernel) h1 h2) (fun q hq => Or.inr hq) ⟨Nat.le_refl _, Nat.le_refl _⟩⟩, (fun ct2 h2 => by cases h2)⟩)⟩), ?_⟩
      refine List.forall_mem_cons.mpr ⟨(List.forall_mem_cons.mpr ⟨⟨rfl, vi_crX S (m_Hubcascade_deviceAt_0 l D cy hst) (cwV 1 S.2.2.2.2 (vgV (vm_4 _ (List.mem_of_getElem? (i := 29) rfl)) (vm_4 _ (List.mem_of_getElem? (i := 30) rfl)) (vm_4 _ (List.mem_of_getElem? (i := 31) rfl)) (vm_4 _ (List.mem_of_getElem? (i := 20) rfl)) (vm_4 _ (List.mem_of_getElem? (i := 23) rfl))) rfl rfl rfl ⟨rfl, by decide, by decide, by decide +kernel⟩ ⟨Nat.le_of_ble_eq_true rfl, Nat.le_of_ble_eq_true rfl⟩) rfl ⟨_, _, _, _, _, _, rfl, rfl, rfl, rfl⟩ hK hN hs hT (fun w1 w2 h1 h2 => vi_kept_tr (by decide +kernel) h1 h2) (fun _ h => h) ⟨Nat.le_refl _, Nat.le_refl _⟩ (by decide) hout hlocks (Nat.le_refl _)⟩, (fun ct2 h2 => by cases h2)⟩), ?_⟩
      refine List.forall_mem_cons.mpr ⟨(List.forall_mem_cons.mpr ⟨⟨rfl, vi_crVN S (m_Device_countEndpoints_0 l D cy hst) ⟨va_cnB 0 S.2.2.2.2 (vgN (vm_1 _ (List.mem_of_getElem? (i := 7) rfl))) rfl rfl rfl (hN.1 _ nf_142) (S.2.2.2.2 _ (List.mem_cons_of_mem _ (vm_4 _ (List.mem_of_getElem? (i := 2) rfl)))) ⟨by decide, by decide, by decide +kernel⟩ ⟨Nat.le_of_ble_eq_true rfl, Nat.le_of_ble_eq_true rfl⟩, S.2.2.2.2 _ (List.mem_cons_of_mem _ (vm_4 _ (List.mem_of_getElem? (i := 32) rfl))), S.2.2.2.2 _ (List.mem_cons_of_mem _ (vm_4 _ (List.mem_of_getElem? (i := 33) rfl)))⟩ rfl ⟨_, _, _, _, _, _, rfl, rfl, rfl, rfl⟩ hK hN hs (fun w1 w2 h1 h2 => vi_kept_tr (by decide +kernel) h1 h2) (fun q hq => Or.inr hq) ⟨Nat.le_refl _, Nat.le_refl _⟩⟩, (fun ct2 h2 => by cases h2)⟩), ?_⟩
      exact fun q hq => by cases hq
    · refine List.forall_mem_cons.mpr ⟨vi_throwS (WS := _ :: vWall) (text := "no such endpoint can be made") (ik := 92) (is := 128) (ic := 96) (X := "java/lang/IllegalArgumentException") S.1 S.2.1 hst S.2.2.2.2 S.2.2.2.1 (by decide) (by decide) hT (by decide) (List.mem_cons_of_mem _ (vm_4 _ (List.mem_of_getElem? (i := 14) rfl))) (List.mem_cons_of_mem _ (vm_4 _ (List.mem_of_getElem? (i := 15) rfl))) (fun w h => List.mem_cons_of_mem _ (vmx_2 w h)) (by decide +kernel) (by decide +kernel) (by decide) S.2.2.1 (by decide +kernel) (by decide +kernel) (by decide +kernel) (by decide +kernel) (by decide +kernel) hout hlocks (Nat.le_of_ble_eq_true rfl) (Nat.le_of_ble_eq_true rfl) ⟨Nat.le_refl _, Nat.le_refl _⟩ (Nat.le_refl _) (fun _ h => h), ?_⟩
      refine List.forall_mem_cons.mpr ⟨vi_throwS (WS := _ :: vWall) (text := "the device has it, or is plugged") (ik := 139) (is := 141) (ic := 143) (X := "java/lang/UnsupportedOperationException") S.1 S.2.1 hst S.2.2.2.2 S.2.2.2.1 (by decide) (by decide) hT (by decide) (List.mem_cons_of_mem _ (vm_4 _ (List.mem_of_getElem? (i := 27) rfl))) (List.mem_cons_of_mem _ (vm_4 _ (List.mem_of_getElem? (i := 28) rfl))) (fun w h => List.mem_cons_of_mem _ (vmx_1 w h)) (by decide +kernel) (by decide +kernel) (by decide) S.2.2.1 (by decide +kernel) (by decide +kernel) (by decide +kernel) (by decide +kernel) (by decide +kernel) hout hlocks (Nat.le_of_ble_eq_true rfl) (Nat.le_of_ble_eq_true rfl) ⟨Nat.le_refl _, Nat.le_refl _⟩ (Nat.le_refl _) (fun _ h => h), ?_⟩
      exact fun q hq => by cases hq
end VC
section VC
noncomputable def q_Hubcascade_takesDevices_0 : VCt := ([av_30], [], [([(vC 0)], [], [], []), ([(vC 1)], [], [], [])], [], 0)
noncomputable def mt_Hubcascade_takesDevices_0 : List (Nat × Bool × Nat × List VCt) := []
noncomputable def fp_Hubcascade_takesDevices_0 : List (Nat × Nat × Nat × Nat) := []
noncomputable def pt_Hubcascade_takesDevices_0_0 : List (Nat × VS) := [(0, ([av_30], [], [], 0))]
set_option maxRecDepth 100000 in
theorem k_Hubcascade_takesDevices_0 : vi_chk vK vSG 1 0 vFT_X9 fp_Hubcascade_takesDevices_0 vCT_X9 vC2_X9 [] mt_Hubcascade_takesDevices_0 cX9_takesDevices [] 400 pt_Hubcascade_takesDevices_0_0 q_Hubcascade_takesDevices_0 [] = true := by decide +kernel
set_option maxHeartbeats 4000000 in
theorem m_Hubcascade_takesDevices_0 (l : Launch) (D : va_G) (cy : Nat → ClassId) (hst : l.stackTraces = false) : vi_Mn l D cy vK vSG yX9_takesDevices (Cond.code yX9_takesDevices cX9_takesDevices 1 (some .boolean) :: vWall) 0 0 q_Hubcascade_takesDevices_0 := by
  refine vi_Mn_of (own := RX9) (J := []) (f := 400) (FT := vFT_X9) (FP := fp_Hubcascade_takesDevices_0) (CT := vCT_X9) (C2 := vC2_X9) (MT := mt_Hubcascade_takesDevices_0) (by decide) rfl rfl rfl (by decide +kernel) (by decide +kernel) (vK_ty cy) k_Hubcascade_takesDevices_0 ?_
  · intro p e s m below meth c ad τ w av S hK hN hs
    refine ⟨vfg_X9 S hK hN, ?_, vct_X9 S, vc2_X9 S, ?_⟩
    · exact fun i ci k d9 h => by cases h
    · exact fun i sta k cts h => by cases h
end VC
section VC
noncomputable def q_Hubcascade_isPortTaken_0 : VCt := ([av_37, av_30, av_6], [], [([(vC 1)], [], [], []), ([(vC 0)], [], [], [])], [], 0)
noncomputable def mt_Hubcascade_isPortTaken_0 : List (Nat × Bool × Nat × List VCt) := []
noncomputable def fp_Hubcascade_isPortTaken_0 : List (Nat × Nat × Nat × Nat) := []
noncomputable def pt_Hubcascade_isPortTaken_0_0 : List (Nat × VS) := [(0, ([av_37, av_30, av_6, av_38], [], [], 0)), (2, ([av_37, av_30, av_6, (vC 0)], [], [], 0)), (2, ([av_37, av_30, av_6, (vC 1)], [], [], 0)), (2, ([av_37, av_30, av_6, (vC 2)], [], [], 0)), (2, ([av_37, av_30, av_6, (vC 3)], [], [], 0)), (2, ([av_37, av_30, av_6, (vC 4)], [], [], 0)), (2, ([av_37, av_30, av_6, (vC 5)], [], [], 0)), (2, ([av_37, av_30, av_6, (vC 6)], [], [], 0)), (2, ([av_37, av_30, av_6, (vC 7)], [], [], 0)), (2, ([av_37, av_30, av_6, (vC 8)], [], [], 0)), (2, ([av_37, av_30, av_6, (vC 9)], [], [], 0)), (2, ([av_37, av_30, av_6, (vC 10)], [], [], 0)), (2, ([av_37, av_30, av_6, (vC 11)], [], [], 0)), (2, ([av_37, av_30, av_6, (vC 12)], [], [], 0)), (2, ([av_37, av_30, av_6, (vC 13)], [], [], 0)), (2, ([av_37, av_30, av_6, (vC 14)], [], [], 0)), (2, ([av_37, av_30, av_6, (vC 15)], [], [], 0)), (2, ([av_37, av_30, av_6, (vC 16)], [], [], 0))]
set_option maxRecDepth 100000 in
theorem k_Hubcascade_isPortTaken_0 : vi_chk vK vSG 4 0 vFT_X9 fp_Hubcascade_isPortTaken_0 vCT_X9 vC2_X9 [] mt_Hubcascade_isPortTaken_0 cX9_isPortTaken [2] 400 pt_Hubcascade_isPortTaken_0_0 q_Hubcascade_isPortTaken_0 [] = true := by decide +kernel
set_option maxHeartbeats 4000000 in
theorem m_Hubcascade_isPortTaken_0 (l : Launch) (D : va_G) (cy : Nat → ClassId) (hst : l.stackTraces = false) : vi_Mn l D cy vK vSG yX9_isPortTaken (Cond.code yX9_isPortTaken cX9_isPortTaken 4 (some .boolean) :: vWall) 0 0 q_Hubcascade_isPortTaken_0 := by
  refine vi_Mn_of (own := RX9) (J := [2]) (f := 400) (FT := vFT_X9) (FP := fp_Hubcascade_isPortTaken_0) (CT := vCT_X9) (C2 := vC2_X9) (MT := mt_Hubcascade_isPortTaken_0) (by decide) rfl rfl rfl (by decide +kernel) (by decide +kernel) (vK_ty cy) k_Hubcascade_isPortTaken_0 ?_
  · intro p e s m below meth c ad τ w av S hK hN hs
    refine ⟨vfg_X9 S hK hN, ?_, vct_X9 S, vc2_X9 S, ?_⟩
    · exact fun i ci k d9 h => by cases h
    · exact fun i sta k cts h => by cases h
end VC
section VC
noncomputable def q_Hubcascade_lowerSpeed_0 : VCt := ([av_16, av_16], [], [([av_35], [], [], [])], [], 0)
noncomputable def mt_Hubcascade_lowerSpeed_0 : List (Nat × Bool × Nat × List VCt) := []
noncomputable def fp_Hubcascade_lowerSpeed_0 : List (Nat × Nat × Nat × Nat) := []
noncomputable def pt_Hubcascade_lowerSpeed_0_0 : List (Nat × VS) := [(0, ([av_16, av_16], [], [], 0))]
set_option maxRecDepth 100000 in
theorem k_Hubcascade_lowerSpeed_0 : vi_chk vK vSG 2 0 vFT_X9 fp_Hubcascade_lowerSpeed_0 vCT_X9 vC2_X9 [] mt_Hubcascade_lowerSpeed_0 cX9_lowerSpeed [] 400 pt_Hubcascade_lowerSpeed_0_0 q_Hubcascade_lowerSpeed_0 [] = true := by decide +kernel
set_option maxHeartbeats 4000000 in
theorem m_Hubcascade_lowerSpeed_0 (l : Launch) (D : va_G) (cy : Nat → ClassId) (hst : l.stackTraces = false) : vi_Mn l D cy vK vSG yX9_lowerSpeed (Cond.code yX9_lowerSpeed cX9_lowerSpeed 2 (some .char) :: vWall) 0 0 q_Hubcascade_lowerSpeed_0 := by
  refine vi_Mn_of (own := RX9) (J := []) (f := 400) (FT := vFT_X9) (FP := fp_Hubcascade_lowerSpeed_0) (CT := vCT_X9) (C2 := vC2_X9) (MT := mt_Hubcascade_lowerSpeed_0) (by decide) rfl rfl rfl (by decide +kernel) (by decide +kernel) (vK_ty cy) k_Hubcascade_lowerSpeed_0 ?_
  · intro p e s m below meth c ad τ w av S hK hN hs
    refine ⟨vfg_X9 S hK hN, ?_, vct_X9 S, vc2_X9 S, ?_⟩
    · exact fun i ci k d9 h => by cases h
    · exact fun i sta k cts h => by cases h
end VC
section VC
noncomputable def q_Hubcascade_plug_0 : VCt := ([av_37, av_6, av_6, av_6], [], [([av_43], [av_38, av_15, av_15, av_44], [], [])], [(6, 7, 4), (6, 8, 4), (6, 9, 4), (6, 10, 4), (6, 11, 4), (6, 12, 4)], 3)
noncomputable def mt_Hubcascade_plug_0 : List (Nat × Bool × Nat × List VCt) := [(124, false, 2, [q_Hubcascade_deviceAt_0]), (159, true, 1, [q_Hubcascade_takesDevices_0]), (163, false, 3, [q_Hubcascade_isPortTaken_0]), (178, true, 2, [q_Hubcascade_lowerSpeed_0])]
noncomputable def fp_Hubcascade_plug_0 : List (Nat × Nat × Nat × Nat) := [(74, 6, 7, 4), (78, 6, 10, 4), (109, 6, 11, 4), (171, 6, 8, 4), (175, 6, 9, 4), (182, 6, 12, 4)]
noncomputable def pt_Hubcascade_plug_0_0 : List (Nat × VS) := [(0, ([av_37, av_6, av_6, av_6, av_38, av_38], [], [], 0))]
set_option maxRecDepth 100000 in
theorem k_Hubcascade_plug_0 : vi_chk vK vSG 6 q_Hubcascade_plug_0.2.2.2.2 vFT_X9 fp_Hubcascade_plug_0 vCT_X9 vC2_X9 [27, 65, 84] mt_Hubcascade_plug_0 cX9_plug [] 400 pt_Hubcascade_plug_0_0 q_Hubcascade_plug_0 [] = true := by decide +kernel
set_option maxHeartbeats 4000000 in
theorem m_Hubcascade_plug_0 (l : Launch) (D : va_G) (cy : Nat → ClassId) (hst : l.stackTraces = false) : vi_Mx l D cy vK vSG yX9_plug (Cond.code yX9_plug cX9_plug 6 (some .int) :: vWall) 7 111 q_Hubcascade_plug_0 ["java/lang/IndexOutOfBoundsException", "java/lang/UnsupportedOperationException"] := by
  refine vi_Mx_of (own := RX9) (J := []) (f := 400) (XP := [27, 65, 84]) (FT := vFT_X9) (FP := fp_Hubcascade_plug_0) (CT := vCT_X9) (C2 := vC2_X9) (MT := mt_Hubcascade_plug_0) (by decide) rfl rfl (by decide +kernel) (by decide +kernel) (vK_ty cy) k_Hubcascade_plug_0 ?_
  · intro p e s m below meth c ad τ w av S hK hN hs hT hout hlocks
    refine ⟨vfg_X9 S hK hN, ?_, vct_X9 S, vc2_X9 S, ?_, ?_⟩
    · refine vi_f4 (L := fp_Hubcascade_plug_0) ?_
      refine List.forall_mem_cons.mpr ⟨fun d x fs b v h1 h2 h3 => vfp_X9_74_6_7 S hK hN (vTy_ok h1 h2 h3), ?_⟩
      refine List.forall_mem_cons.mpr ⟨fun d x fs b v h1 h2 h3 => vfp_X9_78_6_10 S hK hN (vTy_ok h1 h2 h3), ?_⟩
      refine List.forall_mem_cons.mpr ⟨fun d x fs b v h1 h2 h3 => vfp_X9_109_6_11 S hK hN (vTy_ok h1 h2 h3), ?_⟩
      refine List.forall_mem_cons.mpr ⟨fun d x fs b v h1 h2 h3 => vfp_X9_171_6_8 S hK hN (vTy_ok h1 h2 h3), ?_⟩
      refine List.forall_mem_cons.mpr ⟨fun d x fs b v h1 h2 h3 => vfp_X9_175_6_9 S hK hN (vTy_ok h1 h2 h3), ?_⟩
      refine List.forall_mem_cons.mpr ⟨fun d x fs b v h1 h2 h3 => vfp_X9_182_6_12 S hK hN (vTy_ok h1 h2 h3), ?_⟩
      exact fun q hq => by cases hq
    · refine vi_f4 (L := mt_Hubcascade_plug_0) ?_
      refine List.forall_mem_cons.mpr ⟨(List.forall_mem_cons.mpr ⟨⟨rfl, vi_crX S (m_Hubcascade_deviceAt_0 l D cy hst) (cwV 1 S.2.2.2.2 (vgV (vm_4 _ (List.mem_of_getElem? (i := 29) rfl)) (vm_4 _ (List.mem_of_getElem? (i := 30) rfl)) (vm_4 _ (List.mem_of_getElem? (i := 31) rfl)) (vm_4 _ (List.mem_of_getElem? (i := 20) rfl)) (vm_4 _ (List.mem_of_getElem? (i := 23) rfl))) rfl rfl rfl ⟨rfl, by decide, by decide, by decide +kernel⟩ ⟨Nat.le_of_ble_eq_true rfl, Nat.le_of_ble_eq_true rfl⟩) rfl ⟨_, _, _, _, _, _, rfl, rfl, rfl, rfl⟩ hK hN hs hT (fun w1 w2 h1 h2 => vi_kept_tr (by decide +kernel) h1 h2) (fun _ h => h) ⟨Nat.le_refl _, Nat.le_refl _⟩ (by decide) hout hlocks (Nat.le_refl _)⟩, (fun ct2 h2 => by cases h2)⟩), ?_⟩
      refine List.forall_mem_cons.mpr ⟨(List.forall_mem_cons.mpr ⟨⟨rfl, vi_crS S (m_Hubcascade_takesDevices_0 l D cy hst) (cwS 1 S.2.2.2.2 (vgS (vm_4 _ (List.mem_of_getElem? (i := 38) rfl)) (vm_4 _ (List.mem_of_getElem? (i := 39) rfl)) (vm_4 _ (List.mem_of_getElem? (i := 20) rfl)) (vm_4 _ (List.mem_of_getElem? (i := 34) rfl))) rfl rfl rfl ⟨rfl, by decide, by decide, by decide +kernel⟩ ⟨Nat.le_of_ble_eq_true rfl, Nat.le_of_ble_eq_true rfl⟩) rfl hK hN hs (fun w1 w2 h1 h2 => vi_kept_tr (by decide +kernel) h1 h2) (fun q hq => Or.inr hq) ⟨Nat.le_refl _, Nat.le_refl _⟩⟩, (fun ct2 h2 => by cases h2)⟩), ?_⟩
      refine List.forall_mem_cons.mpr ⟨(List.forall_mem_cons.mpr ⟨⟨rfl, vi_crV S (m_Hubcascade_isPortTaken_0 l D cy hst) (cwV 2 S.2.2.2.2 (vgV (vm_5 _ (List.mem_of_getElem? (i := 0) rfl)) (vm_5 _ (List.mem_of_getElem? (i := 1) rfl)) (vm_5 _ (List.mem_of_getElem? (i := 2) rfl)) (vm_4 _ (List.mem_of_getElem? (i := 20) rfl)) (vm_4 _ (List.mem_of_getElem? (i := 35) rfl))) rfl rfl rfl ⟨rfl, by decide, by decide, by decide +kernel⟩ ⟨Nat.le_of_ble_eq_true rfl, Nat.le_of_ble_eq_true rfl⟩) rfl ⟨_, _, _, _, _, _, rfl, rfl, rfl, rfl⟩ hK hN hs (fun w1 w2 h1 h2 => vi_kept_tr (by decide +kernel) h1 h2) (fun q hq => Or.inr hq) ⟨Nat.le_refl _, Nat.le_refl _⟩⟩, (fun ct2 h2 => by cases h2)⟩), ?_⟩
      refine List.forall_mem_cons.mpr ⟨(List.forall_mem_cons.mpr ⟨⟨rfl, vi_crS S (m_Hubcascade_lowerSpeed_0 l D cy hst) (cwS 2 S.2.2.2.2 (vgS (vm_5 _ (List.mem_of_getElem? (i := 3) rfl)) (vm_5 _ (List.mem_of_getElem? (i := 4) rfl)) (vm_4 _ (List.mem_of_getElem? (i := 20) rfl)) (vm_4 _ (List.mem_of_getElem? (i := 36) rfl))) rfl rfl rfl ⟨rfl, by decide, by decide, by decide +kernel⟩ ⟨Nat.le_of_ble_eq_true rfl, Nat.le_of_ble_eq_true rfl⟩) rfl hK hN hs (fun w1 w2 h1 h2 => vi_kept_tr (by decide +kernel) h1 h2) (fun q hq => Or.inr hq) ⟨Nat.le_refl _, Nat.le_refl _⟩⟩, (fun ct2 h2 => by cases h2)⟩), ?_⟩
      exact fun q hq => by cases hq
    · refine List.forall_mem_cons.mpr ⟨vi_throwS (WS := _ :: vWall) (text := "no such port") (ik := 154) (is := 156) (ic := 158) (X := "java/lang/IndexOutOfBoundsException") S.1 S.2.1 hst S.2.2.2.2 S.2.2.2.1 (by decide) (by decide) hT (by decide) (List.mem_cons_of_mem _ (vm_4 _ (List.mem_of_getElem? (i := 24) rfl))) (List.mem_cons_of_mem _ (vm_4 _ (List.mem_of_getElem? (i := 25) rfl))) (fun w h => List.mem_cons_of_mem _ (vmx_0 w h)) (by decide +kernel) (by decide +kernel) (by decide) S.2.2.1 (by decide +kernel) (by decide +kernel) (by decide +kernel) (by decide +kernel) (by decide +kernel) hout hlocks (Nat.le_of_ble_eq_true rfl) (Nat.le_of_ble_eq_true rfl) ⟨Nat.le_refl _, Nat.le_refl _⟩ (Nat.le_refl _) (fun _ h => h), ?_⟩
      refine List.forall_mem_cons.mpr ⟨vi_throwS (WS := _ :: vWall) (text := "it can\'t be plugged there") (ik := 139) (is := 167) (ic := 143) (X := "java/lang/UnsupportedOperationException") S.1 S.2.1 hst S.2.2.2.2 S.2.2.2.1 (by decide) (by decide) hT (by decide) (List.mem_cons_of_mem _ (vm_4 _ (List.mem_of_getElem? (i := 27) rfl))) (List.mem_cons_of_mem _ (vm_4 _ (List.mem_of_getElem? (i := 28) rfl))) (fun w h => List.mem_cons_of_mem _ (vmx_1 w h)) (by decide +kernel) (by decide +kernel) (by decide) S.2.2.1 (by decide +kernel) (by decide +kernel) (by decide +kernel) (by decide +kernel) (by decide +kernel) hout hlocks (Nat.le_of_ble_eq_true rfl) (Nat.le_of_ble_eq_true rfl) ⟨Nat.le_refl _, Nat.le_refl _⟩ (Nat.le_refl _) (fun _ h => h), ?_⟩
      refine List.forall_mem_cons.mpr ⟨vi_throwS (WS := _ :: vWall) (text := "it would be too deep") (ik := 139) (is := 169) (ic := 143) (X := "java/lang/UnsupportedOperationException") S.1 S.2.1 hst S.2.2.2.2 S.2.2.2.1 (by decide) (by decide) hT (by decide) (List.mem_cons_of_mem _ (vm_4 _ (List.mem_of_getElem? (i := 27) rfl))) (List.mem_cons_of_mem _ (vm_4 _ (List.mem_of_getElem? (i := 28) rfl))) (fun w h => List.mem_cons_of_mem _ (vmx_1 w h)) (by decide +kernel) (by decide +kernel) (by decide) S.2.2.1 (by decide +kernel) (by decide +kernel) (by decide +kernel) (by decide +kernel) (by decide +kernel) hout hlocks (Nat.le_of_ble_eq_true rfl) (Nat.le_of_ble_eq_true rfl) ⟨Nat.le_refl _, Nat.le_refl _⟩ (Nat.le_refl _) (fun _ h => h), ?_⟩
      exact fun q hq => by cases hq
end VC
section VC
noncomputable def q_Hubcascade_deviceBelowHost_0 : VCt := ([av_37, av_6], [], [([av_30], [av_38, av_15], [], [])], [], 1)
noncomputable def mt_Hubcascade_deviceBelowHost_0 : List (Nat × Bool × Nat × List VCt) := [(124, false, 2, [q_Hubcascade_deviceAt_0])]
noncomputable def fp_Hubcascade_deviceBelowHost_0 : List (Nat × Nat × Nat × Nat) := []
noncomputable def pt_Hubcascade_deviceBelowHost_0_0 : List (Nat × VS) := [(0, ([av_37, av_6], [], [], 0))]
set_option maxRecDepth 100000 in
theorem k_Hubcascade_deviceBelowHost_0 : vi_chk vK vSG 2 q_Hubcascade_deviceBelowHost_0.2.2.2.2 vFT_X9 fp_Hubcascade_deviceBelowHost_0 vCT_X9 vC2_X9 [4] mt_Hubcascade_deviceBelowHost_0 cX9_deviceBelowHost [] 400 pt_Hubcascade_deviceBelowHost_0_0 q_Hubcascade_deviceBelowHost_0 [] = true := by decide +kernel
set_option maxHeartbeats 4000000 in
theorem m_Hubcascade_deviceBelowHost_0 (l : Launch) (D : va_G) (cy : Nat → ClassId) (hst : l.stackTraces = false) : vi_Mx l D cy vK vSG yX9_deviceBelowHost (Cond.code yX9_deviceBelowHost cX9_deviceBelowHost 2 (some (.object "Hubcascade$Device")) :: vWall) 7 111 q_Hubcascade_deviceBelowHost_0 ["java/lang/IndexOutOfBoundsException"] := by
  refine vi_Mx_of (own := RX9) (J := []) (f := 400) (XP := [4]) (FT := vFT_X9) (FP := fp_Hubcascade_deviceBelowHost_0) (CT := vCT_X9) (C2 := vC2_X9) (MT := mt_Hubcascade_deviceBelowHost_0) (by decide) rfl rfl (by decide +kernel) (by decide +kernel) (vK_ty cy) k_Hubcascade_deviceBelowHost_0 ?_
  · intro p e s m below meth c ad τ w av S hK hN hs hT hout hlocks
    refine ⟨vfg_X9 S hK hN, ?_, vct_X9 S, vc2_X9 S, ?_, ?_⟩
    · exact fun i ci k d9 h => by cases h
    · refine vi_f4 (L := mt_Hubcascade_deviceBelowHost_0) ?_
      refine List.forall_mem_cons.mpr ⟨(List.forall_mem_cons.mpr ⟨⟨rfl, vi_crX S (m_Hubcascade_deviceAt_0 l D cy hst) (cwV 1 S.2.2.2.2 (vgV (vm_4 _ (List.mem_of_getElem? (i := 29) rfl)) (vm_4 _ (List.mem_of_getElem? (i := 30) rfl)) (vm_4 _ (List.mem_of_getElem? (i := 31) rfl)) (vm_4 _ (List.mem_of_getElem? (i := 20) rfl)) (vm_4 _ (List.mem_of_getElem? (i := 23) rfl))) rfl rfl rfl ⟨rfl, by decide, by decide, by decide +kernel⟩ ⟨Nat.le_of_ble_eq_true rfl, Nat.le_of_ble_eq_true rfl⟩) rfl ⟨_, _, _, _, _, _, rfl, rfl, rfl, rfl⟩ hK hN hs hT (fun w1 w2 h1 h2 => vi_kept_tr (by decide +kernel) h1 h2) (fun _ h => h) ⟨Nat.le_refl _, Nat.le_refl _⟩ (by decide) hout hlocks (Nat.le_refl _)⟩, (fun ct2 h2 => by cases h2)⟩), ?_⟩
      exact fun q hq => by cases hq
    · refine List.forall_mem_cons.mpr ⟨vi_throwSW (WS := _ :: vWall) (text := "not for the host\'s hub") (ik := 154) (is := 530) (ic := 158) (X := "java/lang/IndexOutOfBoundsException") S.1 S.2.1 hst S.2.2.2.2 S.2.2.2.1 (by decide) (by decide) hT (by decide) (List.mem_cons_of_mem _ (vm_4 _ (List.mem_of_getElem? (i := 24) rfl))) (List.mem_cons_of_mem _ (vm_4 _ (List.mem_of_getElem? (i := 25) rfl))) (fun w h => List.mem_cons_of_mem _ (vmx_0 w h)) (by decide +kernel) (by decide +kernel) (by decide) S.2.2.1 (by decide +kernel) (by decide +kernel) (by decide +kernel) (by decide +kernel) (by decide +kernel) hout hlocks (Nat.le_of_ble_eq_true rfl) (Nat.le_of_ble_eq_true rfl) ⟨Nat.le_refl _, Nat.le_refl _⟩ (Nat.le_refl _) (fun _ h => h), ?_⟩
      exact fun q hq => by cases hq
end VC
section VC
noncomputable def q_Hubcascade_isSameOrBelow_0 : VCt := ([av_30, av_30], [], [([(vC 1)], [], [], []), ([(vC 0)], [], [], [])], [], 0)
noncomputable def mt_Hubcascade_isSameOrBelow_0 : List (Nat × Bool × Nat × List VCt) := []
noncomputable def fp_Hubcascade_isSameOrBelow_0 : List (Nat × Nat × Nat × Nat) := []
noncomputable def pt_Hubcascade_isSameOrBelow_0_0 : List (Nat × VS) := [(0, ([av_30, av_30, av_38, av_38], [], [], 0)), (4, ([av_30, av_30, av_30, (vC 0)], [], [], 0)), (4, ([av_30, av_30, av_19, (vC 1)], [], [], 0)), (4, ([av_30, av_30, av_19, (vC 2)], [], [], 0)), (4, ([av_30, av_30, av_19, (vC 3)], [], [], 0)), (4, ([av_30, av_30, av_19, (vC 4)], [], [], 0)), (4, ([av_30, av_30, av_19, (vC 5)], [], [], 0)), (4, ([av_30, av_30, av_19, (vC 6)], [], [], 0)), (4, ([av_30, av_30, av_19, (vC 7)], [], [], 0)), (4, ([av_30, av_30, av_19, (vC 8)], [], [], 0)), (4, ([av_30, av_30, av_19, (vC 9)], [], [], 0)), (4, ([av_30, av_30, av_19, (vC 10)], [], [], 0)), (4, ([av_30, av_30, av_19, (vC 11)], [], [], 0)), (4, ([av_30, av_30, av_19, (vC 12)], [], [], 0)), (4, ([av_30, av_30, av_19, (vC 13)], [], [], 0)), (4, ([av_30, av_30, av_19, (vC 14)], [], [], 0)), (4, ([av_30, av_30, av_19, (vC 15)], [], [], 0)), (4, ([av_30, av_30, av_19, (vC 16)], [], [], 0))]
set_option maxRecDepth 100000 in
theorem k_Hubcascade_isSameOrBelow_0 : vi_chk vK vSG 4 0 vFT_X9 fp_Hubcascade_isSameOrBelow_0 vCT_X9 vC2_X9 [] mt_Hubcascade_isSameOrBelow_0 cX9_isSameOrBelow [4] 400 pt_Hubcascade_isSameOrBelow_0_0 q_Hubcascade_isSameOrBelow_0 [] = true := by decide +kernel
set_option maxHeartbeats 4000000 in
theorem m_Hubcascade_isSameOrBelow_0 (l : Launch) (D : va_G) (cy : Nat → ClassId) (hst : l.stackTraces = false) : vi_Mn l D cy vK vSG yX9_isSameOrBelow (Cond.code yX9_isSameOrBelow cX9_isSameOrBelow 4 (some .boolean) :: vWall) 0 0 q_Hubcascade_isSameOrBelow_0 := by
  refine vi_Mn_of (own := RX9) (J := [4]) (f := 400) (FT := vFT_X9) (FP := fp_Hubcascade_isSameOrBelow_0) (CT := vCT_X9) (C2 := vC2_X9) (MT := mt_Hubcascade_isSameOrBelow_0) (by decide) rfl rfl rfl (by decide +kernel) (by decide +kernel) (vK_ty cy) k_Hubcascade_isSameOrBelow_0 ?_
  · intro p e s m below meth c ad τ w av S hK hN hs
    refine ⟨vfg_X9 S hK hN, ?_, vct_X9 S, vc2_X9 S, ?_⟩
    · exact fun i ci k d9 h => by cases h
    · exact fun i sta k cts h => by cases h
end VC
section VC
noncomputable def q_Hubcascade_hostCost_0 : VCt := ([av_6], [], [([av_6], [], [], [])], [], 0)
noncomputable def mt_Hubcascade_hostCost_0 : List (Nat × Bool × Nat × List VCt) := []
noncomputable def fp_Hubcascade_hostCost_0 : List (Nat × Nat × Nat × Nat) := []
noncomputable def pt_Hubcascade_hostCost_0_0 : List (Nat × VS) := [(0, ([av_6], [], [], 0))]
set_option maxRecDepth 100000 in
theorem k_Hubcascade_hostCost_0 : vi_chk vK vSG 1 0 vFT_X9 fp_Hubcascade_hostCost_0 vCT_X9 vC2_X9 [] mt_Hubcascade_hostCost_0 cX9_hostCost [] 400 pt_Hubcascade_hostCost_0_0 q_Hubcascade_hostCost_0 [] = true := by decide +kernel
set_option maxHeartbeats 4000000 in
theorem m_Hubcascade_hostCost_0 (l : Launch) (D : va_G) (cy : Nat → ClassId) (hst : l.stackTraces = false) : vi_Mn l D cy vK vSG yX9_hostCost (Cond.code yX9_hostCost cX9_hostCost 1 (some .int) :: vWall) 0 0 q_Hubcascade_hostCost_0 := by
  refine vi_Mn_of (own := RX9) (J := []) (f := 400) (FT := vFT_X9) (FP := fp_Hubcascade_hostCost_0) (CT := vCT_X9) (C2 := vC2_X9) (MT := mt_Hubcascade_hostCost_0) (by decide) rfl rfl rfl (by decide +kernel) (by decide +kernel) (vK_ty cy) k_Hubcascade_hostCost_0 ?_
  · intro p e s m below meth c ad τ w av S hK hN hs
    refine ⟨vfg_X9 S hK hN, ?_, vct_X9 S, vc2_X9 S, ?_⟩
    · exact fun i ci k d9 h => by cases h
    · exact fun i sta k cts h => by cases h
end VC
section VC
noncomputable def q_Hubcascade_hubCost_0 : VCt := ([av_16, av_6], [], [([av_6], [], [], [])], [], 0)
noncomputable def mt_Hubcascade_hubCost_0 : List (Nat × Bool × Nat × List VCt) := []
noncomputable def fp_Hubcascade_hubCost_0 : List (Nat × Nat × Nat × Nat) := []
noncomputable def pt_Hubcascade_hubCost_0_0 : List (Nat × VS) := [(0, ([av_16, av_6], [], [], 0))]
set_option maxRecDepth 100000 in
theorem k_Hubcascade_hubCost_0 : vi_chk vK vSG 2 0 vFT_X9 fp_Hubcascade_hubCost_0 vCT_X9 vC2_X9 [] mt_Hubcascade_hubCost_0 cX9_hubCost [] 400 pt_Hubcascade_hubCost_0_0 q_Hubcascade_hubCost_0 [] = true := by decide +kernel
set_option maxHeartbeats 4000000 in
theorem m_Hubcascade_hubCost_0 (l : Launch) (D : va_G) (cy : Nat → ClassId) (hst : l.stackTraces = false) : vi_Mn l D cy vK vSG yX9_hubCost (Cond.code yX9_hubCost cX9_hubCost 2 (some .int) :: vWall) 0 0 q_Hubcascade_hubCost_0 := by
  refine vi_Mn_of (own := RX9) (J := []) (f := 400) (FT := vFT_X9) (FP := fp_Hubcascade_hubCost_0) (CT := vCT_X9) (C2 := vC2_X9) (MT := mt_Hubcascade_hubCost_0) (by decide) rfl rfl rfl (by decide +kernel) (by decide +kernel) (vK_ty cy) k_Hubcascade_hubCost_0 ?_
  · intro p e s m below meth c ad τ w av S hK hN hs
    refine ⟨vfg_X9 S hK hN, ?_, vct_X9 S, vc2_X9 S, ?_⟩
    · exact fun i ci k d9 h => by cases h
    · exact fun i sta k cts h => by cases h
end VC
section VC
noncomputable def q_Pipe_isDueIn_0 : VCt := ([av_32, av_6], [], [([(vC 0)], [], [], []), ([(vC 1)], [], [], [])], [], 0)
noncomputable def mt_Pipe_isDueIn_0 : List (Nat × Bool × Nat × List VCt) := []
noncomputable def fp_Pipe_isDueIn_0 : List (Nat × Nat × Nat × Nat) := []
noncomputable def pt_Pipe_isDueIn_0_0 : List (Nat × VS) := [(0, ([av_32, av_6], [], [], 0))]
set_option maxRecDepth 100000 in
theorem k_Pipe_isDueIn_0 : vi_chk vK vSG 2 0 vFT_X5 fp_Pipe_isDueIn_0 vCT_X5 vC2_X5 [] mt_Pipe_isDueIn_0 cX5_isDueIn [] 400 pt_Pipe_isDueIn_0_0 q_Pipe_isDueIn_0 [] = true := by decide +kernel
set_option maxHeartbeats 4000000 in
theorem m_Pipe_isDueIn_0 (l : Launch) (D : va_G) (cy : Nat → ClassId) (hst : l.stackTraces = false) : vi_Mn l D cy vK vSG yX5_isDueIn (Cond.code yX5_isDueIn cX5_isDueIn 2 (some .boolean) :: vWall) 0 0 q_Pipe_isDueIn_0 := by
  refine vi_Mn_of (own := RX5) (J := []) (f := 400) (FT := vFT_X5) (FP := fp_Pipe_isDueIn_0) (CT := vCT_X5) (C2 := vC2_X5) (MT := mt_Pipe_isDueIn_0) (by decide) rfl rfl rfl (by decide +kernel) (by decide +kernel) (vK_ty cy) k_Pipe_isDueIn_0 ?_
  · intro p e s m below meth c ad τ w av S hK hN hs
    refine ⟨vfg_X5 S hK hN, ?_, vct_X5 S, vc2_X5 S, ?_⟩
    · exact fun i ci k d9 h => by cases h
    · exact fun i sta k cts h => by cases h
end VC
section VC
noncomputable def q_Units_reserve_0 : VCt := ([av_9, av_6, av_6, av_6, av_6], [], [([], [], [], [])], [(200, 13, 0), (200, 21, 0)], 0)
noncomputable def mt_Units_reserve_0 : List (Nat × Bool × Nat × List VCt) := []
noncomputable def fp_Units_reserve_0 : List (Nat × Nat × Nat × Nat) := [(100013, 200, 13, 0), (100021, 200, 21, 0)]
noncomputable def pt_Units_reserve_0_0 : List (Nat × VS) := [(0, ([av_9, av_6, av_6, av_6, av_6], [], [], 0))]
set_option maxRecDepth 100000 in
theorem k_Units_reserve_0 : vi_chk vK vSG 5 0 vFT_X8 fp_Units_reserve_0 vCT_X8 vC2_X8 [] mt_Units_reserve_0 cX8_reserve [] 400 pt_Units_reserve_0_0 q_Units_reserve_0 [] = true := by decide +kernel
set_option maxHeartbeats 4000000 in
theorem m_Units_reserve_0 (l : Launch) (D : va_G) (cy : Nat → ClassId) (hst : l.stackTraces = false) : vi_Mn l D cy vK vSG yX8_reserve (Cond.code yX8_reserve cX8_reserve 5 none :: vWall) 0 0 q_Units_reserve_0 := by
  refine vi_Mn_of (own := RX8) (J := []) (f := 400) (FT := vFT_X8) (FP := fp_Units_reserve_0) (CT := vCT_X8) (C2 := vC2_X8) (MT := mt_Units_reserve_0) (by decide) rfl rfl rfl (by decide +kernel) (by decide +kernel) (vK_ty cy) k_Units_reserve_0 ?_
  · intro p e s m below meth c ad τ w av S hK hN hs
    refine ⟨vfg_X8 S hK hN, ?_, vct_X8 S, vc2_X8 S, ?_⟩
    · refine vi_f4 (L := fp_Units_reserve_0) ?_
      refine List.forall_mem_cons.mpr ⟨fun d x fs b v h1 h2 h3 => absurd h1 (vK_200 d x fs), ?_⟩
      refine List.forall_mem_cons.mpr ⟨fun d x fs b v h1 h2 h3 => absurd h1 (vK_200 d x fs), ?_⟩
      exact fun q hq => by cases hq
    · exact fun i sta k cts h => by cases h
end VC
section VC
noncomputable def q_Hubcascade_reserveFor_0 : VCt := ([av_37, av_32, av_30, av_31, av_6], [], [([], [], [], [])], [(200, 13, 0), (200, 21, 0)], 0)
noncomputable def mt_Hubcascade_reserveFor_0 : List (Nat × Bool × Nat × List VCt) := [(301, true, 1, [q_Hubcascade_hostCost_0]), (304, true, 2, [q_Hubcascade_hubCost_0]), (430, false, 2, [q_Pipe_isDueIn_0]), (570, false, 5, [q_Units_reserve_0])]
noncomputable def fp_Hubcascade_reserveFor_0 : List (Nat × Nat × Nat × Nat) := []
noncomputable def pt_Hubcascade_reserveFor_0_0 : List (Nat × VS) := [(0, ([av_37, av_32, av_30, av_31, av_6, av_38, av_38, av_38], [], [], 0)), (31, ([av_37, av_32, av_30, av_31, av_6, av_6, av_6, (vC 0)], [], [], 0)), (31, ([av_37, av_32, av_30, av_31, av_6, av_6, av_6, (vC 1)], [], [], 0)), (31, ([av_37, av_32, av_30, av_31, av_6, av_6, av_6, (vC 2)], [], [], 0)), (31, ([av_37, av_32, av_30, av_31, av_6, av_6, av_6, (vC 3)], [], [], 0)), (31, ([av_37, av_32, av_30, av_31, av_6, av_6, av_6, (vC 4)], [], [], 0)), (31, ([av_37, av_32, av_30, av_31, av_6, av_6, av_6, (vC 5)], [], [], 0)), (31, ([av_37, av_32, av_30, av_31, av_6, av_6, av_6, (vC 6)], [], [], 0)), (31, ([av_37, av_32, av_30, av_31, av_6, av_6, av_6, (vC 7)], [], [], 0)), (31, ([av_37, av_32, av_30, av_31, av_6, av_6, av_6, (vC 8)], [], [], 0))]
set_option maxRecDepth 100000 in
theorem k_Hubcascade_reserveFor_0 : vi_chk vK vSG 8 0 vFT_X9 fp_Hubcascade_reserveFor_0 vCT_X9 vC2_X9 [] mt_Hubcascade_reserveFor_0 cX9_reserveFor [31] 400 pt_Hubcascade_reserveFor_0_0 q_Hubcascade_reserveFor_0 [] = true := by decide +kernel
set_option maxHeartbeats 4000000 in
theorem m_Hubcascade_reserveFor_0 (l : Launch) (D : va_G) (cy : Nat → ClassId) (hst : l.stackTraces = false) : vi_Mn l D cy vK vSG yX9_reserveFor (Cond.code yX9_reserveFor cX9_reserveFor 8 none :: vWall) 1 24 q_Hubcascade_reserveFor_0 := by
  refine vi_Mn_of (own := RX9) (J := [31]) (f := 400) (FT := vFT_X9) (FP := fp_Hubcascade_reserveFor_0) (CT := vCT_X9) (C2 := vC2_X9) (MT := mt_Hubcascade_reserveFor_0) (by decide) rfl rfl rfl (by decide +kernel) (by decide +kernel) (vK_ty cy) k_Hubcascade_reserveFor_0 ?_
  · intro p e s m below meth c ad τ w av S hK hN hs
    refine ⟨vfg_X9 S hK hN, ?_, vct_X9 S, vc2_X9 S, ?_⟩
    · exact fun i ci k d9 h => by cases h
    · refine vi_f4 (L := mt_Hubcascade_reserveFor_0) ?_
      refine List.forall_mem_cons.mpr ⟨(List.forall_mem_cons.mpr ⟨⟨rfl, vi_crS S (m_Hubcascade_hostCost_0 l D cy hst) (cwS 1 S.2.2.2.2 (vgS (vm_5 _ (List.mem_of_getElem? (i := 10) rfl)) (vm_5 _ (List.mem_of_getElem? (i := 11) rfl)) (vm_4 _ (List.mem_of_getElem? (i := 20) rfl)) (vm_5 _ (List.mem_of_getElem? (i := 7) rfl))) rfl rfl rfl ⟨rfl, by decide, by decide, by decide +kernel⟩ ⟨Nat.le_of_ble_eq_true rfl, Nat.le_of_ble_eq_true rfl⟩) rfl hK hN hs (fun w1 w2 h1 h2 => vi_kept_tr (by decide +kernel) h1 h2) (fun q hq => Or.inr hq) ⟨Nat.le_refl _, Nat.le_refl _⟩⟩, (fun ct2 h2 => by cases h2)⟩), ?_⟩
      refine List.forall_mem_cons.mpr ⟨(List.forall_mem_cons.mpr ⟨⟨rfl, vi_crS S (m_Hubcascade_hubCost_0 l D cy hst) (cwS 2 S.2.2.2.2 (vgS (vm_5 _ (List.mem_of_getElem? (i := 12) rfl)) (vm_5 _ (List.mem_of_getElem? (i := 13) rfl)) (vm_4 _ (List.mem_of_getElem? (i := 20) rfl)) (vm_5 _ (List.mem_of_getElem? (i := 8) rfl))) rfl rfl rfl ⟨rfl, by decide, by decide, by decide +kernel⟩ ⟨Nat.le_of_ble_eq_true rfl, Nat.le_of_ble_eq_true rfl⟩) rfl hK hN hs (fun w1 w2 h1 h2 => vi_kept_tr (by decide +kernel) h1 h2) (fun q hq => Or.inr hq) ⟨Nat.le_refl _, Nat.le_refl _⟩⟩, (fun ct2 h2 => by cases h2)⟩), ?_⟩
      refine List.forall_mem_cons.mpr ⟨(List.forall_mem_cons.mpr ⟨⟨rfl, vi_crVN S (m_Pipe_isDueIn_0 l D cy hst) ⟨va_cnB 1 S.2.2.2.2 (vgN (vm_2 _ (List.mem_of_getElem? (i := 24) rfl))) rfl rfl rfl (hN.1 _ nf_127) (S.2.2.2.2 _ (List.mem_cons_of_mem _ (vm_2 _ (List.mem_of_getElem? (i := 22) rfl)))) ⟨by decide, by decide, by decide +kernel⟩ ⟨Nat.le_of_ble_eq_true rfl, Nat.le_of_ble_eq_true rfl⟩, S.2.2.2.2 _ (List.mem_cons_of_mem _ (vm_5 _ (List.mem_of_getElem? (i := 14) rfl))), S.2.2.2.2 _ (List.mem_cons_of_mem _ (vm_5 _ (List.mem_of_getElem? (i := 15) rfl)))⟩ rfl ⟨_, _, _, _, _, _, rfl, rfl, rfl, rfl⟩ hK hN hs (fun w1 w2 h1 h2 => vi_kept_tr (by decide +kernel) h1 h2) (fun q hq => Or.inr hq) ⟨Nat.le_refl _, Nat.le_refl _⟩⟩, (fun ct2 h2 => by cases h2)⟩), ?_⟩
      refine List.forall_mem_cons.mpr ⟨(List.forall_mem_cons.mpr ⟨⟨rfl, vi_crVN S (m_Units_reserve_0 l D cy hst) ⟨va_cnB 4 S.2.2.2.2 (vgN (vm_3 _ (List.mem_of_getElem? (i := 5) rfl))) rfl rfl rfl (hN.1 _ nf_128) (S.2.2.2.2 _ (List.mem_cons_of_mem _ (vm_3 _ (List.mem_of_getElem? (i := 15) rfl)))) ⟨by decide, by decide, by decide +kernel⟩ ⟨Nat.le_of_ble_eq_true rfl, Nat.le_of_ble_eq_true rfl⟩, S.2.2.2.2 _ (List.mem_cons_of_mem _ (vm_5 _ (List.mem_of_getElem? (i := 16) rfl))), S.2.2.2.2 _ (List.mem_cons_of_mem _ (vm_5 _ (List.mem_of_getElem? (i := 17) rfl)))⟩ rfl ⟨_, _, _, _, _, _, rfl, rfl, rfl, rfl⟩ hK hN hs (fun w1 w2 h1 h2 => vi_kept_tr (by decide +kernel) h1 h2) (fun q hq => Or.inr hq) ⟨Nat.le_refl _, Nat.le_refl _⟩⟩, (fun ct2 h2 => by cases h2)⟩), ?_⟩
      exact fun q hq => by cases hq
end VC
