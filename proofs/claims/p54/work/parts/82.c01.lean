section VC
noncomputable def q_Pipe_detach_0 : VCt := ([av_32], [], [([], [], [], [])], [(7, 2, 5), (10, 1, 7), (10, 2, 7)], 0)
noncomputable def mt_Pipe_detach_0 : List (Nat × Bool × Nat × List VCt) := []
noncomputable def fp_Pipe_detach_0 : List (Nat × Nat × Nat × Nat) := [(35, 10, 1, 7), (39, 10, 2, 7), (43, 7, 2, 5)]
noncomputable def pt_Pipe_detach_0_0 : List (Nat × VS) := [(0, ([av_32], [], [], 0))]
set_option maxRecDepth 100000 in
theorem k_Pipe_detach_0 : vi_chk vK vSG 1 0 vFT_X5 fp_Pipe_detach_0 vCT_X5 vC2_X5 [] mt_Pipe_detach_0 cX5_detach [] 400 pt_Pipe_detach_0_0 q_Pipe_detach_0 [] = true := by decide +kernel
set_option maxHeartbeats 4000000 in
theorem m_Pipe_detach_0 (l : Launch) (D : va_G) (cy : Nat → ClassId) (hst : l.stackTraces = false) : vi_Mn l D cy vK vSG yX5_detach (Cond.code yX5_detach cX5_detach 1 none :: vWall) 0 0 q_Pipe_detach_0 := by
  refine vi_Mn_of (own := RX5) (J := []) (f := 400) (FT := vFT_X5) (FP := fp_Pipe_detach_0) (CT := vCT_X5) (C2 := vC2_X5) (MT := mt_Pipe_detach_0) (by decide) rfl rfl rfl (by decide +kernel) (by decide +kernel) (vK_ty cy) k_Pipe_detach_0 ?_
  · intro p e s m below meth c ad τ w av S hK hN hs
    refine ⟨vfg_X5 S hK hN, ?_, vct_X5 S, vc2_X5 S, ?_⟩
    · refine vi_f4 (L := fp_Pipe_detach_0) ?_
      refine List.forall_mem_cons.mpr ⟨fun d x fs b v h1 h2 h3 => vfp_X5_35_10_1 S hK hN (vTy_ok h1 h2 h3), ?_⟩
      refine List.forall_mem_cons.mpr ⟨fun d x fs b v h1 h2 h3 => vfp_X5_39_10_2 S hK hN (vTy_ok h1 h2 h3), ?_⟩
      refine List.forall_mem_cons.mpr ⟨fun d x fs b v h1 h2 h3 => vfp_X5_43_7_2 S hK hN (vTy_ok h1 h2 h3), ?_⟩
      exact fun q hq => by cases hq
    · exact fun i sta k cts h => by cases h
end VC
section VC
noncomputable def q_Pipe_transferAt_0 : VCt := ([av_32, av_6], [], [([av_33], [], [], [])], [], 0)
noncomputable def mt_Pipe_transferAt_0 : List (Nat × Bool × Nat × List VCt) := []
noncomputable def fp_Pipe_transferAt_0 : List (Nat × Nat × Nat × Nat) := []
noncomputable def pt_Pipe_transferAt_0_0 : List (Nat × VS) := [(0, ([av_32, av_6], [], [], 0))]
set_option maxRecDepth 100000 in
theorem k_Pipe_transferAt_0 : vi_chk vK vSG 2 0 vFT_X5 fp_Pipe_transferAt_0 vCT_X5 vC2_X5 [] mt_Pipe_transferAt_0 cX5_transferAt [] 400 pt_Pipe_transferAt_0_0 q_Pipe_transferAt_0 [] = true := by decide +kernel
set_option maxHeartbeats 4000000 in
theorem m_Pipe_transferAt_0 (l : Launch) (D : va_G) (cy : Nat → ClassId) (hst : l.stackTraces = false) : vi_Mn l D cy vK vSG yX5_transferAt (Cond.code yX5_transferAt cX5_transferAt 2 (some (.object "Hubcascade$Transfer")) :: vWall) 0 0 q_Pipe_transferAt_0 := by
  refine vi_Mn_of (own := RX5) (J := []) (f := 400) (FT := vFT_X5) (FP := fp_Pipe_transferAt_0) (CT := vCT_X5) (C2 := vC2_X5) (MT := mt_Pipe_transferAt_0) (by decide) rfl rfl rfl (by decide +kernel) (by decide +kernel) (vK_ty cy) k_Pipe_transferAt_0 ?_
  · intro p e s m below meth c ad τ w av S hK hN hs
    refine ⟨vfg_X5 S hK hN, ?_, vct_X5 S, vc2_X5 S, ?_⟩
    · exact fun i ci k d9 h => by cases h
    · exact fun i sta k cts h => by cases h
end VC
section VC
noncomputable def q_Events_put_0 : VCt := ([av_10, av_16, av_6, av_6], [], [([], [], [], [])], [(8, 4, 19), (8, 5, 19), (8, 6, 19), (8, 7, 19), (200, 12, 0), (200, 14, 0)], 0)
noncomputable def mt_Events_put_0 : List (Nat × Bool × Nat × List VCt) := []
noncomputable def fp_Events_put_0 : List (Nat × Nat × Nat × Nat) := [(26, 8, 6, 19), (29, 8, 7, 19), (32, 8, 4, 19), (35, 8, 5, 19), (100012, 200, 12, 0), (100014, 200, 14, 0)]
noncomputable def pt_Events_put_0_0 : List (Nat × VS) := [(0, ([av_10, av_16, av_6, av_6, av_38], [], [], 0))]
set_option maxRecDepth 100000 in
theorem k_Events_put_0 : vi_chk vK vSG 5 0 vFT_X3 fp_Events_put_0 vCT_X3 vC2_X3 [] mt_Events_put_0 cX3_put [] 400 pt_Events_put_0_0 q_Events_put_0 [] = true := by decide +kernel
set_option maxHeartbeats 4000000 in
theorem m_Events_put_0 (l : Launch) (D : va_G) (cy : Nat → ClassId) (hst : l.stackTraces = false) : vi_Mn l D cy vK vSG yX3_put (Cond.code yX3_put cX3_put 5 none :: vWall) 0 0 q_Events_put_0 := by
  refine vi_Mn_of (own := RX3) (J := []) (f := 400) (FT := vFT_X3) (FP := fp_Events_put_0) (CT := vCT_X3) (C2 := vC2_X3) (MT := mt_Events_put_0) (by decide) rfl rfl rfl (by decide +kernel) (by decide +kernel) (vK_ty cy) k_Events_put_0 ?_
  · intro p e s m below meth c ad τ w av S hK hN hs
    refine ⟨vfg_X3 S hK hN, ?_, vct_X3 S, vc2_X3 S, ?_⟩
    · refine vi_f4 (L := fp_Events_put_0) ?_
      refine List.forall_mem_cons.mpr ⟨fun d x fs b v h1 h2 h3 => vfp_X3_26_8_6 S hK hN (vTy_ok h1 h2 h3), ?_⟩
      refine List.forall_mem_cons.mpr ⟨fun d x fs b v h1 h2 h3 => vfp_X3_29_8_7 S hK hN (vTy_ok h1 h2 h3), ?_⟩
      refine List.forall_mem_cons.mpr ⟨fun d x fs b v h1 h2 h3 => vfp_X3_32_8_4 S hK hN (vTy_ok h1 h2 h3), ?_⟩
      refine List.forall_mem_cons.mpr ⟨fun d x fs b v h1 h2 h3 => vfp_X3_35_8_5 S hK hN (vTy_ok h1 h2 h3), ?_⟩
      refine List.forall_mem_cons.mpr ⟨fun d x fs b v h1 h2 h3 => absurd h1 (vK_200 d x fs), ?_⟩
      refine List.forall_mem_cons.mpr ⟨fun d x fs b v h1 h2 h3 => absurd h1 (vK_200 d x fs), ?_⟩
      exact fun q hq => by cases hq
    · exact fun i sta k cts h => by cases h
end VC
section VC
noncomputable def q_Pipe_dropFirst_0 : VCt := ([av_32], [(ao_45, (vC 1))], [([], [], [(ao_45, (vC 0))], [])], [(10, 12, 7), (10, 13, 7)], 0)
noncomputable def mt_Pipe_dropFirst_0 : List (Nat × Bool × Nat × List VCt) := []
noncomputable def fp_Pipe_dropFirst_0 : List (Nat × Nat × Nat × Nat) := [(65, 10, 12, 7), (68, 10, 13, 7)]
noncomputable def pt_Pipe_dropFirst_0_0 : List (Nat × VS) := [(0, ([av_32], [], [(ao_45, (vC 1))], 0))]
set_option maxRecDepth 100000 in
theorem k_Pipe_dropFirst_0 : vi_chk vK vSG 1 0 vFT_X5 fp_Pipe_dropFirst_0 vCT_X5 vC2_X5 [] mt_Pipe_dropFirst_0 cX5_dropFirst [] 400 pt_Pipe_dropFirst_0_0 q_Pipe_dropFirst_0 [] = true := by decide +kernel
set_option maxHeartbeats 4000000 in
theorem m_Pipe_dropFirst_0 (l : Launch) (D : va_G) (cy : Nat → ClassId) (hst : l.stackTraces = false) : vi_Mn l D cy vK vSG yX5_dropFirst (Cond.code yX5_dropFirst cX5_dropFirst 1 none :: vWall) 0 0 q_Pipe_dropFirst_0 := by
  refine vi_Mn_of (own := RX5) (J := []) (f := 400) (FT := vFT_X5) (FP := fp_Pipe_dropFirst_0) (CT := vCT_X5) (C2 := vC2_X5) (MT := mt_Pipe_dropFirst_0) (by decide) rfl rfl rfl (by decide +kernel) (by decide +kernel) (vK_ty cy) k_Pipe_dropFirst_0 ?_
  · intro p e s m below meth c ad τ w av S hK hN hs
    refine ⟨vfg_X5 S hK hN, ?_, vct_X5 S, vc2_X5 S, ?_⟩
    · refine vi_f4 (L := fp_Pipe_dropFirst_0) ?_
      refine List.forall_mem_cons.mpr ⟨fun d x fs b v h1 h2 h3 => vfp_X5_65_10_12 S hK hN (vTy_ok h1 h2 h3), ?_⟩
      refine List.forall_mem_cons.mpr ⟨fun d x fs b v h1 h2 h3 => vfp_X5_68_10_13 S hK hN (vTy_ok h1 h2 h3), ?_⟩
      exact fun q hq => by cases hq
    · exact fun i sta k cts h => by cases h
end VC
section VC
noncomputable def q_Hubcascade_endFirst_0 : VCt := ([av_37, av_32, av_16], [(ao_46, (vC 1))], [([], [], [(ao_46, (vC 0))], [])], [(8, 4, 19), (8, 5, 19), (8, 6, 19), (8, 7, 19), (10, 12, 7), (10, 13, 7), (200, 12, 0), (200, 14, 0)], 0)
noncomputable def mt_Hubcascade_endFirst_0 : List (Nat × Bool × Nat × List VCt) := [(374, false, 2, [q_Pipe_transferAt_0]), (563, false, 4, [q_Events_put_0]), (567, false, 1, [q_Pipe_dropFirst_0])]
noncomputable def fp_Hubcascade_endFirst_0 : List (Nat × Nat × Nat × Nat) := []
noncomputable def pt_Hubcascade_endFirst_0_0 : List (Nat × VS) := [(0, ([av_37, av_32, av_16], [], [(ao_46, (vC 1))], 0))]
set_option maxRecDepth 100000 in
theorem k_Hubcascade_endFirst_0 : vi_chk vK vSG 3 0 vFT_X9 fp_Hubcascade_endFirst_0 vCT_X9 vC2_X9 [] mt_Hubcascade_endFirst_0 cX9_endFirst [] 400 pt_Hubcascade_endFirst_0_0 q_Hubcascade_endFirst_0 [] = true := by decide +kernel
set_option maxHeartbeats 4000000 in
theorem m_Hubcascade_endFirst_0 (l : Launch) (D : va_G) (cy : Nat → ClassId) (hst : l.stackTraces = false) : vi_Mn l D cy vK vSG yX9_endFirst (Cond.code yX9_endFirst cX9_endFirst 3 none :: vWall) 1 24 q_Hubcascade_endFirst_0 := by
  refine vi_Mn_of (own := RX9) (J := []) (f := 400) (FT := vFT_X9) (FP := fp_Hubcascade_endFirst_0) (CT := vCT_X9) (C2 := vC2_X9) (MT := mt_Hubcascade_endFirst_0) (by decide) rfl rfl rfl (by decide +kernel) (by decide +kernel) (vK_ty cy) k_Hubcascade_endFirst_0 ?_
  · intro p e s m below meth c ad τ w av S hK hN hs
    refine ⟨vfg_X9 S hK hN, ?_, vct_X9 S, vc2_X9 S, ?_⟩
    · exact fun i ci k d9 h => by cases h
    · refine vi_f4 (L := mt_Hubcascade_endFirst_0) ?_
      refine List.forall_mem_cons.mpr ⟨(List.forall_mem_cons.mpr ⟨⟨rfl, vi_crVN S (m_Pipe_transferAt_0 l D cy hst) ⟨va_cnB 1 S.2.2.2.2 (vgN (vm_2 _ (List.mem_of_getElem? (i := 25) rfl))) rfl rfl rfl (hN.1 _ nf_129) (S.2.2.2.2 _ (List.mem_cons_of_mem _ (vm_2 _ (List.mem_of_getElem? (i := 22) rfl)))) ⟨by decide, by decide, by decide +kernel⟩ ⟨Nat.le_of_ble_eq_true rfl, Nat.le_of_ble_eq_true rfl⟩, S.2.2.2.2 _ (List.mem_cons_of_mem _ (vm_2 _ (List.mem_of_getElem? (i := 30) rfl))), S.2.2.2.2 _ (List.mem_cons_of_mem _ (vm_2 _ (List.mem_of_getElem? (i := 31) rfl)))⟩ rfl ⟨_, _, _, _, _, _, rfl, rfl, rfl, rfl⟩ hK hN hs (fun w1 w2 h1 h2 => vi_kept_tr (by decide +kernel) h1 h2) (fun q hq => Or.inr hq) ⟨Nat.le_refl _, Nat.le_refl _⟩⟩, (fun ct2 h2 => by cases h2)⟩), ?_⟩
      refine List.forall_mem_cons.mpr ⟨(List.forall_mem_cons.mpr ⟨⟨rfl, vi_crVN S (m_Events_put_0 l D cy hst) ⟨va_cnB 3 S.2.2.2.2 (vgN (vm_1 _ (List.mem_of_getElem? (i := 26) rfl))) rfl rfl rfl (hN.1 _ nf_130) (S.2.2.2.2 _ (List.mem_cons_of_mem _ (vm_3 _ (List.mem_of_getElem? (i := 35) rfl)))) ⟨by decide, by decide, by decide +kernel⟩ ⟨Nat.le_of_ble_eq_true rfl, Nat.le_of_ble_eq_true rfl⟩, S.2.2.2.2 _ (List.mem_cons_of_mem _ (vm_5 _ (List.mem_of_getElem? (i := 19) rfl))), S.2.2.2.2 _ (List.mem_cons_of_mem _ (vm_5 _ (List.mem_of_getElem? (i := 20) rfl)))⟩ rfl ⟨_, _, _, _, _, _, rfl, rfl, rfl, rfl⟩ hK hN hs (fun w1 w2 h1 h2 => vi_kept_tr (by decide +kernel) h1 h2) (fun q hq => Or.inr hq) ⟨Nat.le_refl _, Nat.le_refl _⟩⟩, (fun ct2 h2 => by cases h2)⟩), ?_⟩
      refine List.forall_mem_cons.mpr ⟨(List.forall_mem_cons.mpr ⟨⟨rfl, vi_crVN S (m_Pipe_dropFirst_0 l D cy hst) ⟨va_cnB 0 S.2.2.2.2 (vgN (vm_2 _ (List.mem_of_getElem? (i := 32) rfl))) rfl rfl rfl (hN.1 _ nf_131) (S.2.2.2.2 _ (List.mem_cons_of_mem _ (vm_2 _ (List.mem_of_getElem? (i := 22) rfl)))) ⟨by decide, by decide, by decide +kernel⟩ ⟨Nat.le_of_ble_eq_true rfl, Nat.le_of_ble_eq_true rfl⟩, S.2.2.2.2 _ (List.mem_cons_of_mem _ (vm_5 _ (List.mem_of_getElem? (i := 21) rfl))), S.2.2.2.2 _ (List.mem_cons_of_mem _ (vm_5 _ (List.mem_of_getElem? (i := 22) rfl)))⟩ rfl ⟨_, _, _, _, _, _, rfl, rfl, rfl, rfl⟩ hK hN hs (fun w1 w2 h1 h2 => vi_kept_tr (by decide +kernel) h1 h2) (fun q hq => Or.inr hq) ⟨Nat.le_refl _, Nat.le_refl _⟩⟩, (fun ct2 h2 => by cases h2)⟩), ?_⟩
      exact fun q hq => by cases hq
end VC
section VC
noncomputable def q_Pipe_dropFirst_1 : VCt := ([av_32], [(ao_45, (vC 2))], [([], [], [(ao_45, (vC 1))], [])], [(10, 12, 7), (10, 13, 7)], 0)
noncomputable def mt_Pipe_dropFirst_1 : List (Nat × Bool × Nat × List VCt) := []
noncomputable def fp_Pipe_dropFirst_1 : List (Nat × Nat × Nat × Nat) := [(65, 10, 12, 7), (68, 10, 13, 7)]
noncomputable def pt_Pipe_dropFirst_1_0 : List (Nat × VS) := [(0, ([av_32], [], [(ao_45, (vC 2))], 0))]
set_option maxRecDepth 100000 in
theorem k_Pipe_dropFirst_1 : vi_chk vK vSG 1 0 vFT_X5 fp_Pipe_dropFirst_1 vCT_X5 vC2_X5 [] mt_Pipe_dropFirst_1 cX5_dropFirst [] 400 pt_Pipe_dropFirst_1_0 q_Pipe_dropFirst_1 [] = true := by decide +kernel
set_option maxHeartbeats 4000000 in
theorem m_Pipe_dropFirst_1 (l : Launch) (D : va_G) (cy : Nat → ClassId) (hst : l.stackTraces = false) : vi_Mn l D cy vK vSG yX5_dropFirst (Cond.code yX5_dropFirst cX5_dropFirst 1 none :: vWall) 0 0 q_Pipe_dropFirst_1 := by
  refine vi_Mn_of (own := RX5) (J := []) (f := 400) (FT := vFT_X5) (FP := fp_Pipe_dropFirst_1) (CT := vCT_X5) (C2 := vC2_X5) (MT := mt_Pipe_dropFirst_1) (by decide) rfl rfl rfl (by decide +kernel) (by decide +kernel) (vK_ty cy) k_Pipe_dropFirst_1 ?_
  · intro p e s m below meth c ad τ w av S hK hN hs
    refine ⟨vfg_X5 S hK hN, ?_, vct_X5 S, vc2_X5 S, ?_⟩
    · refine vi_f4 (L := fp_Pipe_dropFirst_1) ?_
      refine List.forall_mem_cons.mpr ⟨fun d x fs b v h1 h2 h3 => vfp_X5_65_10_12 S hK hN (vTy_ok h1 h2 h3), ?_⟩
      refine List.forall_mem_cons.mpr ⟨fun d x fs b v h1 h2 h3 => vfp_X5_68_10_13 S hK hN (vTy_ok h1 h2 h3), ?_⟩
      exact fun q hq => by cases hq
    · exact fun i sta k cts h => by cases h
end VC
section VC
noncomputable def q_Hubcascade_endFirst_1 : VCt := ([av_37, av_32, av_16], [(ao_46, (vC 2))], [([], [], [(ao_46, (vC 1))], [])], [(8, 4, 19), (8, 5, 19), (8, 6, 19), (8, 7, 19), (10, 12, 7), (10, 13, 7), (200, 12, 0), (200, 14, 0)], 0)
noncomputable def mt_Hubcascade_endFirst_1 : List (Nat × Bool × Nat × List VCt) := [(374, false, 2, [q_Pipe_transferAt_0]), (563, false, 4, [q_Events_put_0]), (567, false, 1, [q_Pipe_dropFirst_1])]
noncomputable def fp_Hubcascade_endFirst_1 : List (Nat × Nat × Nat × Nat) := []
noncomputable def pt_Hubcascade_endFirst_1_0 : List (Nat × VS) := [(0, ([av_37, av_32, av_16], [], [(ao_46, (vC 2))], 0))]
set_option maxRecDepth 100000 in
theorem k_Hubcascade_endFirst_1 : vi_chk vK vSG 3 0 vFT_X9 fp_Hubcascade_endFirst_1 vCT_X9 vC2_X9 [] mt_Hubcascade_endFirst_1 cX9_endFirst [] 400 pt_Hubcascade_endFirst_1_0 q_Hubcascade_endFirst_1 [] = true := by decide +kernel
set_option maxHeartbeats 4000000 in
theorem m_Hubcascade_endFirst_1 (l : Launch) (D : va_G) (cy : Nat → ClassId) (hst : l.stackTraces = false) : vi_Mn l D cy vK vSG yX9_endFirst (Cond.code yX9_endFirst cX9_endFirst 3 none :: vWall) 1 24 q_Hubcascade_endFirst_1 := by
  refine vi_Mn_of (own := RX9) (J := []) (f := 400) (FT := vFT_X9) (FP := fp_Hubcascade_endFirst_1) (CT := vCT_X9) (C2 := vC2_X9) (MT := mt_Hubcascade_endFirst_1) (by decide) rfl rfl rfl (by decide +kernel) (by decide +kernel) (vK_ty cy) k_Hubcascade_endFirst_1 ?_
  · intro p e s m below meth c ad τ w av S hK hN hs
    refine ⟨vfg_X9 S hK hN, ?_, vct_X9 S, vc2_X9 S, ?_⟩
    · exact fun i ci k d9 h => by cases h
    · refine vi_f4 (L := mt_Hubcascade_endFirst_1) ?_
      refine List.forall_mem_cons.mpr ⟨(List.forall_mem_cons.mpr ⟨⟨rfl, vi_crVN S (m_Pipe_transferAt_0 l D cy hst) ⟨va_cnB 1 S.2.2.2.2 (vgN (vm_2 _ (List.mem_of_getElem? (i := 25) rfl))) rfl rfl rfl (hN.1 _ nf_129) (S.2.2.2.2 _ (List.mem_cons_of_mem _ (vm_2 _ (List.mem_of_getElem? (i := 22) rfl)))) ⟨by decide, by decide, by decide +kernel⟩ ⟨Nat.le_of_ble_eq_true rfl, Nat.le_of_ble_eq_true rfl⟩, S.2.2.2.2 _ (List.mem_cons_of_mem _ (vm_2 _ (List.mem_of_getElem? (i := 30) rfl))), S.2.2.2.2 _ (List.mem_cons_of_mem _ (vm_2 _ (List.mem_of_getElem? (i := 31) rfl)))⟩ rfl ⟨_, _, _, _, _, _, rfl, rfl, rfl, rfl⟩ hK hN hs (fun w1 w2 h1 h2 => vi_kept_tr (by decide +kernel) h1 h2) (fun q hq => Or.inr hq) ⟨Nat.le_refl _, Nat.le_refl _⟩⟩, (fun ct2 h2 => by cases h2)⟩), ?_⟩
      refine List.forall_mem_cons.mpr ⟨(List.forall_mem_cons.mpr ⟨⟨rfl, vi_crVN S (m_Events_put_0 l D cy hst) ⟨va_cnB 3 S.2.2.2.2 (vgN (vm_1 _ (List.mem_of_getElem? (i := 26) rfl))) rfl rfl rfl (hN.1 _ nf_130) (S.2.2.2.2 _ (List.mem_cons_of_mem _ (vm_3 _ (List.mem_of_getElem? (i := 35) rfl)))) ⟨by decide, by decide, by decide +kernel⟩ ⟨Nat.le_of_ble_eq_true rfl, Nat.le_of_ble_eq_true rfl⟩, S.2.2.2.2 _ (List.mem_cons_of_mem _ (vm_5 _ (List.mem_of_getElem? (i := 19) rfl))), S.2.2.2.2 _ (List.mem_cons_of_mem _ (vm_5 _ (List.mem_of_getElem? (i := 20) rfl)))⟩ rfl ⟨_, _, _, _, _, _, rfl, rfl, rfl, rfl⟩ hK hN hs (fun w1 w2 h1 h2 => vi_kept_tr (by decide +kernel) h1 h2) (fun q hq => Or.inr hq) ⟨Nat.le_refl _, Nat.le_refl _⟩⟩, (fun ct2 h2 => by cases h2)⟩), ?_⟩
      refine List.forall_mem_cons.mpr ⟨(List.forall_mem_cons.mpr ⟨⟨rfl, vi_crVN S (m_Pipe_dropFirst_1 l D cy hst) ⟨va_cnB 0 S.2.2.2.2 (vgN (vm_2 _ (List.mem_of_getElem? (i := 32) rfl))) rfl rfl rfl (hN.1 _ nf_131) (S.2.2.2.2 _ (List.mem_cons_of_mem _ (vm_2 _ (List.mem_of_getElem? (i := 22) rfl)))) ⟨by decide, by decide, by decide +kernel⟩ ⟨Nat.le_of_ble_eq_true rfl, Nat.le_of_ble_eq_true rfl⟩, S.2.2.2.2 _ (List.mem_cons_of_mem _ (vm_5 _ (List.mem_of_getElem? (i := 21) rfl))), S.2.2.2.2 _ (List.mem_cons_of_mem _ (vm_5 _ (List.mem_of_getElem? (i := 22) rfl)))⟩ rfl ⟨_, _, _, _, _, _, rfl, rfl, rfl, rfl⟩ hK hN hs (fun w1 w2 h1 h2 => vi_kept_tr (by decide +kernel) h1 h2) (fun q hq => Or.inr hq) ⟨Nat.le_refl _, Nat.le_refl _⟩⟩, (fun ct2 h2 => by cases h2)⟩), ?_⟩
      exact fun q hq => by cases hq
end VC
section VC
noncomputable def q_Pipe_dropFirst_2 : VCt := ([av_32], [(ao_45, (vC 3))], [([], [], [(ao_45, (vC 2))], [])], [(10, 12, 7), (10, 13, 7)], 0)
noncomputable def mt_Pipe_dropFirst_2 : List (Nat × Bool × Nat × List VCt) := []
noncomputable def fp_Pipe_dropFirst_2 : List (Nat × Nat × Nat × Nat) := [(65, 10, 12, 7), (68, 10, 13, 7)]
noncomputable def pt_Pipe_dropFirst_2_0 : List (Nat × VS) := [(0, ([av_32], [], [(ao_45, (vC 3))], 0))]
set_option maxRecDepth 100000 in
theorem k_Pipe_dropFirst_2 : vi_chk vK vSG 1 0 vFT_X5 fp_Pipe_dropFirst_2 vCT_X5 vC2_X5 [] mt_Pipe_dropFirst_2 cX5_dropFirst [] 400 pt_Pipe_dropFirst_2_0 q_Pipe_dropFirst_2 [] = true := by decide +kernel
set_option maxHeartbeats 4000000 in
theorem m_Pipe_dropFirst_2 (l : Launch) (D : va_G) (cy : Nat → ClassId) (hst : l.stackTraces = false) : vi_Mn l D cy vK vSG yX5_dropFirst (Cond.code yX5_dropFirst cX5_dropFirst 1 none :: vWall) 0 0 q_Pipe_dropFirst_2 := by
  refine vi_Mn_of (own := RX5) (J := []) (f := 400) (FT := vFT_X5) (FP := fp_Pipe_dropFirst_2) (CT := vCT_X5) (C2 := vC2_X5) (MT := mt_Pipe_dropFirst_2) (by decide) rfl rfl rfl (by decide +kernel) (by decide +kernel) (vK_ty cy) k_Pipe_dropFirst_2 ?_
  · intro p e s m below meth c ad τ w av S hK hN hs
    refine ⟨vfg_X5 S hK hN, ?_, vct_X5 S, vc2_X5 S, ?_⟩
    · refine vi_f4 (L := fp_Pipe_dropFirst_2) ?_
      refine List.forall_mem_cons.mpr ⟨fun d x fs b v h1 h2 h3 => vfp_X5_65_10_12 S hK hN (vTy_ok h1 h2 h3), ?_⟩
      refine List.forall_mem_cons.mpr ⟨fun d x fs b v h1 h2 h3 => vfp_X5_68_10_13 S hK hN (vTy_ok h1 h2 h3), ?_⟩
      exact fun q hq => by cases hq
    · exact fun i sta k cts h => by cases h
end VC
section VC
noncomputable def q_Hubcascade_endFirst_2 : VCt := ([av_37, av_32, av_16], [(ao_46, (vC 3))], [([], [], [(ao_46, (vC 2))], [])], [(8, 4, 19), (8, 5, 19), (8, 6, 19), (8, 7, 19), (10, 12, 7), (10, 13, 7), (200, 12, 0), (200, 14, 0)], 0)
noncomputable def mt_Hubcascade_endFirst_2 : List (Nat × Bool × Nat × List VCt) := [(374, false, 2, [q_Pipe_transferAt_0]), (563, false, 4, [q_Events_put_0]), (567, false, 1, [q_Pipe_dropFirst_2])]
noncomputable def fp_Hubcascade_endFirst_2 : List (Nat × Nat × Nat × Nat) := []
noncomputable def pt_Hubcascade_endFirst_2_0 : List (Nat × VS) := [(0, ([av_37, av_32, av_16], [], [(ao_46, (vC 3))], 0))]
set_option maxRecDepth 100000 in
theorem k_Hubcascade_endFirst_2 : vi_chk vK vSG 3 0 vFT_X9 fp_Hubcascade_endFirst_2 vCT_X9 vC2_X9 [] mt_Hubcascade_endFirst_2 cX9_endFirst [] 400 pt_Hubcascade_endFirst_2_0 q_Hubcascade_endFirst_2 [] = true := by decide +kernel
set_option maxHeartbeats 4000000 in
theorem m_Hubcascade_endFirst_2 (l : Launch) (D : va_G) (cy : Nat → ClassId) (hst : l.stackTraces = false) : vi_Mn l D cy vK vSG yX9_endFirst (Cond.code yX9_endFirst cX9_endFirst 3 none :: vWall) 1 24 q_Hubcascade_endFirst_2 := by
  refine vi_Mn_of (own := RX9) (J := []) (f := 400) (FT := vFT_X9) (FP := fp_Hubcascade_endFirst_2) (CT := vCT_X9) (C2 := vC2_X9) (MT := mt_Hubcascade_endFirst_2) (by decide) rfl rfl rfl (by decide +kernel) (by decide +kernel) (vK_ty cy) k_Hubcascade_endFirst_2 ?_
  · intro p e s m below meth c ad τ w av S hK hN hs
    refine ⟨vfg_X9 S hK hN, ?_, vct_X9 S, vc2_X9 S, ?_⟩
    · exact fun i ci k d9 h => by cases h
    · refine vi_f4 (L := mt_Hubcascade_endFirst_2) ?_
      refine List.forall_mem_cons.mpr ⟨(List.forall_mem_cons.mpr ⟨⟨rfl, vi_crVN S (m_Pipe_transferAt_0 l D cy hst) ⟨va_cnB 1 S.2.2.2.2 (vgN (vm_2 _ (List.mem_of_getElem? (i := 25) rfl))) rfl rfl rfl (hN.1 _ nf_129) (S.2.2.2.2 _ (List.mem_cons_of_mem _ (vm_2 _ (List.mem_of_getElem? (i := 22) rfl)))) ⟨by decide, by decide, by decide +kernel⟩ ⟨Nat.le_of_ble_eq_true rfl, Nat.le_of_ble_eq_true rfl⟩, S.2.2.2.2 _ (List.mem_cons_of_mem _ (vm_2 _ (List.mem_of_getElem? (i := 30) rfl))), S.2.2.2.2 _ (List.mem_cons_of_mem _ (vm_2 _ (List.mem_of_getElem? (i := 31) rfl)))⟩ rfl ⟨_, _, _, _, _, _, rfl, rfl, rfl, rfl⟩ hK hN hs (fun w1 w2 h1 h2 => vi_kept_tr (by decide +kernel) h1 h2) (fun q hq => Or.inr hq) ⟨Nat.le_refl _, Nat.le_refl _⟩⟩, (fun ct2 h2 => by cases h2)⟩), ?_⟩
      refine List.forall_mem_cons.mpr ⟨(List.forall_mem_cons.mpr ⟨⟨rfl, vi_crVN S (m_Events_put_0 l D cy hst) ⟨va_cnB 3 S.2.2.2.2 (vgN (vm_1 _ (List.mem_of_getElem? (i := 26) rfl))) rfl rfl rfl (hN.1 _ nf_130) (S.2.2.2.2 _ (List.mem_cons_of_mem _ (vm_3 _ (List.mem_of_getElem? (i := 35) rfl)))) ⟨by decide, by decide, by decide +kernel⟩ ⟨Nat.le_of_ble_eq_true rfl, Nat.le_of_ble_eq_true rfl⟩, S.2.2.2.2 _ (List.mem_cons_of_mem _ (vm_5 _ (List.mem_of_getElem? (i := 19) rfl))), S.2.2.2.2 _ (List.mem_cons_of_mem _ (vm_5 _ (List.mem_of_getElem? (i := 20) rfl)))⟩ rfl ⟨_, _, _, _, _, _, rfl, rfl, rfl, rfl⟩ hK hN hs (fun w1 w2 h1 h2 => vi_kept_tr (by decide +kernel) h1 h2) (fun q hq => Or.inr hq) ⟨Nat.le_refl _, Nat.le_refl _⟩⟩, (fun ct2 h2 => by cases h2)⟩), ?_⟩
      refine List.forall_mem_cons.mpr ⟨(List.forall_mem_cons.mpr ⟨⟨rfl, vi_crVN S (m_Pipe_dropFirst_2 l D cy hst) ⟨va_cnB 0 S.2.2.2.2 (vgN (vm_2 _ (List.mem_of_getElem? (i := 32) rfl))) rfl rfl rfl (hN.1 _ nf_131) (S.2.2.2.2 _ (List.mem_cons_of_mem _ (vm_2 _ (List.mem_of_getElem? (i := 22) rfl)))) ⟨by decide, by decide, by decide +kernel⟩ ⟨Nat.le_of_ble_eq_true rfl, Nat.le_of_ble_eq_true rfl⟩, S.2.2.2.2 _ (List.mem_cons_of_mem _ (vm_5 _ (List.mem_of_getElem? (i := 21) rfl))), S.2.2.2.2 _ (List.mem_cons_of_mem _ (vm_5 _ (List.mem_of_getElem? (i := 22) rfl)))⟩ rfl ⟨_, _, _, _, _, _, rfl, rfl, rfl, rfl⟩ hK hN hs (fun w1 w2 h1 h2 => vi_kept_tr (by decide +kernel) h1 h2) (fun q hq => Or.inr hq) ⟨Nat.le_refl _, Nat.le_refl _⟩⟩, (fun ct2 h2 => by cases h2)⟩), ?_⟩
      exact fun q hq => by cases hq
end VC
section VC
noncomputable def q_Pipe_dropFirst_3 : VCt := ([av_32], [(ao_45, (vC 4))], [([], [], [(ao_45, (vC 3))], [])], [(10, 12, 7), (10, 13, 7)], 0)
noncomputable def mt_Pipe_dropFirst_3 : List (Nat × Bool × Nat × List VCt) := []
noncomputable def fp_Pipe_dropFirst_3 : List (Nat × Nat × Nat × Nat) := [(65, 10, 12, 7), (68, 10, 13, 7)]
noncomputable def pt_Pipe_dropFirst_3_0 : List (Nat × VS) := [(0, ([av_32], [], [(ao_45, (vC 4))], 0))]
set_option maxRecDepth 100000 in
theorem k_Pipe_dropFirst_3 : vi_chk vK vSG 1 0 vFT_X5 fp_Pipe_dropFirst_3 vCT_X5 vC2_X5 [] mt_Pipe_dropFirst_3 cX5_dropFirst [] 400 pt_Pipe_dropFirst_3_0 q_Pipe_dropFirst_3 [] = true := by decide +kernel
set_option maxHeartbeats 4000000 in
theorem m_Pipe_dropFirst_3 (l : Launch) (D : va_G) (cy : Nat → ClassId) (hst : l.stackTraces = false) : vi_Mn l D cy vK vSG yX5_dropFirst (Cond.code yX5_dropFirst cX5_dropFirst 1 none :: vWall) 0 0 q_Pipe_dropFirst_3 := by
  refine vi_Mn_of (own := RX5) (J := []) (f := 400) (FT := vFT_X5) (FP := fp_Pipe_dropFirst_3) (CT := vCT_X5) (C2 := vC2_X5) (MT := mt_Pipe_dropFirst_3) (by decide) rfl rfl rfl (by decide +kernel) (by decide +kernel) (vK_ty cy) k_Pipe_dropFirst_3 ?_
  · intro p e s m below meth c ad τ w av S hK hN hs
    refine ⟨vfg_X5 S hK hN, ?_, vct_X5 S, vc2_X5 S, ?_⟩
    · refine vi_f4 (L := fp_Pipe_dropFirst_3) ?_
      refine List.forall_mem_cons.mpr ⟨fun d x fs b v h1 h2 h3 => vfp_X5_65_10_12 S hK hN (vTy_ok h1 h2 h3), ?_⟩
      refine List.forall_mem_cons.mpr ⟨fun d x fs b v h1 h2 h3 => vfp_X5_68_10_13 S hK hN (vTy_ok h1 h2 h3), ?_⟩
      exact fun q hq => by cases hq
    · exact fun i sta k cts h => by cases h
end VC
section VC
noncomputable def q_Hubcascade_endFirst_3 : VCt := ([av_37, av_32, av_16], [(ao_46, (vC 4))], [([], [], [(ao_46, (vC 3))], [])], [(8, 4, 19), (8, 5, 19), (8, 6, 19), (8, 7, 19), (10, 12, 7), (10, 13, 7), (200, 12, 0), (200, 14, 0)], 0)
noncomputable def mt_Hubcascade_endFirst_3 : List (Nat × Bool × Nat × List VCt) := [(374, false, 2, [q_Pipe_transferAt_0]), (563, false, 4, [q_Events_put_0]), (567, false, 1, [q_Pipe_dropFirst_3])]
noncomputable def fp_Hubcascade_endFirst_3 : List (Nat × Nat × Nat × Nat) := []
noncomputable def pt_Hubcascade_endFirst_3_0 : List (Nat × VS) := [(0, ([av_37, av_32, av_16], [], [(ao_46, (vC 4))], 0))]
set_option maxRecDepth 100000 in
theorem k_Hubcascade_endFirst_3 : vi_chk vK vSG 3 0 vFT_X9 fp_Hubcascade_endFirst_3 vCT_X9 vC2_X9 [] mt_Hubcascade_endFirst_3 cX9_endFirst [] 400 pt_Hubcascade_endFirst_3_0 q_Hubcascade_endFirst_3 [] = true := by decide +kernel
set_option maxHeartbeats 4000000 in
theorem m_Hubcascade_endFirst_3 (l : Launch) (D : va_G) (cy : Nat → ClassId) (hst : l.stackTraces = false) : vi_Mn l D cy vK vSG yX9_endFirst (Cond.code yX9_endFirst cX9_endFirst 3 none :: vWall) 1 24 q_Hubcascade_endFirst_3 := by
  refine vi_Mn_of (own := RX9) (J := []) (f := 400) (FT := vFT_X9) (FP := fp_Hubcascade_endFirst_3) (CT := vCT_X9) (C2 := vC2_X9) (MT := mt_Hubcascade_endFirst_3) (by decide) rfl rfl rfl (by decide +kernel) (by decide +kernel) (vK_ty cy) k_Hubcascade_endFirst_3 ?_
  · intro p e s m below meth c ad τ w av S hK hN hs
    refine ⟨vfg_X9 S hK hN, ?_, vct_X9 S, vc2_X9 S, ?_⟩
    · exact fun i ci k d9 h => by cases h
    · refine vi_f4 (L := mt_Hubcascade_endFirst_3) ?_
      refine List.forall_mem_cons.mpr ⟨(List.forall_mem_cons.mpr ⟨⟨rfl, vi_crVN S (m_Pipe_transferAt_0 l D cy hst) ⟨va_cnB 1 S.2.2.2.2 (vgN (vm_2 _ (List.mem_of_getElem? (i := 25) rfl))) rfl rfl rfl (hN.1 _ nf_129) (S.2.2.2.2 _ (List.mem_cons_of_mem _ (vm_2 _ (List.mem_of_getElem? (i := 22) rfl)))) ⟨by decide, by decide, by decide +kernel⟩ ⟨Nat.le_of_ble_eq_true rfl, Nat.le_of_ble_eq_true rfl⟩, S.2.2.2.2 _ (List.mem_cons_of_mem _ (vm_2 _ (List.mem_of_getElem? (i := 30) rfl))), S.2.2.2.2 _ (List.mem_cons_of_mem _ (vm_2 _ (List.mem_of_getElem? (i := 31) rfl)))⟩ rfl ⟨_, _, _, _, _, _, rfl, rfl, rfl, rfl⟩ hK hN hs (fun w1 w2 h1 h2 => vi_kept_tr (by decide +kernel) h1 h2) (fun q hq => Or.inr hq) ⟨Nat.le_refl _, Nat.le_refl _⟩⟩, (fun ct2 h2 => by cases h2)⟩), ?_⟩
      refine List.forall_mem_cons.mpr ⟨(List.forall_mem_cons.mpr ⟨⟨rfl, vi_crVN S (m_Events_put_0 l D cy hst) ⟨va_cnB 3 S.2.2.2.2 (vgN (vm_1 _ (List.mem_of_getElem? (i := 26) rfl))) rfl rfl rfl (hN.1 _ nf_130) (S.2.2.2.2 _ (List.mem_cons_of_mem _ (vm_3 _ (List.mem_of_getElem? (i := 35) rfl)))) ⟨by decide, by decide, by decide +kernel⟩ ⟨Nat.le_of_ble_eq_true rfl, Nat.le_of_ble_eq_true rfl⟩, S.2.2.2.2 _ (List.mem_cons_of_mem _ (vm_5 _ (List.mem_of_getElem? (i := 19) rfl))), S.2.2.2.2 _ (List.mem_cons_of_mem _ (vm_5 _ (List.mem_of_getElem? (i := 20) rfl)))⟩ rfl ⟨_, _, _, _, _, _, rfl, rfl, rfl, rfl⟩ hK hN hs (fun w1 w2 h1 h2 => vi_kept_tr (by decide +kernel) h1 h2) (fun q hq => Or.inr hq) ⟨Nat.le_refl _, Nat.le_refl _⟩⟩, (fun ct2 h2 => by cases h2)⟩), ?_⟩
      refine List.forall_mem_cons.mpr ⟨(List.forall_mem_cons.mpr ⟨⟨rfl, vi_crVN S (m_Pipe_dropFirst_3 l D cy hst) ⟨va_cnB 0 S.2.2.2.2 (vgN (vm_2 _ (List.mem_of_getElem? (i := 32) rfl))) rfl rfl rfl (hN.1 _ nf_131) (S.2.2.2.2 _ (List.mem_cons_of_mem _ (vm_2 _ (List.mem_of_getElem? (i := 22) rfl)))) ⟨by decide, by decide, by decide +kernel⟩ ⟨Nat.le_of_ble_eq_true rfl, Nat.le_of_ble_eq_true rfl⟩, S.2.2.2.2 _ (List.mem_cons_of_mem _ (vm_5 _ (List.mem_of_getElem? (i := 21) rfl))), S.2.2.2.2 _ (List.mem_cons_of_mem _ (vm_5 _ (List.mem_of_getElem? (i := 22) rfl)))⟩ rfl ⟨_, _, _, _, _, _, rfl, rfl, rfl, rfl⟩ hK hN hs (fun w1 w2 h1 h2 => vi_kept_tr (by decide +kernel) h1 h2) (fun q hq => Or.inr hq) ⟨Nat.le_refl _, Nat.le_refl _⟩⟩, (fun ct2 h2 => by cases h2)⟩), ?_⟩
      exact fun q hq => by cases hq
end VC
section VC
noncomputable def q_Hubcascade_closeBy_0 : VCt := ([av_37, av_32, av_16], [], [([av_26], [], [(ao_46, (vC 0))], [])], [(7, 2, 5), (8, 4, 19), (8, 5, 19), (8, 6, 19), (8, 7, 19), (10, 1, 7), (10, 2, 7), (10, 12, 7), (10, 13, 7), (200, 12, 0), (200, 13, 0), (200, 14, 0), (200, 21, 0)], 0)
noncomputable def mt_Hubcascade_closeBy_0 : List (Nat × Bool × Nat × List VCt) := [(329, false, 5, [q_Hubcascade_reserveFor_0]), (391, false, 3, [q_Hubcascade_endFirst_0, q_Hubcascade_endFirst_1, q_Hubcascade_endFirst_2, q_Hubcascade_endFirst_3]), (561, false, 1, [q_Pipe_detach_0])]
noncomputable def fp_Hubcascade_closeBy_0 : List (Nat × Nat × Nat × Nat) := []
noncomputable def pt_Hubcascade_closeBy_0_0 : List (Nat × VS) := [(0, ([av_37, av_32, av_16, av_38, av_38, av_38, av_38], [], [(ao_46, (vC 4))], 0)), (38, ([av_37, av_32, av_16, av_30, av_31, (vC 4), (vC 0)], [], [(ao_46, (vC 4))], 0)), (38, ([av_37, av_32, av_16, av_30, av_31, (vC 4), (vC 1)], [], [(ao_46, (vC 3))], 0)), (38, ([av_37, av_32, av_16, av_30, av_31, (vC 4), (vC 2)], [], [(ao_46, (vC 2))], 0)), (38, ([av_37, av_32, av_16, av_30, av_31, (vC 4), (vC 3)], [], [(ao_46, (vC 1))], 0)), (38, ([av_37, av_32, av_16, av_30, av_31, (vC 4), (vC 4)], [], [(ao_46, (vC 0))], 0)), (38, ([av_37, av_32, av_16, av_30, av_47, (vC 4), (vC 0)], [], [(ao_46, (vC 4))], 0)), (38, ([av_37, av_32, av_16, av_30, av_47, (vC 4), (vC 1)], [], [(ao_46, (vC 3))], 0)), (38, ([av_37, av_32, av_16, av_30, av_47, (vC 4), (vC 2)], [], [(ao_46, (vC 2))], 0)), (38, ([av_37, av_32, av_16, av_30, av_47, (vC 4), (vC 3)], [], [(ao_46, (vC 1))], 0)), (38, ([av_37, av_32, av_16, av_30, av_47, (vC 4), (vC 4)], [], [(ao_46, (vC 0))], 0)), (38, ([av_37, av_32, av_16, av_47, av_24, (vC 4), (vC 0)], [], [(ao_46, (vC 4))], 0)), (38, ([av_37, av_32, av_16, av_47, av_24, (vC 4), (vC 1)], [], [(ao_46, (vC 3))], 0)), (38, ([av_37, av_32, av_16, av_47, av_24, (vC 4), (vC 2)], [], [(ao_46, (vC 2))], 0)), (38, ([av_37, av_32, av_16, av_47, av_24, (vC 4), (vC 3)], [], [(ao_46, (vC 1))], 0)), (38, ([av_37, av_32, av_16, av_47, av_24, (vC 4), (vC 4)], [], [(ao_46, (vC 0))], 0)), (0, ([av_37, av_32, av_16, av_38, av_38, av_38, av_38], [], [(ao_46, (vC 3))], 0)), (38, ([av_37, av_32, av_16, av_30, av_31, (vC 3), (vC 0)], [], [(ao_46, (vC 3))], 0)), (38, ([av_37, av_32, av_16, av_30, av_31, (vC 3), (vC 1)], [], [(ao_46, (vC 2))], 0)), (38, ([av_37, av_32, av_16, av_30, av_31, (vC 3), (vC 2)], [], [(ao_46, (vC 1))], 0)), (38, ([av_37, av_32, av_16, av_30, av_31, (vC 3), (vC 3)], [], [(ao_46, (vC 0))], 0)), (38, ([av_37, av_32, av_16, av_30, av_47, (vC 3), (vC 0)], [], [(ao_46, (vC 3))], 0)), (38, ([av_37, av_32, av_16, av_30, av_47, (vC 3), (vC 1)], [], [(ao_46, (vC 2))], 0)), (38, ([av_37, av_32, av_16, av_30, av_47, (vC 3), (vC 2)], [], [(ao_46, (vC 1))], 0)), (38, ([av_37, av_32, av_16, av_30, av_47, (vC 3), (vC 3)], [], [(ao_46, (vC 0))], 0)), (38, ([av_37, av_32, av_16, av_47, av_24, (vC 3), (vC 0)], [], [(ao_46, (vC 3))], 0)), (38, ([av_37, av_32, av_16, av_47, av_24, (vC 3), (vC 1)], [], [(ao_46, (vC 2))], 0)), (38, ([av_37, av_32, av_16, av_47, av_24, (vC 3), (vC 2)], [], [(ao_46, (vC 1))], 0)), (38, ([av_37, av_32, av_16, av_47, av_24, (vC 3), (vC 3)], [], [(ao_46, (vC 0))], 0)), (0, ([av_37, av_32, av_16, av_38, av_38, av_38, av_38], [], [(ao_46, (vC 2))], 0)), (38, ([av_37, av_32, av_16, av_30, av_31, (vC 2), (vC 0)], [], [(ao_46, (vC 2))], 0)), (38, ([av_37, av_32, av_16, av_30, av_31, (vC 2), (vC 1)], [], [(ao_46, (vC 1))], 0)), (38, ([av_37, av_32, av_16, av_30, av_31, (vC 2), (vC 2)], [], [(ao_46, (vC 0))], 0)), (38, ([av_37, av_32, av_16, av_30, av_47, (vC 2), (vC 0)], [], [(ao_46, (vC 2))], 0)), (38, ([av_37, av_32, av_16, av_30, av_47, (vC 2), (vC 1)], [], [(ao_46, (vC 1))], 0)), (38, ([av_37, av_32, av_16, av_30, av_47, (vC 2), (vC 2)], [], [(ao_46, (vC 0))], 0)), (38, ([av_37, av_32, av_16, av_47, av_24, (vC 2), (vC 0)], [], [(ao_46, (vC 2))], 0)), (38, ([av_37, av_32, av_16, av_47, av_24, (vC 2), (vC 1)], [], [(ao_46, (vC 1))], 0)), (38, ([av_37, av_32, av_16, av_47, av_24, (vC 2), (vC 2)], [], [(ao_46, (vC 0))], 0)), (0, ([av_37, av_32, av_16, av_38, av_38, av_38, av_38], [], [(ao_46, (vC 1))], 0)), (38, ([av_37, av_32, av_16, av_30, av_31, (vC 1), (vC 0)], [], [(ao_46, (vC 1))], 0)), (38, ([av_37, av_32, av_16, av_30, av_31, (vC 1), (vC 1)], [], [(ao_46, (vC 0))], 0)), (38, ([av_37, av_32, av_16, av_30, av_47, (vC 1), (vC 0)], [], [(ao_46, (vC 1))], 0)), (38, ([av_37, av_32, av_16, av_30, av_47, (vC 1), (vC 1)], [], [(ao_46, (vC 0))], 0)), (38, ([av_37, av_32, av_16, av_47, av_24, (vC 1), (vC 0)], [], [(ao_46, (vC 1))], 0)), (38, ([av_37, av_32, av_16, av_47, av_24, (vC 1), (vC 1)], [], [(ao_46, (vC 0))], 0)), (0, ([av_37, av_32, av_16, av_38, av_38, av_38, av_38], [], [(ao_46, (vC 0))], 0)), (38, ([av_37, av_32, av_16, av_30, av_31, (vC 0), (vC 0)], [], [(ao_46, (vC 0))], 0)), (38, ([av_37, av_32, av_16, av_30, av_47, (vC 0), (vC 0)], [], [(ao_46, (vC 0))], 0)), (38, ([av_37, av_32, av_16, av_47, av_24, (vC 0), (vC 0)], [], [(ao_46, (vC 0))], 0))]
set_option maxRecDepth 100000 in
theorem k_Hubcascade_closeBy_0 : vi_chk vK vSG 7 0 vFT_X9 fp_Hubcascade_closeBy_0 vCT_X9 vC2_X9 [] mt_Hubcascade_closeBy_0 cX9_closeBy [38] 400 pt_Hubcascade_closeBy_0_0 q_Hubcascade_closeBy_0 [(ao_46, 0, 4)] = true := by decide +kernel
set_option maxHeartbeats 4000000 in
theorem m_Hubcascade_closeBy_0 (l : Launch) (D : va_G) (cy : Nat → ClassId) (hst : l.stackTraces = false) : vi_Mn l D cy vK vSG yX9_closeBy (Cond.code yX9_closeBy cX9_closeBy 7 (some .int) :: vWall) 2 51 q_Hubcascade_closeBy_0 := by
  refine vi_Mn_of (own := RX9) (J := [38]) (f := 400) (FT := vFT_X9) (FP := fp_Hubcascade_closeBy_0) (CT := vCT_X9) (C2 := vC2_X9) (MT := mt_Hubcascade_closeBy_0) (by decide) rfl rfl rfl (by decide +kernel) (by decide +kernel) (vK_ty cy) k_Hubcascade_closeBy_0 ?_
  · intro p e s m below meth c ad τ w av S hK hN hs
    refine ⟨vfg_X9 S hK hN, ?_, vct_X9 S, vc2_X9 S, ?_⟩
    · exact fun i ci k d9 h => by cases h
    · refine vi_f4 (L := mt_Hubcascade_closeBy_0) ?_
      refine List.forall_mem_cons.mpr ⟨(List.forall_mem_cons.mpr ⟨⟨rfl, vi_crV S (m_Hubcascade_reserveFor_0 l D cy hst) (cwV 4 S.2.2.2.2 (vgV (vm_5 _ (List.mem_of_getElem? (i := 23) rfl)) (vm_5 _ (List.mem_of_getElem? (i := 24) rfl)) (vm_5 _ (List.mem_of_getElem? (i := 25) rfl)) (vm_4 _ (List.mem_of_getElem? (i := 20) rfl)) (vm_5 _ (List.mem_of_getElem? (i := 9) rfl))) rfl rfl rfl ⟨rfl, by decide, by decide, by decide +kernel⟩ ⟨Nat.le_of_ble_eq_true rfl, Nat.le_of_ble_eq_true rfl⟩) rfl ⟨_, _, _, _, _, _, rfl, rfl, rfl, rfl⟩ hK hN hs (fun w1 w2 h1 h2 => vi_kept_tr (by decide +kernel) h1 h2) (fun q hq => Or.inr hq) ⟨Nat.le_refl _, Nat.le_refl _⟩⟩, (fun ct2 h2 => by cases h2)⟩), ?_⟩
      refine List.forall_mem_cons.mpr ⟨(List.forall_mem_cons.mpr ⟨⟨rfl, vi_crV S (m_Hubcascade_endFirst_0 l D cy hst) (cwV 2 S.2.2.2.2 (vgV (vm_5 _ (List.mem_of_getElem? (i := 26) rfl)) (vm_5 _ (List.mem_of_getElem? (i := 27) rfl)) (vm_5 _ (List.mem_of_getElem? (i := 28) rfl)) (vm_4 _ (List.mem_of_getElem? (i := 20) rfl)) (vm_5 _ (List.mem_of_getElem? (i := 18) rfl))) rfl rfl rfl ⟨rfl, by decide, by decide, by decide +kernel⟩ ⟨Nat.le_of_ble_eq_true rfl, Nat.le_of_ble_eq_true rfl⟩) rfl ⟨_, _, _, _, _, _, rfl, rfl, rfl, rfl⟩ hK hN hs (fun w1 w2 h1 h2 => vi_kept_tr (by decide +kernel) h1 h2) (fun q hq => Or.inr hq) ⟨Nat.le_refl _, Nat.le_refl _⟩⟩, (List.forall_mem_cons.mpr ⟨⟨rfl, vi_crV S (m_Hubcascade_endFirst_1 l D cy hst) (cwV 2 S.2.2.2.2 (vgV (vm_5 _ (List.mem_of_getElem? (i := 26) rfl)) (vm_5 _ (List.mem_of_getElem? (i := 27) rfl)) (vm_5 _ (List.mem_of_getElem? (i := 28) rfl)) (vm_4 _ (List.mem_of_getElem? (i := 20) rfl)) (vm_5 _ (List.mem_of_getElem? (i := 18) rfl))) rfl rfl rfl ⟨rfl, by decide, by decide, by decide +kernel⟩ ⟨Nat.le_of_ble_eq_true rfl, Nat.le_of_ble_eq_true rfl⟩) rfl ⟨_, _, _, _, _, _, rfl, rfl, rfl, rfl⟩ hK hN hs (fun w1 w2 h1 h2 => vi_kept_tr (by decide +kernel) h1 h2) (fun q hq => Or.inr hq) ⟨Nat.le_refl _, Nat.le_refl _⟩⟩, (List.forall_mem_cons.mpr ⟨⟨rfl, vi_crV S (m_Hubcascade_endFirst_2 l D cy hst) (cwV 2 S.2.2.2.2 (vgV (vm_5 _ (List.mem_of_getElem? (i := 26) rfl)) (vm_5 _ (List.mem_of_getElem? (i := 27) rfl)) (vm_5 _ (List.mem_of_getElem? (i := 28) rfl)) (vm_4 _ (List.mem_of_getElem? (i := 20) rfl)) (vm_5 _ (List.mem_of_getElem? (i := 18) rfl))) rfl rfl rfl ⟨rfl, by decide, by decide, by decide +kernel⟩ ⟨Nat.le_of_ble_eq_true rfl, Nat.le_of_ble_eq_true rfl⟩) rfl ⟨_, _, _, _, _, _, rfl, rfl, rfl, rfl⟩ hK hN hs (fun w1 w2 h1 h2 => vi_kept_tr (by decide +kernel) h1 h2) (fun q hq => Or.inr hq) ⟨Nat.le_refl _, Nat.le_refl _⟩⟩, (List.forall_mem_cons.mpr ⟨⟨rfl, vi_crV S (m_Hubcascade_endFirst_3 l D cy hst) (cwV 2 S.2.2.2.2 (vgV (vm_5 _ (List.mem_of_getElem? (i := 26) rfl)) (vm_5 _ (List.mem_of_getElem? (i := 27) rfl)) (vm_5 _ (List.mem_of_getElem? (i := 28) rfl)) (vm_4 _ (List.mem_of_getElem? (i := 20) rfl)) (vm_5 _ (List.mem_of_getElem? (i := 18) rfl))) rfl rfl rfl ⟨rfl, by decide, by decide, by decide +kernel⟩ ⟨Nat.le_of_ble_eq_true rfl, Nat.le_of_ble_eq_true rfl⟩) rfl ⟨_, _, _, _, _, _, rfl, rfl, rfl, rfl⟩ hK hN hs (fun w1 w2 h1 h2 => vi_kept_tr (by decide +kernel) h1 h2) (fun q hq => Or.inr hq) ⟨Nat.le_refl _, Nat.le_refl _⟩⟩, (fun ct2 h2 => by cases h2)⟩)⟩)⟩)⟩), ?_⟩
      refine List.forall_mem_cons.mpr ⟨(List.forall_mem_cons.mpr ⟨⟨rfl, vi_crVN S (m_Pipe_detach_0 l D cy hst) ⟨va_cnB 0 S.2.2.2.2 (vgN (vm_2 _ (List.mem_of_getElem? (i := 23) rfl))) rfl rfl rfl (hN.1 _ nf_132) (S.2.2.2.2 _ (List.mem_cons_of_mem _ (vm_2 _ (List.mem_of_getElem? (i := 22) rfl)))) ⟨by decide, by decide, by decide +kernel⟩ ⟨Nat.le_of_ble_eq_true rfl, Nat.le_of_ble_eq_true rfl⟩, S.2.2.2.2 _ (List.mem_cons_of_mem _ (vm_5 _ (List.mem_of_getElem? (i := 29) rfl))), S.2.2.2.2 _ (List.mem_cons_of_mem _ (vm_5 _ (List.mem_of_getElem? (i := 30) rfl)))⟩ rfl ⟨_, _, _, _, _, _, rfl, rfl, rfl, rfl⟩ hK hN hs (fun w1 w2 h1 h2 => vi_kept_tr (by decide +kernel) h1 h2) (fun q hq => Or.inr hq) ⟨Nat.le_refl _, Nat.le_refl _⟩⟩, (fun ct2 h2 => by cases h2)⟩), ?_⟩
      exact fun q hq => by cases hq
end VC
section VC
noncomputable def q_Device_leave_0 : VCt := ([av_30], [], [([], [], [], [])], [(6, 7, 4), (6, 8, 4), (6, 10, 4), (6, 11, 4), (6, 12, 4), (6, 13, 4), (6, 14, 4), (6, 16, 4)], 0)
noncomputable def mt_Device_leave_0 : List (Nat × Bool × Nat × List VCt) := []
noncomputable def fp_Device_leave_0 : List (Nat × Nat × Nat × Nat) := [(15, 6, 7, 4), (18, 6, 10, 4), (22, 6, 11, 4), (25, 6, 12, 4), (28, 6, 14, 4), (52, 6, 8, 4), (56, 6, 13, 4), (59, 6, 16, 4)]
noncomputable def pt_Device_leave_0_0 : List (Nat × VS) := [(0, ([av_30], [], [], 0))]
set_option maxRecDepth 100000 in
theorem k_Device_leave_0 : vi_chk vK vSG 1 0 vFT_X1 fp_Device_leave_0 vCT_X1 vC2_X1 [] mt_Device_leave_0 cX1_leave [] 400 pt_Device_leave_0_0 q_Device_leave_0 [] = true := by decide +kernel
set_option maxHeartbeats 4000000 in
theorem m_Device_leave_0 (l : Launch) (D : va_G) (cy : Nat → ClassId) (hst : l.stackTraces = false) : vi_Mn l D cy vK vSG yX1_leave (Cond.code yX1_leave cX1_leave 1 none :: vWall) 0 0 q_Device_leave_0 := by
  refine vi_Mn_of (own := RX1) (J := []) (f := 400) (FT := vFT_X1) (FP := fp_Device_leave_0) (CT := vCT_X1) (C2 := vC2_X1) (MT := mt_Device_leave_0) (by decide) rfl rfl rfl (by decide +kernel) (by decide +kernel) (vK_ty cy) k_Device_leave_0 ?_
  · intro p e s m below meth c ad τ w av S hK hN hs
    refine ⟨vfg_X1 S hK hN, ?_, vct_X1 S, vc2_X1 S, ?_⟩
    · refine vi_f4 (L := fp_Device_leave_0) ?_
      refine List.forall_mem_cons.mpr ⟨fun d x fs b v h1 h2 h3 => vfp_X1_15_6_7 S hK hN (vTy_ok h1 h2 h3), ?_⟩
      refine List.forall_mem_cons.mpr ⟨fun d x fs b v h1 h2 h3 => vfp_X1_18_6_10 S hK hN (vTy_ok h1 h2 h3), ?_⟩
      refine List.forall_mem_cons.mpr ⟨fun d x fs b v h1 h2 h3 => vfp_X1_22_6_11 S hK hN (vTy_ok h1 h2 h3), ?_⟩
      refine List.forall_mem_cons.mpr ⟨fun d x fs b v h1 h2 h3 => vfp_X1_25_6_12 S hK hN (vTy_ok h1 h2 h3), ?_⟩
      refine List.forall_mem_cons.mpr ⟨fun d x fs b v h1 h2 h3 => vfp_X1_28_6_14 S hK hN (vTy_ok h1 h2 h3), ?_⟩
      refine List.forall_mem_cons.mpr ⟨fun d x fs b v h1 h2 h3 => vfp_X1_52_6_8 S hK hN (vTy_ok h1 h2 h3), ?_⟩
      refine List.forall_mem_cons.mpr ⟨fun d x fs b v h1 h2 h3 => vfp_X1_56_6_13 S hK hN (vTy_ok h1 h2 h3), ?_⟩
      refine List.forall_mem_cons.mpr ⟨fun d x fs b v h1 h2 h3 => vfp_X1_59_6_16 S hK hN (vTy_ok h1 h2 h3), ?_⟩
      exact fun q hq => by cases hq
    · exact fun i sta k cts h => by cases h
end VC
section VC
noncomputable def q_Hubcascade_detach_0 : VCt := ([av_37, av_30, av_17], [], [([av_13], [], [], [])], [(6, 7, 4), (6, 8, 4), (6, 10, 4), (6, 11, 4), (6, 12, 4), (6, 13, 4), (6, 14, 4), (6, 16, 4), (6, 17, 4), (7, 2, 5), (8, 4, 19), (8, 5, 19), (8, 6, 19), (8, 7, 19), (10, 1, 7), (10, 2, 7), (10, 12, 7), (10, 13, 7), (200, 12, 0), (200, 13, 0), (200, 14, 0), (200, 21, 0)], 0)
noncomputable def mt_Hubcascade_detach_0 : List (Nat × Bool × Nat × List VCt) := [(246, true, 2, [q_Hubcascade_isSameOrBelow_0]), (338, false, 3, [q_Hubcascade_closeBy_0]), (549, false, 1, [q_Device_leave_0])]
noncomputable def fp_Hubcascade_detach_0 : List (Nat × Nat × Nat × Nat) := [(543, 6, 17, 4)]
noncomputable def pt_Hubcascade_detach_0_0 : List (Nat × VS) := [(0, ([av_37, av_30, av_17, av_38, av_38], [], [], 0)), (2, ([av_37, av_30, av_17, (vC 0), av_38], [], [], 0)), (2, ([av_37, av_30, av_17, (vC 1), av_30], [], [(ao_48, av_17)], 0)), (2, ([av_37, av_30, av_17, (vC 2), av_30], [], [(ao_48, av_17)], 0)), (2, ([av_37, av_30, av_17, (vC 3), av_30], [], [(ao_48, av_17)], 0)), (2, ([av_37, av_30, av_17, (vC 4), av_30], [], [(ao_48, av_17)], 0)), (2, ([av_37, av_30, av_17, (vC 5), av_30], [], [(ao_48, av_17)], 0)), (2, ([av_37, av_30, av_17, (vC 6), av_30], [], [(ao_48, av_17)], 0)), (2, ([av_37, av_30, av_17, (vC 7), av_30], [], [(ao_48, av_17)], 0)), (2, ([av_37, av_30, av_17, (vC 8), av_30], [], [(ao_48, av_17)], 0)), (2, ([av_37, av_30, av_17, (vC 9), av_30], [], [(ao_48, av_17)], 0)), (2, ([av_37, av_30, av_17, (vC 10), av_30], [], [(ao_48, av_17)], 0)), (2, ([av_37, av_30, av_17, (vC 11), av_30], [], [(ao_48, av_17)], 0)), (2, ([av_37, av_30, av_17, (vC 12), av_30], [], [(ao_48, av_17)], 0)), (2, ([av_37, av_30, av_17, (vC 13), av_30], [], [(ao_48, av_17)], 0)), (2, ([av_37, av_30, av_17, (vC 14), av_30], [], [(ao_48, av_17)], 0)), (2, ([av_37, av_30, av_17, (vC 15), av_30], [], [(ao_48, av_17)], 0)), (2, ([av_37, av_30, av_17, (vC 16), av_30], [], [(ao_48, av_17)], 0)), (45, ([av_37, av_30, av_17, (vC 0), av_30], [], [(ao_48, av_17)], 0)), (45, ([av_37, av_30, av_17, (vC 1), av_30], [], [(ao_48, av_17)], 0)), (45, ([av_37, av_30, av_17, (vC 1), av_47], [], [], 0)), (45, ([av_37, av_30, av_17, (vC 2), av_30], [], [(ao_48, av_17)], 0)), (45, ([av_37, av_30, av_17, (vC 2), av_47], [], [], 0)), (45, ([av_37, av_30, av_17, (vC 3), av_30], [], [(ao_48, av_17)], 0)), (45, ([av_37, av_30, av_17, (vC 3), av_47], [], [], 0)), (45, ([av_37, av_30, av_17, (vC 4), av_30], [], [(ao_48, av_17)], 0)), (45, ([av_37, av_30, av_17, (vC 4), av_47], [], [], 0)), (45, ([av_37, av_30, av_17, (vC 5), av_30], [], [(ao_48, av_17)], 0)), (45, ([av_37, av_30, av_17, (vC 5), av_47], [], [], 0)), (45, ([av_37, av_30, av_17, (vC 6), av_30], [], [(ao_48, av_17)], 0)), (45, ([av_37, av_30, av_17, (vC 6), av_47], [], [], 0)), (45, ([av_37, av_30, av_17, (vC 7), av_30], [], [(ao_48, av_17)], 0)), (45, ([av_37, av_30, av_17, (vC 7), av_47], [], [], 0)), (45, ([av_37, av_30, av_17, (vC 8), av_30], [], [(ao_48, av_17)], 0)), (45, ([av_37, av_30, av_17, (vC 8), av_47], [], [], 0)), (45, ([av_37, av_30, av_17, (vC 9), av_30], [], [(ao_48, av_17)], 0)), (45, ([av_37, av_30, av_17, (vC 9), av_47], [], [], 0)), (45, ([av_37, av_30, av_17, (vC 10), av_30], [], [(ao_48, av_17)], 0)), (45, ([av_37, av_30, av_17, (vC 10), av_47], [], [], 0)), (45, ([av_37, av_30, av_17, (vC 11), av_30], [], [(ao_48, av_17)], 0)), (45, ([av_37, av_30, av_17, (vC 11), av_47], [], [], 0)), (45, ([av_37, av_30, av_17, (vC 12), av_30], [], [(ao_48, av_17)], 0)), (45, ([av_37, av_30, av_17, (vC 12), av_47], [], [], 0)), (99, ([av_37, av_30, av_17, (vC 0), (vC 0)], [], [], 0)), (99, ([av_37, av_30, av_17, av_17, (vC 1)], [], [], 0)), (99, ([av_37, av_30, av_17, av_42, (vC 2)], [], [], 0)), (99, ([av_37, av_30, av_17, av_41, (vC 3)], [], [], 0)), (99, ([av_37, av_30, av_17, av_26, (vC 4)], [], [], 0)), (99, ([av_37, av_30, av_17, av_49, (vC 5)], [], [], 0)), (99, ([av_37, av_30, av_17, av_50, (vC 6)], [], [], 0)), (99, ([av_37, av_30, av_17, av_51, (vC 7)], [], [], 0)), (99, ([av_37, av_30, av_17, av_3, (vC 8)], [], [], 0)), (99, ([av_37, av_30, av_17, av_52, (vC 9)], [], [], 0)), (99, ([av_37, av_30, av_17, av_53, (vC 10)], [], [], 0)), (99, ([av_37, av_30, av_17, av_5, (vC 11)], [], [], 0)), (99, ([av_37, av_30, av_17, av_54, (vC 12)], [], [], 0)), (99, ([av_37, av_30, av_17, av_55, (vC 13)], [], [], 0)), (99, ([av_37, av_30, av_17, av_56, (vC 14)], [], [], 0)), (99, ([av_37, av_30, av_17, av_15, (vC 15)], [], [], 0)), (99, ([av_37, av_30, av_17, av_13, (vC 16)], [], [], 0))]
set_option maxRecDepth 100000 in
theorem k_Hubcascade_detach_0 : vi_chk vK vSG 5 0 vFT_X9 fp_Hubcascade_detach_0 vCT_X9 vC2_X9 [] mt_Hubcascade_detach_0 cX9_detach [2, 45, 99] 400 pt_Hubcascade_detach_0_0 q_Hubcascade_detach_0 [] = true := by decide +kernel
set_option maxHeartbeats 4000000 in
theorem m_Hubcascade_detach_0 (l : Launch) (D : va_G) (cy : Nat → ClassId) (hst : l.stackTraces = false) : vi_Mn l D cy vK vSG yX9_detach (Cond.code yX9_detach cX9_detach 5 (some .int) :: vWall) 3 77 q_Hubcascade_detach_0 := by
  refine vi_Mn_of (own := RX9) (J := [2, 45, 99]) (f := 400) (FT := vFT_X9) (FP := fp_Hubcascade_detach_0) (CT := vCT_X9) (C2 := vC2_X9) (MT := mt_Hubcascade_detach_0) (by decide) rfl rfl rfl (by decide +kernel) (by decide +kernel) (vK_ty cy) k_Hubcascade_detach_0 ?_
  · intro p e s m below meth c ad τ w av S hK hN hs
    refine ⟨vfg_X9 S hK hN, ?_, vct_X9 S, vc2_X9 S, ?_⟩
    · refine vi_f4 (L := fp_Hubcascade_detach_0) ?_
      refine List.forall_mem_cons.mpr ⟨fun d x fs b v h1 h2 h3 => vfp_X9_543_6_17 S hK hN (vTy_ok h1 h2 h3), ?_⟩
      exact fun q hq => by cases hq
    · refine vi_f4 (L := mt_Hubcascade_detach_0) ?_
      refine List.forall_mem_cons.mpr ⟨(List.forall_mem_cons.mpr ⟨⟨rfl, vi_crS S (m_Hubcascade_isSameOrBelow_0 l D cy hst) (cwS 2 S.2.2.2.2 (vgS (vm_5 _ (List.mem_of_getElem? (i := 32) rfl)) (vm_5 _ (List.mem_of_getElem? (i := 33) rfl)) (vm_4 _ (List.mem_of_getElem? (i := 20) rfl)) (vm_5 _ (List.mem_of_getElem? (i := 6) rfl))) rfl rfl rfl ⟨rfl, by decide, by decide, by decide +kernel⟩ ⟨Nat.le_of_ble_eq_true rfl, Nat.le_of_ble_eq_true rfl⟩) rfl hK hN hs (fun w1 w2 h1 h2 => vi_kept_tr (by decide +kernel) h1 h2) (fun q hq => Or.inr hq) ⟨Nat.le_refl _, Nat.le_refl _⟩⟩, (fun ct2 h2 => by cases h2)⟩), ?_⟩
      refine List.forall_mem_cons.mpr ⟨(List.forall_mem_cons.mpr ⟨⟨rfl, vi_crV S (m_Hubcascade_closeBy_0 l D cy hst) (cwV 2 S.2.2.2.2 (vgV (vm_5 _ (List.mem_of_getElem? (i := 34) rfl)) (vm_5 _ (List.mem_of_getElem? (i := 35) rfl)) (vm_5 _ (List.mem_of_getElem? (i := 36) rfl)) (vm_4 _ (List.mem_of_getElem? (i := 20) rfl)) (vm_5 _ (List.mem_of_getElem? (i := 31) rfl))) rfl rfl rfl ⟨rfl, by decide, by decide, by decide +kernel⟩ ⟨Nat.le_of_ble_eq_true rfl, Nat.le_of_ble_eq_true rfl⟩) rfl ⟨_, _, _, _, _, _, rfl, rfl, rfl, rfl⟩ hK hN hs (fun w1 w2 h1 h2 => vi_kept_tr (by decide +kernel) h1 h2) (fun q hq => Or.inr hq) ⟨Nat.le_refl _, Nat.le_refl _⟩⟩, (fun ct2 h2 => by cases h2)⟩), ?_⟩
      refine List.forall_mem_cons.mpr ⟨(List.forall_mem_cons.mpr ⟨⟨rfl, vi_crVN S (m_Device_leave_0 l D cy hst) ⟨va_cnB 0 S.2.2.2.2 (vgN (vm_1 _ (List.mem_of_getElem? (i := 8) rfl))) rfl rfl rfl (hN.1 _ nf_133) (S.2.2.2.2 _ (List.mem_cons_of_mem _ (vm_4 _ (List.mem_of_getElem? (i := 2) rfl)))) ⟨by decide, by decide, by decide +kernel⟩ ⟨Nat.le_of_ble_eq_true rfl, Nat.le_of_ble_eq_true rfl⟩, S.2.2.2.2 _ (List.mem_cons_of_mem _ (vm_5 _ (List.mem_of_getElem? (i := 37) rfl))), S.2.2.2.2 _ (List.mem_cons_of_mem _ (vm_5 _ (List.mem_of_getElem? (i := 38) rfl)))⟩ rfl ⟨_, _, _, _, _, _, rfl, rfl, rfl, rfl⟩ hK hN hs (fun w1 w2 h1 h2 => vi_kept_tr (by decide +kernel) h1 h2) (fun q hq => Or.inr hq) ⟨Nat.le_refl _, Nat.le_refl _⟩⟩, (fun ct2 h2 => by cases h2)⟩), ?_⟩
      exact fun q hq => by cases hq
end VC
