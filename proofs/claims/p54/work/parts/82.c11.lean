section VC
noncomputable def q_Hubcascade_frames_0 : VCt := ([av_37], [], [([av_6], [], [], [])], [], 0)
noncomputable def mt_Hubcascade_frames_0 : List (Nat × Bool × Nat × List VCt) := []
noncomputable def fp_Hubcascade_frames_0 : List (Nat × Nat × Nat × Nat) := []
noncomputable def pt_Hubcascade_frames_0_0 : List (Nat × VS) := [(0, ([av_37], [], [], 0))]
set_option maxRecDepth 100000 in
theorem k_Hubcascade_frames_0 : vi_chk vK vSG 1 0 vFT_X9 fp_Hubcascade_frames_0 vCT_X9 vC2_X9 [] mt_Hubcascade_frames_0 cX9_frames [] 400 pt_Hubcascade_frames_0_0 q_Hubcascade_frames_0 [] = true := by decide +kernel
set_option maxHeartbeats 4000000 in
theorem m_Hubcascade_frames_0 (l : Launch) (D : va_G) (cy : Nat → ClassId) (hst : l.stackTraces = false) : vi_Mn l D cy vK vSG yX9_frames (Cond.code yX9_frames cX9_frames 1 (some .int) :: vWall) 0 0 q_Hubcascade_frames_0 := by
  refine vi_Mn_of (own := RX9) (J := []) (f := 400) (FT := vFT_X9) (FP := fp_Hubcascade_frames_0) (CT := vCT_X9) (C2 := vC2_X9) (MT := mt_Hubcascade_frames_0) (by decide) rfl rfl rfl (by decide +kernel) (by decide +kernel) (vK_ty cy) k_Hubcascade_frames_0 ?_
  · intro p e s m below meth c ad τ w av S hK hN hs
    refine ⟨vfg_X9 S hK hN, ?_, vct_X9 S, vc2_X9 S, ?_⟩
    · exact fun i ci k d9 h => by cases h
    · exact fun i sta k cts h => by cases h
end VC
section VC
noncomputable def q_Hubcascade_left_0 : VCt := ([av_37, av_6], [], [([av_6], [av_38, av_57], [], [])], [], 2)
noncomputable def mt_Hubcascade_left_0 : List (Nat × Bool × Nat × List VCt) := [(124, false, 2, [q_Hubcascade_deviceAt_0])]
noncomputable def fp_Hubcascade_left_0 : List (Nat × Nat × Nat × Nat) := []
noncomputable def pt_Hubcascade_left_0_0 : List (Nat × VS) := [(0, ([av_37, av_6, av_38], [], [], 0))]
set_option maxRecDepth 100000 in
theorem k_Hubcascade_left_0 : vi_chk vK vSG 3 q_Hubcascade_left_0.2.2.2.2 vFT_X9 fp_Hubcascade_left_0 vCT_X9 vC2_X9 [25] mt_Hubcascade_left_0 cX9_left [] 400 pt_Hubcascade_left_0_0 q_Hubcascade_left_0 [] = true := by decide +kernel
set_option maxHeartbeats 4000000 in
theorem m_Hubcascade_left_0 (l : Launch) (D : va_G) (cy : Nat → ClassId) (hst : l.stackTraces = false) : vi_Mx l D cy vK vSG yX9_left (Cond.code yX9_left cX9_left 3 (some .int) :: vWall) 7 111 q_Hubcascade_left_0 ["java/lang/IndexOutOfBoundsException", "java/util/NoSuchElementException"] := by
  refine vi_Mx_of (own := RX9) (J := []) (f := 400) (XP := [25]) (FT := vFT_X9) (FP := fp_Hubcascade_left_0) (CT := vCT_X9) (C2 := vC2_X9) (MT := mt_Hubcascade_left_0) (by decide) rfl rfl (by decide +kernel) (by decide +kernel) (vK_ty cy) k_Hubcascade_left_0 ?_
  · intro p e s m below meth c ad τ w av S hK hN hs hT hout hlocks
    refine ⟨vfg_X9 S hK hN, ?_, vct_X9 S, vc2_X9 S, ?_, ?_⟩
    · exact fun i ci k d9 h => by cases h
    · refine vi_f4 (L := mt_Hubcascade_left_0) ?_
      refine List.forall_mem_cons.mpr ⟨(List.forall_mem_cons.mpr ⟨⟨rfl, vi_crX S (m_Hubcascade_deviceAt_0 l D cy hst) (cwV 1 S.2.2.2.2 (vgV (vm_4 _ (List.mem_of_getElem? (i := 29) rfl)) (vm_4 _ (List.mem_of_getElem? (i := 30) rfl)) (vm_4 _ (List.mem_of_getElem? (i := 31) rfl)) (vm_4 _ (List.mem_of_getElem? (i := 20) rfl)) (vm_4 _ (List.mem_of_getElem? (i := 23) rfl))) rfl rfl rfl ⟨rfl, by decide, by decide, by decide +kernel⟩ ⟨Nat.le_of_ble_eq_true rfl, Nat.le_of_ble_eq_true rfl⟩) rfl ⟨_, _, _, _, _, _, rfl, rfl, rfl, rfl⟩ hK hN hs hT (fun w1 w2 h1 h2 => vi_kept_tr (by decide +kernel) h1 h2) (fun _ h => h) ⟨Nat.le_refl _, Nat.le_refl _⟩ (by decide) hout hlocks (Nat.le_refl _)⟩, (fun ct2 h2 => by cases h2)⟩), ?_⟩
      exact fun q hq => by cases hq
    · refine List.forall_mem_cons.mpr ⟨vi_throwNW (WS := _ :: vWall) (text := "there was no frame") (ik := 203) (is := 444) S.1 S.2.1 hst S.2.2.2.2 S.2.2.2.1 (by decide) (by decide) hT (by decide) (List.mem_cons_of_mem _ (vm_6 _ (List.mem_of_getElem? (i := 30) rfl))) (List.mem_cons_of_mem _ (vm_6 _ (List.mem_of_getElem? (i := 31) rfl))) (fun w h => List.mem_cons_of_mem _ (vmx_5 w h)) (by decide +kernel) (by decide +kernel) (by decide) S.2.2.1 (by decide +kernel) (by decide +kernel) (by decide +kernel) (by decide +kernel) (by decide +kernel) hout hlocks (Nat.le_of_ble_eq_true rfl) (Nat.le_of_ble_eq_true rfl) ⟨Nat.le_refl _, Nat.le_refl _⟩ (Nat.le_refl _) (fun _ h => h), ?_⟩
      exact fun q hq => by cases hq
end VC
section VC
noncomputable def q_Hubcascade_events_0 : VCt := ([av_37], [], [([av_6], [], [], [])], [], 0)
noncomputable def mt_Hubcascade_events_0 : List (Nat × Bool × Nat × List VCt) := []
noncomputable def fp_Hubcascade_events_0 : List (Nat × Nat × Nat × Nat) := []
noncomputable def pt_Hubcascade_events_0_0 : List (Nat × VS) := [(0, ([av_37], [], [], 0))]
set_option maxRecDepth 100000 in
theorem k_Hubcascade_events_0 : vi_chk vK vSG 1 0 vFT_X9 fp_Hubcascade_events_0 vCT_X9 vC2_X9 [] mt_Hubcascade_events_0 cX9_events [] 400 pt_Hubcascade_events_0_0 q_Hubcascade_events_0 [] = true := by decide +kernel
set_option maxHeartbeats 4000000 in
theorem m_Hubcascade_events_0 (l : Launch) (D : va_G) (cy : Nat → ClassId) (hst : l.stackTraces = false) : vi_Mn l D cy vK vSG yX9_events (Cond.code yX9_events cX9_events 1 (some .int) :: vWall) 0 0 q_Hubcascade_events_0 := by
  refine vi_Mn_of (own := RX9) (J := []) (f := 400) (FT := vFT_X9) (FP := fp_Hubcascade_events_0) (CT := vCT_X9) (C2 := vC2_X9) (MT := mt_Hubcascade_events_0) (by decide) rfl rfl rfl (by decide +kernel) (by decide +kernel) (vK_ty cy) k_Hubcascade_events_0 ?_
  · intro p e s m below meth c ad τ w av S hK hN hs
    refine ⟨vfg_X9 S hK hN, ?_, vct_X9 S, vc2_X9 S, ?_⟩
    · exact fun i ci k d9 h => by cases h
    · exact fun i sta k cts h => by cases h
end VC
section VC
noncomputable def q_Events_takeFirst_0 : VCt := ([av_10], [], [([av_16], [], [], [])], [(8, 3, 19), (8, 4, 19), (8, 8, 19), (8, 9, 19)], 0)
noncomputable def mt_Events_takeFirst_0 : List (Nat × Bool × Nat × List VCt) := []
noncomputable def fp_Events_takeFirst_0 : List (Nat × Nat × Nat × Nat) := [(22, 8, 8, 19), (32, 8, 4, 19), (38, 8, 3, 19), (41, 8, 9, 19)]
noncomputable def pt_Events_takeFirst_0_0 : List (Nat × VS) := [(0, ([av_10, av_38], [], [], 0))]
set_option maxRecDepth 100000 in
theorem k_Events_takeFirst_0 : vi_chk vK vSG 2 0 vFT_X3 fp_Events_takeFirst_0 vCT_X3 vC2_X3 [] mt_Events_takeFirst_0 cX3_takeFirst [] 400 pt_Events_takeFirst_0_0 q_Events_takeFirst_0 [] = true := by decide +kernel
set_option maxHeartbeats 4000000 in
theorem m_Events_takeFirst_0 (l : Launch) (D : va_G) (cy : Nat → ClassId) (hst : l.stackTraces = false) : vi_Mn l D cy vK vSG yX3_takeFirst (Cond.code yX3_takeFirst cX3_takeFirst 2 (some .char) :: vWall) 0 0 q_Events_takeFirst_0 := by
  refine vi_Mn_of (own := RX3) (J := []) (f := 400) (FT := vFT_X3) (FP := fp_Events_takeFirst_0) (CT := vCT_X3) (C2 := vC2_X3) (MT := mt_Events_takeFirst_0) (by decide) rfl rfl rfl (by decide +kernel) (by decide +kernel) (vK_ty cy) k_Events_takeFirst_0 ?_
  · intro p e s m below meth c ad τ w av S hK hN hs
    refine ⟨vfg_X3 S hK hN, ?_, vct_X3 S, vc2_X3 S, ?_⟩
    · refine vi_f4 (L := fp_Events_takeFirst_0) ?_
      refine List.forall_mem_cons.mpr ⟨fun d x fs b v h1 h2 h3 => vfp_X3_22_8_8 S hK hN (vTy_ok h1 h2 h3), ?_⟩
      refine List.forall_mem_cons.mpr ⟨fun d x fs b v h1 h2 h3 => vfp_X3_32_8_4 S hK hN (vTy_ok h1 h2 h3), ?_⟩
      refine List.forall_mem_cons.mpr ⟨fun d x fs b v h1 h2 h3 => vfp_X3_38_8_3 S hK hN (vTy_ok h1 h2 h3), ?_⟩
      refine List.forall_mem_cons.mpr ⟨fun d x fs b v h1 h2 h3 => vfp_X3_41_8_9 S hK hN (vTy_ok h1 h2 h3), ?_⟩
      exact fun q hq => by cases hq
    · exact fun i sta k cts h => by cases h
end VC
section VC
noncomputable def q_Hubcascade_event_0 : VCt := ([av_37], [], [([av_16], [], [], [])], [(8, 3, 19), (8, 4, 19), (8, 8, 19), (8, 9, 19)], 1)
noncomputable def mt_Hubcascade_event_0 : List (Nat × Bool × Nat × List VCt) := [(455, false, 1, [q_Events_takeFirst_0])]
noncomputable def fp_Hubcascade_event_0 : List (Nat × Nat × Nat × Nat) := []
noncomputable def pt_Hubcascade_event_0_0 : List (Nat × VS) := [(0, ([av_37], [], [], 0))]
set_option maxRecDepth 100000 in
theorem k_Hubcascade_event_0 : vi_chk vK vSG 1 q_Hubcascade_event_0.2.2.2.2 vFT_X9 fp_Hubcascade_event_0 vCT_X9 vC2_X9 [10] mt_Hubcascade_event_0 cX9_event [] 400 pt_Hubcascade_event_0_0 q_Hubcascade_event_0 [] = true := by decide +kernel
set_option maxHeartbeats 4000000 in
theorem m_Hubcascade_event_0 (l : Launch) (D : va_G) (cy : Nat → ClassId) (hst : l.stackTraces = false) : vi_Mx l D cy vK vSG yX9_event (Cond.code yX9_event cX9_event 1 (some .char) :: vWall) 6 90 q_Hubcascade_event_0 ["java/util/NoSuchElementException"] := by
  refine vi_Mx_of (own := RX9) (J := []) (f := 400) (XP := [10]) (FT := vFT_X9) (FP := fp_Hubcascade_event_0) (CT := vCT_X9) (C2 := vC2_X9) (MT := mt_Hubcascade_event_0) (by decide) rfl rfl (by decide +kernel) (by decide +kernel) (vK_ty cy) k_Hubcascade_event_0 ?_
  · intro p e s m below meth c ad τ w av S hK hN hs hT hout hlocks
    refine ⟨vfg_X9 S hK hN, ?_, vct_X9 S, vc2_X9 S, ?_, ?_⟩
    · exact fun i ci k d9 h => by cases h
    · refine vi_f4 (L := mt_Hubcascade_event_0) ?_
      refine List.forall_mem_cons.mpr ⟨(List.forall_mem_cons.mpr ⟨⟨rfl, vi_crVN S (m_Events_takeFirst_0 l D cy hst) ⟨va_cnB 0 S.2.2.2.2 (vgN (vm_1 _ (List.mem_of_getElem? (i := 32) rfl))) rfl rfl rfl (hN.1 _ nf_148) (S.2.2.2.2 _ (List.mem_cons_of_mem _ (vm_3 _ (List.mem_of_getElem? (i := 35) rfl)))) ⟨by decide, by decide, by decide +kernel⟩ ⟨Nat.le_of_ble_eq_true rfl, Nat.le_of_ble_eq_true rfl⟩, S.2.2.2.2 _ (List.mem_cons_of_mem _ (vm_10 _ (List.mem_of_getElem? (i := 18) rfl))), S.2.2.2.2 _ (List.mem_cons_of_mem _ (vm_10 _ (List.mem_of_getElem? (i := 19) rfl)))⟩ rfl ⟨_, _, _, _, _, _, rfl, rfl, rfl, rfl⟩ hK hN hs (fun w1 w2 h1 h2 => vi_kept_tr (by decide +kernel) h1 h2) (fun q hq => Or.inr hq) ⟨Nat.le_refl _, Nat.le_refl _⟩⟩, (fun ct2 h2 => by cases h2)⟩), ?_⟩
      exact fun q hq => by cases hq
    · refine List.forall_mem_cons.mpr ⟨vi_throwNW (WS := _ :: vWall) (text := "there is no event") (ik := 203) (is := 453) S.1 S.2.1 hst S.2.2.2.2 S.2.2.2.1 (by decide) (by decide) hT (by decide) (List.mem_cons_of_mem _ (vm_6 _ (List.mem_of_getElem? (i := 30) rfl))) (List.mem_cons_of_mem _ (vm_6 _ (List.mem_of_getElem? (i := 31) rfl))) (fun w h => List.mem_cons_of_mem _ (vmx_5 w h)) (by decide +kernel) (by decide +kernel) (by decide) S.2.2.1 (by decide +kernel) (by decide +kernel) (by decide +kernel) (by decide +kernel) (by decide +kernel) hout hlocks (Nat.le_of_ble_eq_true rfl) (Nat.le_of_ble_eq_true rfl) ⟨Nat.le_refl _, Nat.le_refl _⟩ (Nat.le_refl _) (fun _ h => h), ?_⟩
      exact fun q hq => by cases hq
end VC
section VC
noncomputable def q_Hubcascade_eventPipe_0 : VCt := ([av_37], [], [([av_215], [], [], [])], [], 1)
noncomputable def mt_Hubcascade_eventPipe_0 : List (Nat × Bool × Nat × List VCt) := []
noncomputable def fp_Hubcascade_eventPipe_0 : List (Nat × Nat × Nat × Nat) := []
noncomputable def pt_Hubcascade_eventPipe_0_0 : List (Nat × VS) := [(0, ([av_37], [], [], 0))]
set_option maxRecDepth 100000 in
theorem k_Hubcascade_eventPipe_0 : vi_chk vK vSG 1 q_Hubcascade_eventPipe_0.2.2.2.2 vFT_X9 fp_Hubcascade_eventPipe_0 vCT_X9 vC2_X9 [10] mt_Hubcascade_eventPipe_0 cX9_eventPipe [] 400 pt_Hubcascade_eventPipe_0_0 q_Hubcascade_eventPipe_0 [] = true := by decide +kernel
set_option maxHeartbeats 4000000 in
theorem m_Hubcascade_eventPipe_0 (l : Launch) (D : va_G) (cy : Nat → ClassId) (hst : l.stackTraces = false) : vi_Mx l D cy vK vSG yX9_eventPipe (Cond.code yX9_eventPipe cX9_eventPipe 1 (some .int) :: vWall) 6 90 q_Hubcascade_eventPipe_0 ["java/util/NoSuchElementException"] := by
  refine vi_Mx_of (own := RX9) (J := []) (f := 400) (XP := [10]) (FT := vFT_X9) (FP := fp_Hubcascade_eventPipe_0) (CT := vCT_X9) (C2 := vC2_X9) (MT := mt_Hubcascade_eventPipe_0) (by decide) rfl rfl (by decide +kernel) (by decide +kernel) (vK_ty cy) k_Hubcascade_eventPipe_0 ?_
  · intro p e s m below meth c ad τ w av S hK hN hs hT hout hlocks
    refine ⟨vfg_X9 S hK hN, ?_, vct_X9 S, vc2_X9 S, ?_, ?_⟩
    · exact fun i ci k d9 h => by cases h
    · exact fun i sta k cts h => by cases h
    · refine List.forall_mem_cons.mpr ⟨vi_throwNW (WS := _ :: vWall) (text := "no event was taken") (ik := 203) (is := 462) S.1 S.2.1 hst S.2.2.2.2 S.2.2.2.1 (by decide) (by decide) hT (by decide) (List.mem_cons_of_mem _ (vm_6 _ (List.mem_of_getElem? (i := 30) rfl))) (List.mem_cons_of_mem _ (vm_6 _ (List.mem_of_getElem? (i := 31) rfl))) (fun w h => List.mem_cons_of_mem _ (vmx_5 w h)) (by decide +kernel) (by decide +kernel) (by decide) S.2.2.1 (by decide +kernel) (by decide +kernel) (by decide +kernel) (by decide +kernel) (by decide +kernel) hout hlocks (Nat.le_of_ble_eq_true rfl) (Nat.le_of_ble_eq_true rfl) ⟨Nat.le_refl _, Nat.le_refl _⟩ (Nat.le_refl _) (fun _ h => h), ?_⟩
      exact fun q hq => by cases hq
end VC
section VC
noncomputable def q_Hubcascade_eventBytes_0 : VCt := ([av_37], [], [([av_6], [], [], [])], [], 1)
noncomputable def mt_Hubcascade_eventBytes_0 : List (Nat × Bool × Nat × List VCt) := []
noncomputable def fp_Hubcascade_eventBytes_0 : List (Nat × Nat × Nat × Nat) := []
noncomputable def pt_Hubcascade_eventBytes_0_0 : List (Nat × VS) := [(0, ([av_37], [], [], 0))]
set_option maxRecDepth 100000 in
theorem k_Hubcascade_eventBytes_0 : vi_chk vK vSG 1 q_Hubcascade_eventBytes_0.2.2.2.2 vFT_X9 fp_Hubcascade_eventBytes_0 vCT_X9 vC2_X9 [10] mt_Hubcascade_eventBytes_0 cX9_eventBytes [] 400 pt_Hubcascade_eventBytes_0_0 q_Hubcascade_eventBytes_0 [] = true := by decide +kernel
set_option maxHeartbeats 4000000 in
theorem m_Hubcascade_eventBytes_0 (l : Launch) (D : va_G) (cy : Nat → ClassId) (hst : l.stackTraces = false) : vi_Mx l D cy vK vSG yX9_eventBytes (Cond.code yX9_eventBytes cX9_eventBytes 1 (some .int) :: vWall) 6 90 q_Hubcascade_eventBytes_0 ["java/util/NoSuchElementException"] := by
  refine vi_Mx_of (own := RX9) (J := []) (f := 400) (XP := [10]) (FT := vFT_X9) (FP := fp_Hubcascade_eventBytes_0) (CT := vCT_X9) (C2 := vC2_X9) (MT := mt_Hubcascade_eventBytes_0) (by decide) rfl rfl (by decide +kernel) (by decide +kernel) (vK_ty cy) k_Hubcascade_eventBytes_0 ?_
  · intro p e s m below meth c ad τ w av S hK hN hs hT hout hlocks
    refine ⟨vfg_X9 S hK hN, ?_, vct_X9 S, vc2_X9 S, ?_, ?_⟩
    · exact fun i ci k d9 h => by cases h
    · exact fun i sta k cts h => by cases h
    · refine List.forall_mem_cons.mpr ⟨vi_throwNW (WS := _ :: vWall) (text := "no event was taken") (ik := 203) (is := 462) S.1 S.2.1 hst S.2.2.2.2 S.2.2.2.1 (by decide) (by decide) hT (by decide) (List.mem_cons_of_mem _ (vm_6 _ (List.mem_of_getElem? (i := 30) rfl))) (List.mem_cons_of_mem _ (vm_6 _ (List.mem_of_getElem? (i := 31) rfl))) (fun w h => List.mem_cons_of_mem _ (vmx_5 w h)) (by decide +kernel) (by decide +kernel) (by decide) S.2.2.1 (by decide +kernel) (by decide +kernel) (by decide +kernel) (by decide +kernel) (by decide +kernel) hout hlocks (Nat.le_of_ble_eq_true rfl) (Nat.le_of_ble_eq_true rfl) ⟨Nat.le_refl _, Nat.le_refl _⟩ (Nat.le_refl _) (fun _ h => h), ?_⟩
      exact fun q hq => by cases hq
end VC
section VC
noncomputable def q_Hubcascade_missed_0 : VCt := ([av_37], [], [([av_6], [], [], [])], [], 0)
noncomputable def mt_Hubcascade_missed_0 : List (Nat × Bool × Nat × List VCt) := []
noncomputable def fp_Hubcascade_missed_0 : List (Nat × Nat × Nat × Nat) := []
noncomputable def pt_Hubcascade_missed_0_0 : List (Nat × VS) := [(0, ([av_37], [], [], 0))]
set_option maxRecDepth 100000 in
theorem k_Hubcascade_missed_0 : vi_chk vK vSG 1 0 vFT_X9 fp_Hubcascade_missed_0 vCT_X9 vC2_X9 [] mt_Hubcascade_missed_0 cX9_missed [] 400 pt_Hubcascade_missed_0_0 q_Hubcascade_missed_0 [] = true := by decide +kernel
set_option maxHeartbeats 4000000 in
theorem m_Hubcascade_missed_0 (l : Launch) (D : va_G) (cy : Nat → ClassId) (hst : l.stackTraces = false) : vi_Mn l D cy vK vSG yX9_missed (Cond.code yX9_missed cX9_missed 1 (some .int) :: vWall) 0 0 q_Hubcascade_missed_0 := by
  refine vi_Mn_of (own := RX9) (J := []) (f := 400) (FT := vFT_X9) (FP := fp_Hubcascade_missed_0) (CT := vCT_X9) (C2 := vC2_X9) (MT := mt_Hubcascade_missed_0) (by decide) rfl rfl rfl (by decide +kernel) (by decide +kernel) (vK_ty cy) k_Hubcascade_missed_0 ?_
  · intro p e s m below meth c ad τ w av S hK hN hs
    refine ⟨vfg_X9 S hK hN, ?_, vct_X9 S, vc2_X9 S, ?_⟩
    · exact fun i ci k d9 h => by cases h
    · exact fun i sta k cts h => by cases h
end VC
section VC
noncomputable def q_Hubcascade_endpointOut_0 : VCt := ([av_37, av_6, av_6], [], [([av_31], [av_38, av_15, av_39], [], [])], [], 3)
noncomputable def mt_Hubcascade_endpointOut_0 : List (Nat × Bool × Nat × List VCt) := [(124, false, 2, [q_Hubcascade_deviceAt_0]), (283, true, 2, [q_Hubcascade_endpointAt_0])]
noncomputable def fp_Hubcascade_endpointOut_0 : List (Nat × Nat × Nat × Nat) := []
noncomputable def pt_Hubcascade_endpointOut_0_0 : List (Nat × VS) := [(0, ([av_37, av_6, av_6, av_38], [], [], 0))]
set_option maxRecDepth 100000 in
theorem k_Hubcascade_endpointOut_0 : vi_chk vK vSG 4 q_Hubcascade_endpointOut_0.2.2.2.2 vFT_X9 fp_Hubcascade_endpointOut_0 vCT_X9 vC2_X9 [17] mt_Hubcascade_endpointOut_0 cX9_endpointOut [] 400 pt_Hubcascade_endpointOut_0_0 q_Hubcascade_endpointOut_0 [] = true := by decide +kernel
set_option maxHeartbeats 4000000 in
theorem m_Hubcascade_endpointOut_0 (l : Launch) (D : va_G) (cy : Nat → ClassId) (hst : l.stackTraces = false) : vi_Mx l D cy vK vSG yX9_endpointOut (Cond.code yX9_endpointOut cX9_endpointOut 4 (some (.object "Hubcascade$Endpoint")) :: vWall) 7 111 q_Hubcascade_endpointOut_0 ["java/lang/IndexOutOfBoundsException", "java/lang/UnsupportedOperationException"] := by
  refine vi_Mx_of (own := RX9) (J := []) (f := 400) (XP := [17]) (FT := vFT_X9) (FP := fp_Hubcascade_endpointOut_0) (CT := vCT_X9) (C2 := vC2_X9) (MT := mt_Hubcascade_endpointOut_0) (by decide) rfl rfl (by decide +kernel) (by decide +kernel) (vK_ty cy) k_Hubcascade_endpointOut_0 ?_
  · intro p e s m below meth c ad τ w av S hK hN hs hT hout hlocks
    refine ⟨vfg_X9 S hK hN, ?_, vct_X9 S, vc2_X9 S, ?_, ?_⟩
    · exact fun i ci k d9 h => by cases h
    · refine vi_f4 (L := mt_Hubcascade_endpointOut_0) ?_
      refine List.forall_mem_cons.mpr ⟨(List.forall_mem_cons.mpr ⟨⟨rfl, vi_crX S (m_Hubcascade_deviceAt_0 l D cy hst) (cwV 1 S.2.2.2.2 (vgV (vm_4 _ (List.mem_of_getElem? (i := 29) rfl)) (vm_4 _ (List.mem_of_getElem? (i := 30) rfl)) (vm_4 _ (List.mem_of_getElem? (i := 31) rfl)) (vm_4 _ (List.mem_of_getElem? (i := 20) rfl)) (vm_4 _ (List.mem_of_getElem? (i := 23) rfl))) rfl rfl rfl ⟨rfl, by decide, by decide, by decide +kernel⟩ ⟨Nat.le_of_ble_eq_true rfl, Nat.le_of_ble_eq_true rfl⟩) rfl ⟨_, _, _, _, _, _, rfl, rfl, rfl, rfl⟩ hK hN hs hT (fun w1 w2 h1 h2 => vi_kept_tr (by decide +kernel) h1 h2) (fun _ h => h) ⟨Nat.le_refl _, Nat.le_refl _⟩ (by decide) hout hlocks (Nat.le_refl _)⟩, (fun ct2 h2 => by cases h2)⟩), ?_⟩
      refine List.forall_mem_cons.mpr ⟨(List.forall_mem_cons.mpr ⟨⟨rfl, vi_crXS S (m_Hubcascade_endpointAt_0 l D cy hst) (cwS 2 S.2.2.2.2 (vgS (vm_8 _ (List.mem_of_getElem? (i := 1) rfl)) (vm_8 _ (List.mem_of_getElem? (i := 2) rfl)) (vm_4 _ (List.mem_of_getElem? (i := 20) rfl)) (vm_7 _ (List.mem_of_getElem? (i := 35) rfl))) rfl rfl rfl ⟨rfl, by decide, by decide, by decide +kernel⟩ ⟨Nat.le_of_ble_eq_true rfl, Nat.le_of_ble_eq_true rfl⟩) rfl hK hN hs hT (fun w1 w2 h1 h2 => vi_kept_tr (by decide +kernel) h1 h2) (fun _ h => h) ⟨Nat.le_refl _, Nat.le_refl _⟩ (by decide) hout hlocks (Nat.le_refl _)⟩, (fun ct2 h2 => by cases h2)⟩), ?_⟩
      exact fun q hq => by cases hq
    · refine List.forall_mem_cons.mpr ⟨vi_throwSW (WS := _ :: vWall) (text := "it goes into the host") (ik := 139) (is := 534) (ic := 143) (X := "java/lang/UnsupportedOperationException") S.1 S.2.1 hst S.2.2.2.2 S.2.2.2.1 (by decide) (by decide) hT (by decide) (List.mem_cons_of_mem _ (vm_4 _ (List.mem_of_getElem? (i := 27) rfl))) (List.mem_cons_of_mem _ (vm_4 _ (List.mem_of_getElem? (i := 28) rfl))) (fun w h => List.mem_cons_of_mem _ (vmx_1 w h)) (by decide +kernel) (by decide +kernel) (by decide) S.2.2.1 (by decide +kernel) (by decide +kernel) (by decide +kernel) (by decide +kernel) (by decide +kernel) hout hlocks (Nat.le_of_ble_eq_true rfl) (Nat.le_of_ble_eq_true rfl) ⟨Nat.le_refl _, Nat.le_refl _⟩ (Nat.le_refl _) (fun _ h => h), ?_⟩
      exact fun q hq => by cases hq
end VC
section VC
noncomputable def q_Hubcascade_taken_0 : VCt := ([av_37, av_6, av_6], [], [([av_6], [av_38, av_15, av_39], [], [])], [], 3)
noncomputable def mt_Hubcascade_taken_0 : List (Nat × Bool × Nat × List VCt) := [(470, false, 3, [q_Hubcascade_endpointOut_0])]
noncomputable def fp_Hubcascade_taken_0 : List (Nat × Nat × Nat × Nat) := []
noncomputable def pt_Hubcascade_taken_0_0 : List (Nat × VS) := [(0, ([av_37, av_6, av_6], [], [], 0))]
set_option maxRecDepth 100000 in
theorem k_Hubcascade_taken_0 : vi_chk vK vSG 3 q_Hubcascade_taken_0.2.2.2.2 vFT_X9 fp_Hubcascade_taken_0 vCT_X9 vC2_X9 [] mt_Hubcascade_taken_0 cX9_taken [] 400 pt_Hubcascade_taken_0_0 q_Hubcascade_taken_0 [] = true := by decide +kernel
set_option maxHeartbeats 4000000 in
theorem m_Hubcascade_taken_0 (l : Launch) (D : va_G) (cy : Nat → ClassId) (hst : l.stackTraces = false) : vi_Mx l D cy vK vSG yX9_taken (Cond.code yX9_taken cX9_taken 3 (some .int) :: vWall) 8 134 q_Hubcascade_taken_0 ["java/lang/IndexOutOfBoundsException", "java/lang/UnsupportedOperationException"] := by
  refine vi_Mx_of (own := RX9) (J := []) (f := 400) (XP := []) (FT := vFT_X9) (FP := fp_Hubcascade_taken_0) (CT := vCT_X9) (C2 := vC2_X9) (MT := mt_Hubcascade_taken_0) (by decide) rfl rfl (by decide +kernel) (by decide +kernel) (vK_ty cy) k_Hubcascade_taken_0 ?_
  · intro p e s m below meth c ad τ w av S hK hN hs hT hout hlocks
    refine ⟨vfg_X9 S hK hN, ?_, vct_X9 S, vc2_X9 S, ?_, ?_⟩
    · exact fun i ci k d9 h => by cases h
    · refine vi_f4 (L := mt_Hubcascade_taken_0) ?_
      refine List.forall_mem_cons.mpr ⟨(List.forall_mem_cons.mpr ⟨⟨rfl, vi_crX S (m_Hubcascade_endpointOut_0 l D cy hst) (cwV 2 S.2.2.2.2 (vgV (vm_10 _ (List.mem_of_getElem? (i := 25) rfl)) (vm_10 _ (List.mem_of_getElem? (i := 26) rfl)) (vm_10 _ (List.mem_of_getElem? (i := 27) rfl)) (vm_4 _ (List.mem_of_getElem? (i := 20) rfl)) (vm_10 _ (List.mem_of_getElem? (i := 23) rfl))) rfl rfl rfl ⟨rfl, by decide, by decide, by decide +kernel⟩ ⟨Nat.le_of_ble_eq_true rfl, Nat.le_of_ble_eq_true rfl⟩) rfl ⟨_, _, _, _, _, _, rfl, rfl, rfl, rfl⟩ hK hN hs hT (fun w1 w2 h1 h2 => vi_kept_tr (by decide +kernel) h1 h2) (fun _ h => h) ⟨Nat.le_refl _, Nat.le_refl _⟩ (by decide) hout hlocks (Nat.le_refl _)⟩, (fun ct2 h2 => by cases h2)⟩), ?_⟩
      exact fun q hq => by cases hq
    · exact fun q hq => by cases hq
end VC
section VC
noncomputable def q_Hubcascade_newest_0 : VCt := ([av_23, av_6], [], [([av_6], [av_38, av_44], [(ao_231, av_241)], [])], [], 1)
noncomputable def mt_Hubcascade_newest_0 : List (Nat × Bool × Nat × List VCt) := [(278, false, 2, [q_ByteRow_at_1])]
noncomputable def fp_Hubcascade_newest_0 : List (Nat × Nat × Nat × Nat) := []
noncomputable def pt_Hubcascade_newest_0_0 : List (Nat × VS) := [(0, ([av_23, av_6], [], [], 0))]
set_option maxRecDepth 100000 in
theorem k_Hubcascade_newest_0 : vi_chk vK vSG 2 q_Hubcascade_newest_0.2.2.2.2 vFT_X9 fp_Hubcascade_newest_0 vCT_X9 vC2_X9 [12] mt_Hubcascade_newest_0 cX9_newest [] 400 pt_Hubcascade_newest_0_0 q_Hubcascade_newest_0 [] = true := by decide +kernel
set_option maxHeartbeats 4000000 in
theorem m_Hubcascade_newest_0 (l : Launch) (D : va_G) (cy : Nat → ClassId) (hst : l.stackTraces = false) : vi_Mx l D cy vK vSG yX9_newest (Cond.code yX9_newest cX9_newest 2 (some .int) :: vWall) 6 90 q_Hubcascade_newest_0 ["java/util/NoSuchElementException"] := by
  refine vi_Mx_of (own := RX9) (J := []) (f := 400) (XP := [12]) (FT := vFT_X9) (FP := fp_Hubcascade_newest_0) (CT := vCT_X9) (C2 := vC2_X9) (MT := mt_Hubcascade_newest_0) (by decide) rfl rfl (by decide +kernel) (by decide +kernel) (vK_ty cy) k_Hubcascade_newest_0 ?_
  · intro p e s m below meth c ad τ w av S hK hN hs hT hout hlocks
    refine ⟨vfg_X9 S hK hN, ?_, vct_X9 S, vc2_X9 S, ?_, ?_⟩
    · exact fun i ci k d9 h => by cases h
    · refine vi_f4 (L := mt_Hubcascade_newest_0) ?_
      refine List.forall_mem_cons.mpr ⟨(List.forall_mem_cons.mpr ⟨⟨rfl, vi_crVN S (m_ByteRow_at_1 l D cy hst) ⟨va_cnB 1 S.2.2.2.2 (vgN (vm_0 _ (List.mem_of_getElem? (i := 10) rfl))) rfl rfl rfl (hN.1 _ nf_125) (S.2.2.2.2 _ (List.mem_cons_of_mem _ (vm_0 _ (List.mem_of_getElem? (i := 23) rfl)))) ⟨by decide, by decide, by decide +kernel⟩ ⟨Nat.le_of_ble_eq_true rfl, Nat.le_of_ble_eq_true rfl⟩, S.2.2.2.2 _ (List.mem_cons_of_mem _ (vm_7 _ (List.mem_of_getElem? (i := 32) rfl))), S.2.2.2.2 _ (List.mem_cons_of_mem _ (vm_7 _ (List.mem_of_getElem? (i := 33) rfl)))⟩ rfl ⟨_, _, _, _, _, _, rfl, rfl, rfl, rfl⟩ hK hN hs (fun w1 w2 h1 h2 => vi_kept_tr (by decide +kernel) h1 h2) (fun q hq => Or.inr hq) ⟨Nat.le_refl _, Nat.le_refl _⟩⟩, (fun ct2 h2 => by cases h2)⟩), ?_⟩
      exact fun q hq => by cases hq
    · refine List.forall_mem_cons.mpr ⟨vi_throwNW (WS := _ :: vWall) (text := "no such byte is kept") (ik := 203) (is := 541) S.1 S.2.1 hst S.2.2.2.2 S.2.2.2.1 (by decide) (by decide) hT (by decide) (List.mem_cons_of_mem _ (vm_6 _ (List.mem_of_getElem? (i := 30) rfl))) (List.mem_cons_of_mem _ (vm_6 _ (List.mem_of_getElem? (i := 31) rfl))) (fun w h => List.mem_cons_of_mem _ (vmx_5 w h)) (by decide +kernel) (by decide +kernel) (by decide) S.2.2.1 (by decide +kernel) (by decide +kernel) (by decide +kernel) (by decide +kernel) (by decide +kernel) hout hlocks (Nat.le_of_ble_eq_true rfl) (Nat.le_of_ble_eq_true rfl) ⟨Nat.le_refl _, Nat.le_refl _⟩ (Nat.le_refl _) (fun _ h => h), ?_⟩
      exact fun q hq => by cases hq
end VC
section VC
noncomputable def q_Hubcascade_takenAt_0 : VCt := ([av_37, av_6, av_6, av_6], [], [([av_6], [av_38, av_15, av_39, av_44], [], [])], [], 4)
noncomputable def mt_Hubcascade_takenAt_0 : List (Nat × Bool × Nat × List VCt) := [(470, false, 3, [q_Hubcascade_endpointOut_0]), (477, true, 2, [q_Hubcascade_newest_0])]
noncomputable def fp_Hubcascade_takenAt_0 : List (Nat × Nat × Nat × Nat) := []
noncomputable def pt_Hubcascade_takenAt_0_0 : List (Nat × VS) := [(0, ([av_37, av_6, av_6, av_6], [], [], 0))]
set_option maxRecDepth 100000 in
theorem k_Hubcascade_takenAt_0 : vi_chk vK vSG 4 q_Hubcascade_takenAt_0.2.2.2.2 vFT_X9 fp_Hubcascade_takenAt_0 vCT_X9 vC2_X9 [] mt_Hubcascade_takenAt_0 cX9_takenAt [] 400 pt_Hubcascade_takenAt_0_0 q_Hubcascade_takenAt_0 [] = true := by decide +kernel
set_option maxHeartbeats 4000000 in
theorem m_Hubcascade_takenAt_0 (l : Launch) (D : va_G) (cy : Nat → ClassId) (hst : l.stackTraces = false) : vi_Mx l D cy vK vSG yX9_takenAt (Cond.code yX9_takenAt cX9_takenAt 4 (some .int) :: vWall) 8 134 q_Hubcascade_takenAt_0 ["java/lang/IndexOutOfBoundsException", "java/lang/UnsupportedOperationException", "java/util/NoSuchElementException"] := by
  refine vi_Mx_of (own := RX9) (J := []) (f := 400) (XP := []) (FT := vFT_X9) (FP := fp_Hubcascade_takenAt_0) (CT := vCT_X9) (C2 := vC2_X9) (MT := mt_Hubcascade_takenAt_0) (by decide) rfl rfl (by decide +kernel) (by decide +kernel) (vK_ty cy) k_Hubcascade_takenAt_0 ?_
  · intro p e s m below meth c ad τ w av S hK hN hs hT hout hlocks
    refine ⟨vfg_X9 S hK hN, ?_, vct_X9 S, vc2_X9 S, ?_, ?_⟩
    · exact fun i ci k d9 h => by cases h
    · refine vi_f4 (L := mt_Hubcascade_takenAt_0) ?_
      refine List.forall_mem_cons.mpr ⟨(List.forall_mem_cons.mpr ⟨⟨rfl, vi_crX S (m_Hubcascade_endpointOut_0 l D cy hst) (cwV 2 S.2.2.2.2 (vgV (vm_10 _ (List.mem_of_getElem? (i := 25) rfl)) (vm_10 _ (List.mem_of_getElem? (i := 26) rfl)) (vm_10 _ (List.mem_of_getElem? (i := 27) rfl)) (vm_4 _ (List.mem_of_getElem? (i := 20) rfl)) (vm_10 _ (List.mem_of_getElem? (i := 23) rfl))) rfl rfl rfl ⟨rfl, by decide, by decide, by decide +kernel⟩ ⟨Nat.le_of_ble_eq_true rfl, Nat.le_of_ble_eq_true rfl⟩) rfl ⟨_, _, _, _, _, _, rfl, rfl, rfl, rfl⟩ hK hN hs hT (fun w1 w2 h1 h2 => vi_kept_tr (by decide +kernel) h1 h2) (fun _ h => h) ⟨Nat.le_refl _, Nat.le_refl _⟩ (by decide) hout hlocks (Nat.le_refl _)⟩, (fun ct2 h2 => by cases h2)⟩), ?_⟩
      refine List.forall_mem_cons.mpr ⟨(List.forall_mem_cons.mpr ⟨⟨rfl, vi_crXS S (m_Hubcascade_newest_0 l D cy hst) (cwS 2 S.2.2.2.2 (vgS (vm_10 _ (List.mem_of_getElem? (i := 29) rfl)) (vm_10 _ (List.mem_of_getElem? (i := 30) rfl)) (vm_4 _ (List.mem_of_getElem? (i := 20) rfl)) (vm_10 _ (List.mem_of_getElem? (i := 28) rfl))) rfl rfl rfl ⟨rfl, by decide, by decide, by decide +kernel⟩ ⟨Nat.le_of_ble_eq_true rfl, Nat.le_of_ble_eq_true rfl⟩) rfl hK hN hs hT (fun w1 w2 h1 h2 => vi_kept_tr (by decide +kernel) h1 h2) (fun _ h => h) ⟨Nat.le_refl _, Nat.le_refl _⟩ (by decide) hout hlocks (Nat.le_refl _)⟩, (fun ct2 h2 => by cases h2)⟩), ?_⟩
      exact fun q hq => by cases hq
    · exact fun q hq => by cases hq
end VC
section VC
noncomputable def q_Hubcascade_waiting_0 : VCt := ([av_37, av_6, av_6], [], [([av_6], [av_38, av_15, av_39], [], [])], [], 3)
noncomputable def mt_Hubcascade_waiting_0 : List (Nat × Bool × Nat × List VCt) := [(124, false, 2, [q_Hubcascade_deviceAt_0]), (283, true, 2, [q_Hubcascade_endpointAt_0])]
noncomputable def fp_Hubcascade_waiting_0 : List (Nat × Nat × Nat × Nat) := []
noncomputable def pt_Hubcascade_waiting_0_0 : List (Nat × VS) := [(0, ([av_37, av_6, av_6, av_38], [], [], 0))]
set_option maxRecDepth 100000 in
theorem k_Hubcascade_waiting_0 : vi_chk vK vSG 4 q_Hubcascade_waiting_0.2.2.2.2 vFT_X9 fp_Hubcascade_waiting_0 vCT_X9 vC2_X9 [17] mt_Hubcascade_waiting_0 cX9_waiting [] 400 pt_Hubcascade_waiting_0_0 q_Hubcascade_waiting_0 [] = true := by decide +kernel
set_option maxHeartbeats 4000000 in
theorem m_Hubcascade_waiting_0 (l : Launch) (D : va_G) (cy : Nat → ClassId) (hst : l.stackTraces = false) : vi_Mx l D cy vK vSG yX9_waiting (Cond.code yX9_waiting cX9_waiting 4 (some .int) :: vWall) 7 111 q_Hubcascade_waiting_0 ["java/lang/IndexOutOfBoundsException", "java/lang/UnsupportedOperationException"] := by
  refine vi_Mx_of (own := RX9) (J := []) (f := 400) (XP := [17]) (FT := vFT_X9) (FP := fp_Hubcascade_waiting_0) (CT := vCT_X9) (C2 := vC2_X9) (MT := mt_Hubcascade_waiting_0) (by decide) rfl rfl (by decide +kernel) (by decide +kernel) (vK_ty cy) k_Hubcascade_waiting_0 ?_
  · intro p e s m below meth c ad τ w av S hK hN hs hT hout hlocks
    refine ⟨vfg_X9 S hK hN, ?_, vct_X9 S, vc2_X9 S, ?_, ?_⟩
    · exact fun i ci k d9 h => by cases h
    · refine vi_f4 (L := mt_Hubcascade_waiting_0) ?_
      refine List.forall_mem_cons.mpr ⟨(List.forall_mem_cons.mpr ⟨⟨rfl, vi_crX S (m_Hubcascade_deviceAt_0 l D cy hst) (cwV 1 S.2.2.2.2 (vgV (vm_4 _ (List.mem_of_getElem? (i := 29) rfl)) (vm_4 _ (List.mem_of_getElem? (i := 30) rfl)) (vm_4 _ (List.mem_of_getElem? (i := 31) rfl)) (vm_4 _ (List.mem_of_getElem? (i := 20) rfl)) (vm_4 _ (List.mem_of_getElem? (i := 23) rfl))) rfl rfl rfl ⟨rfl, by decide, by decide, by decide +kernel⟩ ⟨Nat.le_of_ble_eq_true rfl, Nat.le_of_ble_eq_true rfl⟩) rfl ⟨_, _, _, _, _, _, rfl, rfl, rfl, rfl⟩ hK hN hs hT (fun w1 w2 h1 h2 => vi_kept_tr (by decide +kernel) h1 h2) (fun _ h => h) ⟨Nat.le_refl _, Nat.le_refl _⟩ (by decide) hout hlocks (Nat.le_refl _)⟩, (fun ct2 h2 => by cases h2)⟩), ?_⟩
      refine List.forall_mem_cons.mpr ⟨(List.forall_mem_cons.mpr ⟨⟨rfl, vi_crXS S (m_Hubcascade_endpointAt_0 l D cy hst) (cwS 2 S.2.2.2.2 (vgS (vm_8 _ (List.mem_of_getElem? (i := 1) rfl)) (vm_8 _ (List.mem_of_getElem? (i := 2) rfl)) (vm_4 _ (List.mem_of_getElem? (i := 20) rfl)) (vm_7 _ (List.mem_of_getElem? (i := 35) rfl))) rfl rfl rfl ⟨rfl, by decide, by decide, by decide +kernel⟩ ⟨Nat.le_of_ble_eq_true rfl, Nat.le_of_ble_eq_true rfl⟩) rfl hK hN hs hT (fun w1 w2 h1 h2 => vi_kept_tr (by decide +kernel) h1 h2) (fun _ h => h) ⟨Nat.le_refl _, Nat.le_refl _⟩ (by decide) hout hlocks (Nat.le_refl _)⟩, (fun ct2 h2 => by cases h2)⟩), ?_⟩
      exact fun q hq => by cases hq
    · refine List.forall_mem_cons.mpr ⟨vi_throwSW (WS := _ :: vWall) (text := "it goes out of the host") (ik := 139) (is := 372) (ic := 143) (X := "java/lang/UnsupportedOperationException") S.1 S.2.1 hst S.2.2.2.2 S.2.2.2.1 (by decide) (by decide) hT (by decide) (List.mem_cons_of_mem _ (vm_4 _ (List.mem_of_getElem? (i := 27) rfl))) (List.mem_cons_of_mem _ (vm_4 _ (List.mem_of_getElem? (i := 28) rfl))) (fun w h => List.mem_cons_of_mem _ (vmx_1 w h)) (by decide +kernel) (by decide +kernel) (by decide) S.2.2.1 (by decide +kernel) (by decide +kernel) (by decide +kernel) (by decide +kernel) (by decide +kernel) hout hlocks (Nat.le_of_ble_eq_true rfl) (Nat.le_of_ble_eq_true rfl) ⟨Nat.le_refl _, Nat.le_refl _⟩ (Nat.le_refl _) (fun _ h => h), ?_⟩
      exact fun q hq => by cases hq
end VC
section VC
noncomputable def q_Hubcascade_got_0 : VCt := ([av_37], [], [([av_6], [], [], [])], [], 0)
noncomputable def mt_Hubcascade_got_0 : List (Nat × Bool × Nat × List VCt) := []
noncomputable def fp_Hubcascade_got_0 : List (Nat × Nat × Nat × Nat) := []
noncomputable def pt_Hubcascade_got_0_0 : List (Nat × VS) := [(0, ([av_37], [], [], 0))]
set_option maxRecDepth 100000 in
theorem k_Hubcascade_got_0 : vi_chk vK vSG 1 0 vFT_X9 fp_Hubcascade_got_0 vCT_X9 vC2_X9 [] mt_Hubcascade_got_0 cX9_got [] 400 pt_Hubcascade_got_0_0 q_Hubcascade_got_0 [] = true := by decide +kernel
set_option maxHeartbeats 4000000 in
theorem m_Hubcascade_got_0 (l : Launch) (D : va_G) (cy : Nat → ClassId) (hst : l.stackTraces = false) : vi_Mn l D cy vK vSG yX9_got (Cond.code yX9_got cX9_got 1 (some .int) :: vWall) 0 0 q_Hubcascade_got_0 := by
  refine vi_Mn_of (own := RX9) (J := []) (f := 400) (FT := vFT_X9) (FP := fp_Hubcascade_got_0) (CT := vCT_X9) (C2 := vC2_X9) (MT := mt_Hubcascade_got_0) (by decide) rfl rfl rfl (by decide +kernel) (by decide +kernel) (vK_ty cy) k_Hubcascade_got_0 ?_
  · intro p e s m below meth c ad τ w av S hK hN hs
    refine ⟨vfg_X9 S hK hN, ?_, vct_X9 S, vc2_X9 S, ?_⟩
    · exact fun i ci k d9 h => by cases h
    · exact fun i sta k cts h => by cases h
end VC
section VC
noncomputable def q_ByteRow_at_2 : VCt := ([av_8, av_6], [], [([av_6], [], [], [])], [], 0)
noncomputable def mt_ByteRow_at_2 : List (Nat × Bool × Nat × List VCt) := []
noncomputable def fp_ByteRow_at_2 : List (Nat × Nat × Nat × Nat) := []
noncomputable def pt_ByteRow_at_2_0 : List (Nat × VS) := [(0, ([av_8, av_6], [], [], 0))]
set_option maxRecDepth 100000 in
theorem k_ByteRow_at_2 : vi_chk vK vSG 2 0 vFT_X0 fp_ByteRow_at_2 vCT_X0 vC2_X0 [] mt_ByteRow_at_2 cX0_at [] 400 pt_ByteRow_at_2_0 q_ByteRow_at_2 [] = true := by decide +kernel
set_option maxHeartbeats 4000000 in
theorem m_ByteRow_at_2 (l : Launch) (D : va_G) (cy : Nat → ClassId) (hst : l.stackTraces = false) : vi_Mn l D cy vK vSG yX0_at (Cond.code yX0_at cX0_at 2 (some .int) :: vWall) 0 0 q_ByteRow_at_2 := by
  refine vi_Mn_of (own := RX0) (J := []) (f := 400) (FT := vFT_X0) (FP := fp_ByteRow_at_2) (CT := vCT_X0) (C2 := vC2_X0) (MT := mt_ByteRow_at_2) (by decide) rfl rfl rfl (by decide +kernel) (by decide +kernel) (vK_ty cy) k_ByteRow_at_2 ?_
  · intro p e s m below meth c ad τ w av S hK hN hs
    refine ⟨vfg_X0 S hK hN, ?_, vct_X0 S, vc2_X0 S, ?_⟩
    · exact fun i ci k d9 h => by cases h
    · exact fun i sta k cts h => by cases h
end VC
section VC
noncomputable def q_Hubcascade_newest_1 : VCt := ([av_8, av_6], [], [([av_6], [av_38, av_242], [(ao_236, av_237)], [])], [], 1)
noncomputable def mt_Hubcascade_newest_1 : List (Nat × Bool × Nat × List VCt) := [(278, false, 2, [q_ByteRow_at_2])]
noncomputable def fp_Hubcascade_newest_1 : List (Nat × Nat × Nat × Nat) := []
noncomputable def pt_Hubcascade_newest_1_0 : List (Nat × VS) := [(0, ([av_8, av_6], [], [], 0))]
set_option maxRecDepth 100000 in
theorem k_Hubcascade_newest_1 : vi_chk vK vSG 2 q_Hubcascade_newest_1.2.2.2.2 vFT_X9 fp_Hubcascade_newest_1 vCT_X9 vC2_X9 [12] mt_Hubcascade_newest_1 cX9_newest [] 400 pt_Hubcascade_newest_1_0 q_Hubcascade_newest_1 [] = true := by decide +kernel
set_option maxHeartbeats 4000000 in
theorem m_Hubcascade_newest_1 (l : Launch) (D : va_G) (cy : Nat → ClassId) (hst : l.stackTraces = false) : vi_Mx l D cy vK vSG yX9_newest (Cond.code yX9_newest cX9_newest 2 (some .int) :: vWall) 6 90 q_Hubcascade_newest_1 ["java/util/NoSuchElementException"] := by
  refine vi_Mx_of (own := RX9) (J := []) (f := 400) (XP := [12]) (FT := vFT_X9) (FP := fp_Hubcascade_newest_1) (CT := vCT_X9) (C2 := vC2_X9) (MT := mt_Hubcascade_newest_1) (by decide) rfl rfl (by decide +kernel) (by decide +kernel) (vK_ty cy) k_Hubcascade_newest_1 ?_
  · intro p e s m below meth c ad τ w av S hK hN hs hT hout hlocks
    refine ⟨vfg_X9 S hK hN, ?_, vct_X9 S, vc2_X9 S, ?_, ?_⟩
    · exact fun i ci k d9 h => by cases h
    · refine vi_f4 (L := mt_Hubcascade_newest_1) ?_
      refine List.forall_mem_cons.mpr ⟨(List.forall_mem_cons.mpr ⟨⟨rfl, vi_crVN S (m_ByteRow_at_2 l D cy hst) ⟨va_cnB 1 S.2.2.2.2 (vgN (vm_0 _ (List.mem_of_getElem? (i := 10) rfl))) rfl rfl rfl (hN.1 _ nf_125) (S.2.2.2.2 _ (List.mem_cons_of_mem _ (vm_0 _ (List.mem_of_getElem? (i := 23) rfl)))) ⟨by decide, by decide, by decide +kernel⟩ ⟨Nat.le_of_ble_eq_true rfl, Nat.le_of_ble_eq_true rfl⟩, S.2.2.2.2 _ (List.mem_cons_of_mem _ (vm_7 _ (List.mem_of_getElem? (i := 32) rfl))), S.2.2.2.2 _ (List.mem_cons_of_mem _ (vm_7 _ (List.mem_of_getElem? (i := 33) rfl)))⟩ rfl ⟨_, _, _, _, _, _, rfl, rfl, rfl, rfl⟩ hK hN hs (fun w1 w2 h1 h2 => vi_kept_tr (by decide +kernel) h1 h2) (fun q hq => Or.inr hq) ⟨Nat.le_refl _, Nat.le_refl _⟩⟩, (fun ct2 h2 => by cases h2)⟩), ?_⟩
      exact fun q hq => by cases hq
    · refine List.forall_mem_cons.mpr ⟨vi_throwNW (WS := _ :: vWall) (text := "no such byte is kept") (ik := 203) (is := 541) S.1 S.2.1 hst S.2.2.2.2 S.2.2.2.1 (by decide) (by decide) hT (by decide) (List.mem_cons_of_mem _ (vm_6 _ (List.mem_of_getElem? (i := 30) rfl))) (List.mem_cons_of_mem _ (vm_6 _ (List.mem_of_getElem? (i := 31) rfl))) (fun w h => List.mem_cons_of_mem _ (vmx_5 w h)) (by decide +kernel) (by decide +kernel) (by decide) S.2.2.1 (by decide +kernel) (by decide +kernel) (by decide +kernel) (by decide +kernel) (by decide +kernel) hout hlocks (Nat.le_of_ble_eq_true rfl) (Nat.le_of_ble_eq_true rfl) ⟨Nat.le_refl _, Nat.le_refl _⟩ (Nat.le_refl _) (fun _ h => h), ?_⟩
      exact fun q hq => by cases hq
end VC
section VC
noncomputable def q_Hubcascade_gotAt_0 : VCt := ([av_37, av_6], [], [([av_6], [av_38, av_242], [(ao_236, av_237)], [])], [], 1)
noncomputable def mt_Hubcascade_gotAt_0 : List (Nat × Bool × Nat × List VCt) := [(477, true, 2, [q_Hubcascade_newest_1])]
noncomputable def fp_Hubcascade_gotAt_0 : List (Nat × Nat × Nat × Nat) := []
noncomputable def pt_Hubcascade_gotAt_0_0 : List (Nat × VS) := [(0, ([av_37, av_6], [], [], 0))]
set_option maxRecDepth 100000 in
theorem k_Hubcascade_gotAt_0 : vi_chk vK vSG 2 q_Hubcascade_gotAt_0.2.2.2.2 vFT_X9 fp_Hubcascade_gotAt_0 vCT_X9 vC2_X9 [] mt_Hubcascade_gotAt_0 cX9_gotAt [] 400 pt_Hubcascade_gotAt_0_0 q_Hubcascade_gotAt_0 [] = true := by decide +kernel
set_option maxHeartbeats 4000000 in
theorem m_Hubcascade_gotAt_0 (l : Launch) (D : va_G) (cy : Nat → ClassId) (hst : l.stackTraces = false) : vi_Mx l D cy vK vSG yX9_gotAt (Cond.code yX9_gotAt cX9_gotAt 2 (some .int) :: vWall) 7 111 q_Hubcascade_gotAt_0 ["java/util/NoSuchElementException"] := by
  refine vi_Mx_of (own := RX9) (J := []) (f := 400) (XP := []) (FT := vFT_X9) (FP := fp_Hubcascade_gotAt_0) (CT := vCT_X9) (C2 := vC2_X9) (MT := mt_Hubcascade_gotAt_0) (by decide) rfl rfl (by decide +kernel) (by decide +kernel) (vK_ty cy) k_Hubcascade_gotAt_0 ?_
  · intro p e s m below meth c ad τ w av S hK hN hs hT hout hlocks
    refine ⟨vfg_X9 S hK hN, ?_, vct_X9 S, vc2_X9 S, ?_, ?_⟩
    · exact fun i ci k d9 h => by cases h
    · refine vi_f4 (L := mt_Hubcascade_gotAt_0) ?_
      refine List.forall_mem_cons.mpr ⟨(List.forall_mem_cons.mpr ⟨⟨rfl, vi_crXS S (m_Hubcascade_newest_1 l D cy hst) (cwS 2 S.2.2.2.2 (vgS (vm_10 _ (List.mem_of_getElem? (i := 29) rfl)) (vm_10 _ (List.mem_of_getElem? (i := 30) rfl)) (vm_4 _ (List.mem_of_getElem? (i := 20) rfl)) (vm_10 _ (List.mem_of_getElem? (i := 28) rfl))) rfl rfl rfl ⟨rfl, by decide, by decide, by decide +kernel⟩ ⟨Nat.le_of_ble_eq_true rfl, Nat.le_of_ble_eq_true rfl⟩) rfl hK hN hs hT (fun w1 w2 h1 h2 => vi_kept_tr (by decide +kernel) h1 h2) (fun _ h => h) ⟨Nat.le_refl _, Nat.le_refl _⟩ (by decide) hout hlocks (Nat.le_refl _)⟩, (fun ct2 h2 => by cases h2)⟩), ?_⟩
      exact fun q hq => by cases hq
    · exact fun q hq => by cases hq
end VC
section VC
noncomputable def q_Hubcascade_packets_0 : VCt := ([av_37, av_16], [], [([av_6], [av_38, av_243], [], [])], [], 1)
noncomputable def mt_Hubcascade_packets_0 : List (Nat × Bool × Nat × List VCt) := []
noncomputable def fp_Hubcascade_packets_0 : List (Nat × Nat × Nat × Nat) := []
noncomputable def pt_Hubcascade_packets_0_0 : List (Nat × VS) := [(0, ([av_37, av_16], [], [], 0))]
set_option maxRecDepth 100000 in
theorem k_Hubcascade_packets_0 : vi_chk vK vSG 2 q_Hubcascade_packets_0.2.2.2.2 vFT_X9 fp_Hubcascade_packets_0 vCT_X9 vC2_X9 [42] mt_Hubcascade_packets_0 cX9_packets [] 400 pt_Hubcascade_packets_0_0 q_Hubcascade_packets_0 [] = true := by decide +kernel
set_option maxHeartbeats 4000000 in
theorem m_Hubcascade_packets_0 (l : Launch) (D : va_G) (cy : Nat → ClassId) (hst : l.stackTraces = false) : vi_Mx l D cy vK vSG yX9_packets (Cond.code yX9_packets cX9_packets 2 (some .int) :: vWall) 6 90 q_Hubcascade_packets_0 ["java/lang/IllegalArgumentException"] := by
  refine vi_Mx_of (own := RX9) (J := []) (f := 400) (XP := [42]) (FT := vFT_X9) (FP := fp_Hubcascade_packets_0) (CT := vCT_X9) (C2 := vC2_X9) (MT := mt_Hubcascade_packets_0) (by decide) rfl rfl (by decide +kernel) (by decide +kernel) (vK_ty cy) k_Hubcascade_packets_0 ?_
  · intro p e s m below meth c ad τ w av S hK hN hs hT hout hlocks
    refine ⟨vfg_X9 S hK hN, ?_, vct_X9 S, vc2_X9 S, ?_, ?_⟩
    · exact fun i ci k d9 h => by cases h
    · exact fun i sta k cts h => by cases h
    · refine List.forall_mem_cons.mpr ⟨vi_throwSW (WS := _ :: vWall) (text := "no such thing is counted") (ik := 92) (is := 487) (ic := 96) (X := "java/lang/IllegalArgumentException") S.1 S.2.1 hst S.2.2.2.2 S.2.2.2.1 (by decide) (by decide) hT (by decide) (List.mem_cons_of_mem _ (vm_4 _ (List.mem_of_getElem? (i := 14) rfl))) (List.mem_cons_of_mem _ (vm_4 _ (List.mem_of_getElem? (i := 15) rfl))) (fun w h => List.mem_cons_of_mem _ (vmx_2 w h)) (by decide +kernel) (by decide +kernel) (by decide) S.2.2.1 (by decide +kernel) (by decide +kernel) (by decide +kernel) (by decide +kernel) (by decide +kernel) hout hlocks (Nat.le_of_ble_eq_true rfl) (Nat.le_of_ble_eq_true rfl) ⟨Nat.le_refl _, Nat.le_refl _⟩ (Nat.le_refl _) (fun _ h => h), ?_⟩
      exact fun q hq => by cases hq
end VC
section VC
noncomputable def q_Hubcascade_blame_0 : VCt := ([av_37, av_6], [], [([av_6], [av_38, av_15], [], [])], [], 1)
noncomputable def mt_Hubcascade_blame_0 : List (Nat × Bool × Nat × List VCt) := [(124, false, 2, [q_Hubcascade_deviceAt_0])]
noncomputable def fp_Hubcascade_blame_0 : List (Nat × Nat × Nat × Nat) := []
noncomputable def pt_Hubcascade_blame_0_0 : List (Nat × VS) := [(0, ([av_37, av_6], [], [], 0))]
set_option maxRecDepth 100000 in
theorem k_Hubcascade_blame_0 : vi_chk vK vSG 2 q_Hubcascade_blame_0.2.2.2.2 vFT_X9 fp_Hubcascade_blame_0 vCT_X9 vC2_X9 [] mt_Hubcascade_blame_0 cX9_blame [] 400 pt_Hubcascade_blame_0_0 q_Hubcascade_blame_0 [] = true := by decide +kernel
set_option maxHeartbeats 4000000 in
theorem m_Hubcascade_blame_0 (l : Launch) (D : va_G) (cy : Nat → ClassId) (hst : l.stackTraces = false) : vi_Mx l D cy vK vSG yX9_blame (Cond.code yX9_blame cX9_blame 2 (some .int) :: vWall) 7 111 q_Hubcascade_blame_0 ["java/lang/IndexOutOfBoundsException"] := by
  refine vi_Mx_of (own := RX9) (J := []) (f := 400) (XP := []) (FT := vFT_X9) (FP := fp_Hubcascade_blame_0) (CT := vCT_X9) (C2 := vC2_X9) (MT := mt_Hubcascade_blame_0) (by decide) rfl rfl (by decide +kernel) (by decide +kernel) (vK_ty cy) k_Hubcascade_blame_0 ?_
  · intro p e s m below meth c ad τ w av S hK hN hs hT hout hlocks
    refine ⟨vfg_X9 S hK hN, ?_, vct_X9 S, vc2_X9 S, ?_, ?_⟩
    · exact fun i ci k d9 h => by cases h
    · refine vi_f4 (L := mt_Hubcascade_blame_0) ?_
      refine List.forall_mem_cons.mpr ⟨(List.forall_mem_cons.mpr ⟨⟨rfl, vi_crX S (m_Hubcascade_deviceAt_0 l D cy hst) (cwV 1 S.2.2.2.2 (vgV (vm_4 _ (List.mem_of_getElem? (i := 29) rfl)) (vm_4 _ (List.mem_of_getElem? (i := 30) rfl)) (vm_4 _ (List.mem_of_getElem? (i := 31) rfl)) (vm_4 _ (List.mem_of_getElem? (i := 20) rfl)) (vm_4 _ (List.mem_of_getElem? (i := 23) rfl))) rfl rfl rfl ⟨rfl, by decide, by decide, by decide +kernel⟩ ⟨Nat.le_of_ble_eq_true rfl, Nat.le_of_ble_eq_true rfl⟩) rfl ⟨_, _, _, _, _, _, rfl, rfl, rfl, rfl⟩ hK hN hs hT (fun w1 w2 h1 h2 => vi_kept_tr (by decide +kernel) h1 h2) (fun _ h => h) ⟨Nat.le_refl _, Nat.le_refl _⟩ (by decide) hout hlocks (Nat.le_refl _)⟩, (fun ct2 h2 => by cases h2)⟩), ?_⟩
      exact fun q hq => by cases hq
    · exact fun q hq => by cases hq
end VC
section VC
noncomputable def q_Hubcascade_causeOf_0 : VCt := ([av_37, av_6], [], [([av_16], [av_38, av_5], [], [])], [], 2)
noncomputable def mt_Hubcascade_causeOf_0 : List (Nat × Bool × Nat × List VCt) := [(334, false, 2, [q_Hubcascade_openPipe_0])]
noncomputable def fp_Hubcascade_causeOf_0 : List (Nat × Nat × Nat × Nat) := []
noncomputable def pt_Hubcascade_causeOf_0_0 : List (Nat × VS) := [(0, ([av_37, av_6, av_38], [], [], 0))]
set_option maxRecDepth 100000 in
theorem k_Hubcascade_causeOf_0 : vi_chk vK vSG 3 q_Hubcascade_causeOf_0.2.2.2.2 vFT_X9 fp_Hubcascade_causeOf_0 vCT_X9 vC2_X9 [15] mt_Hubcascade_causeOf_0 cX9_causeOf [] 400 pt_Hubcascade_causeOf_0_0 q_Hubcascade_causeOf_0 [] = true := by decide +kernel
set_option maxHeartbeats 4000000 in
theorem m_Hubcascade_causeOf_0 (l : Launch) (D : va_G) (cy : Nat → ClassId) (hst : l.stackTraces = false) : vi_Mx l D cy vK vSG yX9_causeOf (Cond.code yX9_causeOf cX9_causeOf 3 (some .char) :: vWall) 7 111 q_Hubcascade_causeOf_0 ["java/lang/UnsupportedOperationException", "java/util/NoSuchElementException"] := by
  refine vi_Mx_of (own := RX9) (J := []) (f := 400) (XP := [15]) (FT := vFT_X9) (FP := fp_Hubcascade_causeOf_0) (CT := vCT_X9) (C2 := vC2_X9) (MT := mt_Hubcascade_causeOf_0) (by decide) rfl rfl (by decide +kernel) (by decide +kernel) (vK_ty cy) k_Hubcascade_causeOf_0 ?_
  · intro p e s m below meth c ad τ w av S hK hN hs hT hout hlocks
    refine ⟨vfg_X9 S hK hN, ?_, vct_X9 S, vc2_X9 S, ?_, ?_⟩
    · exact fun i ci k d9 h => by cases h
    · refine vi_f4 (L := mt_Hubcascade_causeOf_0) ?_
      refine List.forall_mem_cons.mpr ⟨(List.forall_mem_cons.mpr ⟨⟨rfl, vi_crX S (m_Hubcascade_openPipe_0 l D cy hst) (cwV 1 S.2.2.2.2 (vgV (vm_8 _ (List.mem_of_getElem? (i := 16) rfl)) (vm_8 _ (List.mem_of_getElem? (i := 17) rfl)) (vm_8 _ (List.mem_of_getElem? (i := 18) rfl)) (vm_4 _ (List.mem_of_getElem? (i := 20) rfl)) (vm_8 _ (List.mem_of_getElem? (i := 15) rfl))) rfl rfl rfl ⟨rfl, by decide, by decide, by decide +kernel⟩ ⟨Nat.le_of_ble_eq_true rfl, Nat.le_of_ble_eq_true rfl⟩) rfl ⟨_, _, _, _, _, _, rfl, rfl, rfl, rfl⟩ hK hN hs hT (fun w1 w2 h1 h2 => vi_kept_tr (by decide +kernel) h1 h2) (fun _ h => h) ⟨Nat.le_refl _, Nat.le_refl _⟩ (by decide) hout hlocks (Nat.le_refl _)⟩, (fun ct2 h2 => by cases h2)⟩), ?_⟩
      exact fun q hq => by cases hq
    · refine List.forall_mem_cons.mpr ⟨vi_throwSW (WS := _ :: vWall) (text := "it was not halted") (ik := 139) (is := 495) (ic := 143) (X := "java/lang/UnsupportedOperationException") S.1 S.2.1 hst S.2.2.2.2 S.2.2.2.1 (by decide) (by decide) hT (by decide) (List.mem_cons_of_mem _ (vm_4 _ (List.mem_of_getElem? (i := 27) rfl))) (List.mem_cons_of_mem _ (vm_4 _ (List.mem_of_getElem? (i := 28) rfl))) (fun w h => List.mem_cons_of_mem _ (vmx_1 w h)) (by decide +kernel) (by decide +kernel) (by decide) S.2.2.1 (by decide +kernel) (by decide +kernel) (by decide +kernel) (by decide +kernel) (by decide +kernel) hout hlocks (Nat.le_of_ble_eq_true rfl) (Nat.le_of_ble_eq_true rfl) ⟨Nat.le_refl _, Nat.le_refl _⟩ (Nat.le_refl _) (fun _ h => h), ?_⟩
      exact fun q hq => by cases hq
end VC
section VC
noncomputable def q_Hubcascade_checksum_0 : VCt := ([av_37], [], [([av_244], [], [(ao_236, av_14)], [])], [], 0)
noncomputable def mt_Hubcascade_checksum_0 : List (Nat × Bool × Nat × List VCt) := [(278, false, 2, [q_ByteRow_at_2])]
noncomputable def fp_Hubcascade_checksum_0 : List (Nat × Nat × Nat × Nat) := []
noncomputable def pt_Hubcascade_checksum_0_0 : List (Nat × VS) := [(0, ([av_37, av_38, av_38, av_38, av_38], [], [], 0)), (6, ([av_37, av_244, av_38, (vC 0), av_38], [], [], 0)), (6, ([av_37, av_244, av_38, (vC 1), av_30], [], [(ao_245, av_1)], 0)), (6, ([av_37, av_244, av_38, (vC 2), av_30], [], [(ao_245, av_76)], 0)), (6, ([av_37, av_244, av_38, (vC 3), av_30], [], [(ao_245, av_77)], 0)), (6, ([av_37, av_244, av_38, (vC 4), av_30], [], [(ao_245, av_78)], 0)), (6, ([av_37, av_244, av_38, (vC 5), av_30], [], [(ao_245, av_79)], 0)), (6, ([av_37, av_244, av_38, (vC 6), av_30], [], [(ao_245, av_80)], 0)), (6, ([av_37, av_244, av_38, (vC 7), av_30], [], [(ao_245, av_81)], 0)), (6, ([av_37, av_244, av_38, (vC 8), av_30], [], [(ao_245, av_82)], 0)), (6, ([av_37, av_244, av_38, (vC 9), av_30], [], [(ao_245, av_83)], 0)), (6, ([av_37, av_244, av_38, (vC 10), av_30], [], [(ao_245, av_84)], 0)), (6, ([av_37, av_244, av_38, (vC 11), av_30], [], [(ao_245, av_85)], 0)), (6, ([av_37, av_244, av_38, (vC 12), av_30], [], [(ao_245, av_86)], 0)), (6, ([av_37, av_244, av_38, (vC 13), av_30], [], [(ao_245, av_87)], 0)), (6, ([av_37, av_244, av_38, (vC 14), av_30], [], [(ao_245, av_88)], 0)), (6, ([av_37, av_244, av_38, (vC 15), av_30], [], [(ao_245, av_89)], 0)), (6, ([av_37, av_244, av_38, (vC 16), av_30], [], [(ao_245, (vC 16))], 0)), (66, ([av_37, av_244, av_38, (vC 0), av_30], [], [(ao_245, av_1)], 0)), (66, ([av_37, av_244, av_38, (vC 1), av_30], [], [(ao_236, av_237), (ao_245, av_1)], 0)), (66, ([av_37, av_244, av_38, (vC 2), av_30], [], [(ao_236, av_246), (ao_245, av_1)], 0)), (66, ([av_37, av_244, av_38, (vC 3), av_30], [], [(ao_236, av_247), (ao_245, av_1)], 0)), (66, ([av_37, av_244, av_38, (vC 4), av_30], [], [(ao_236, av_248), (ao_245, av_1)], 0)), (66, ([av_37, av_244, av_38, (vC 5), av_30], [], [(ao_236, av_249), (ao_245, av_1)], 0)), (66, ([av_37, av_244, av_38, (vC 6), av_30], [], [(ao_236, av_250), (ao_245, av_1)], 0)), (66, ([av_37, av_244, av_38, (vC 7), av_30], [], [(ao_236, av_251), (ao_245, av_1)], 0)), (66, ([av_37, av_244, av_38, (vC 8), av_30], [], [(ao_236, av_252), (ao_245, av_1)], 0)), (66, ([av_37, av_244, av_38, (vC 9), av_30], [], [(ao_236, av_253), (ao_245, av_1)], 0)), (66, ([av_37, av_244, av_38, (vC 10), av_30], [], [(ao_236, av_254), (ao_245, av_1)], 0)), (66, ([av_37, av_244, av_38, (vC 11), av_30], [], [(ao_236, av_255), (ao_245, av_1)], 0)), (66, ([av_37, av_244, av_38, (vC 12), av_30], [], [(ao_236, av_256), (ao_245, av_1)], 0)), (66, ([av_37, av_244, av_38, (vC 13), av_30], [], [(ao_236, av_257), (ao_245, av_1)], 0)), (66, ([av_37, av_244, av_38, (vC 14), av_30], [], [(ao_236, av_258), (ao_245, av_1)], 0)), (66, ([av_37, av_244, av_38, (vC 15), av_30], [], [(ao_236, av_259), (ao_245, av_1)], 0)), (66, ([av_37, av_244, av_38, (vC 16), av_30], [], [(ao_236, av_260), (ao_245, av_1)], 0)), (66, ([av_37, av_244, av_38, (vC 17), av_30], [], [(ao_236, av_261), (ao_245, av_1)], 0)), (66, ([av_37, av_244, av_38, (vC 18), av_30], [], [(ao_236, av_262), (ao_245, av_1)], 0)), (66, ([av_37, av_244, av_38, (vC 19), av_30], [], [(ao_236, av_263), (ao_245, av_1)], 0)), (66, ([av_37, av_244, av_38, (vC 20), av_30], [], [(ao_236, av_264), (ao_245, av_1)], 0)), (66, ([av_37, av_244, av_38, (vC 21), av_30], [], [(ao_236, av_265), (ao_245, av_1)], 0)), (66, ([av_37, av_244, av_38, (vC 22), av_30], [], [(ao_236, av_266), (ao_245, av_1)], 0)), (66, ([av_37, av_244, av_38, (vC 23), av_30], [], [(ao_236, av_267), (ao_245, av_1)], 0)), (66, ([av_37, av_244, av_38, (vC 24), av_30], [], [(ao_236, av_268), (ao_245, av_1)], 0)), (66, ([av_37, av_244, av_38, (vC 25), av_30], [], [(ao_236, av_269), (ao_245, av_1)], 0)), (66, ([av_37, av_244, av_38, (vC 26), av_30], [], [(ao_236, av_270), (ao_245, av_1)], 0)), (66, ([av_37, av_244, av_38, (vC 27), av_30], [], [(ao_236, av_271), (ao_245, av_1)], 0)), (66, ([av_37, av_244, av_38, (vC 28), av_30], [], [(ao_236, av_272), (ao_245, av_1)], 0)), (66, ([av_37, av_244, av_38, (vC 29), av_30], [], [(ao_236, av_273), (ao_245, av_1)], 0)), (66, ([av_37, av_244, av_38, (vC 30), av_30], [], [(ao_236, av_274), (ao_245, av_1)], 0)), (66, ([av_37, av_244, av_38, (vC 31), av_30], [], [(ao_236, av_275), (ao_245, av_1)], 0)), (66, ([av_37, av_244, av_38, (vC 32), av_30], [], [(ao_236, (vC 32)), (ao_245, av_1)], 0))]
set_option maxRecDepth 100000 in
theorem k_Hubcascade_checksum_0 : vi_chk vK vSG 5 0 vFT_X9 fp_Hubcascade_checksum_0 vCT_X9 vC2_X9 [] mt_Hubcascade_checksum_0 cX9_checksum [6, 66] 400 pt_Hubcascade_checksum_0_0 q_Hubcascade_checksum_0 [] = true := by decide +kernel
set_option maxHeartbeats 4000000 in
theorem m_Hubcascade_checksum_0 (l : Launch) (D : va_G) (cy : Nat → ClassId) (hst : l.stackTraces = false) : vi_Mn l D cy vK vSG yX9_checksum (Cond.code yX9_checksum cX9_checksum 5 (some .long) :: vWall) 1 21 q_Hubcascade_checksum_0 := by
  refine vi_Mn_of (own := RX9) (J := [6, 66]) (f := 400) (FT := vFT_X9) (FP := fp_Hubcascade_checksum_0) (CT := vCT_X9) (C2 := vC2_X9) (MT := mt_Hubcascade_checksum_0) (by decide) rfl rfl rfl (by decide +kernel) (by decide +kernel) (vK_ty cy) k_Hubcascade_checksum_0 ?_
  · intro p e s m below meth c ad τ w av S hK hN hs
    refine ⟨vfg_X9 S hK hN, ?_, vct_X9 S, vc2_X9 S, ?_⟩
    · exact fun i ci k d9 h => by cases h
    · refine vi_f4 (L := mt_Hubcascade_checksum_0) ?_
      refine List.forall_mem_cons.mpr ⟨(List.forall_mem_cons.mpr ⟨⟨rfl, vi_crVN S (m_ByteRow_at_2 l D cy hst) ⟨va_cnB 1 S.2.2.2.2 (vgN (vm_0 _ (List.mem_of_getElem? (i := 10) rfl))) rfl rfl rfl (hN.1 _ nf_125) (S.2.2.2.2 _ (List.mem_cons_of_mem _ (vm_0 _ (List.mem_of_getElem? (i := 23) rfl)))) ⟨by decide, by decide, by decide +kernel⟩ ⟨Nat.le_of_ble_eq_true rfl, Nat.le_of_ble_eq_true rfl⟩, S.2.2.2.2 _ (List.mem_cons_of_mem _ (vm_7 _ (List.mem_of_getElem? (i := 32) rfl))), S.2.2.2.2 _ (List.mem_cons_of_mem _ (vm_7 _ (List.mem_of_getElem? (i := 33) rfl)))⟩ rfl ⟨_, _, _, _, _, _, rfl, rfl, rfl, rfl⟩ hK hN hs (fun w1 w2 h1 h2 => vi_kept_tr (by decide +kernel) h1 h2) (fun q hq => Or.inr hq) ⟨Nat.le_refl _, Nat.le_refl _⟩⟩, (fun ct2 h2 => by cases h2)⟩), ?_⟩
      exact fun q hq => by cases hq
end VC
