section VC
noncomputable def q_Hubcascade_shutGreedyDevices_0 : VCt := ([av_37], [], [([], [], [], [])], [(6, 7, 4), (6, 8, 4), (6, 10, 4), (6, 11, 4), (6, 12, 4), (6, 13, 4), (6, 14, 4), (6, 15, 4), (6, 16, 4), (6, 17, 4), (7, 2, 5), (8, 4, 19), (8, 5, 19), (8, 6, 19), (8, 7, 19), (10, 1, 7), (10, 2, 7), (10, 12, 7), (10, 13, 7), (200, 12, 0), (200, 13, 0), (200, 14, 0), (200, 21, 0)], 0)
noncomputable def mt_Hubcascade_shutGreedyDevices_0 : List (Nat × Bool × Nat × List VCt) := [(211, false, 3, [q_Hubcascade_disable_0]), (218, true, 1, [q_Hubcascade_portPower_0]), (238, true, 1, [q_Hubcascade_drawnBy_0])]
noncomputable def fp_Hubcascade_shutGreedyDevices_0 : List (Nat × Nat × Nat × Nat) := []
noncomputable def pt_Hubcascade_shutGreedyDevices_0_0 : List (Nat × VS) := [(0, ([av_37, av_38, av_38], [], [], 0)), (2, ([av_37, (vC 1), av_38], [], [], 0)), (2, ([av_37, (vC 2), av_30], [], [], 0)), (2, ([av_37, (vC 3), av_30], [], [], 0)), (2, ([av_37, (vC 4), av_30], [], [], 0)), (2, ([av_37, (vC 5), av_30], [], [], 0)), (2, ([av_37, (vC 6), av_30], [], [], 0)), (2, ([av_37, (vC 7), av_30], [], [], 0)), (2, ([av_37, (vC 8), av_30], [], [], 0)), (2, ([av_37, (vC 9), av_30], [], [], 0)), (2, ([av_37, (vC 10), av_30], [], [], 0)), (2, ([av_37, (vC 11), av_30], [], [], 0)), (2, ([av_37, (vC 12), av_30], [], [], 0)), (2, ([av_37, (vC 13), av_30], [], [], 0)), (2, ([av_37, (vC 14), av_30], [], [], 0)), (2, ([av_37, (vC 15), av_30], [], [], 0)), (2, ([av_37, (vC 16), av_30], [], [], 0))]
set_option maxRecDepth 100000 in
theorem k_Hubcascade_shutGreedyDevices_0 : vi_chk vK vSG 3 0 vFT_X9 fp_Hubcascade_shutGreedyDevices_0 vCT_X9 vC2_X9 [] mt_Hubcascade_shutGreedyDevices_0 cX9_shutGreedyDevices [2] 400 pt_Hubcascade_shutGreedyDevices_0_0 q_Hubcascade_shutGreedyDevices_0 [] = true := by decide +kernel
set_option maxHeartbeats 4000000 in
theorem m_Hubcascade_shutGreedyDevices_0 (l : Launch) (D : va_G) (cy : Nat → ClassId) (hst : l.stackTraces = false) : vi_Mn l D cy vK vSG yX9_shutGreedyDevices (Cond.code yX9_shutGreedyDevices cX9_shutGreedyDevices 3 none :: vWall) 5 123 q_Hubcascade_shutGreedyDevices_0 := by
  refine vi_Mn_of (own := RX9) (J := [2]) (f := 400) (FT := vFT_X9) (FP := fp_Hubcascade_shutGreedyDevices_0) (CT := vCT_X9) (C2 := vC2_X9) (MT := mt_Hubcascade_shutGreedyDevices_0) (by decide) rfl rfl rfl (by decide +kernel) (by decide +kernel) (vK_ty cy) k_Hubcascade_shutGreedyDevices_0 ?_
  · intro p e s m below meth c ad τ w av S hK hN hs
    refine ⟨vfg_X9 S hK hN, ?_, vct_X9 S, vc2_X9 S, ?_⟩
    · exact fun i ci k d9 h => by cases h
    · refine vi_f4 (L := mt_Hubcascade_shutGreedyDevices_0) ?_
      refine List.forall_mem_cons.mpr ⟨(List.forall_mem_cons.mpr ⟨⟨rfl, vi_crV S (m_Hubcascade_disable_0 l D cy hst) (cwV 2 S.2.2.2.2 (vgV (vm_6 _ (List.mem_of_getElem? (i := 38) rfl)) (vm_6 _ (List.mem_of_getElem? (i := 39) rfl)) (vm_7 _ (List.mem_of_getElem? (i := 0) rfl)) (vm_4 _ (List.mem_of_getElem? (i := 20) rfl)) (vm_6 _ (List.mem_of_getElem? (i := 17) rfl))) rfl rfl rfl ⟨rfl, by decide, by decide, by decide +kernel⟩ ⟨Nat.le_of_ble_eq_true rfl, Nat.le_of_ble_eq_true rfl⟩) rfl ⟨_, _, _, _, _, _, rfl, rfl, rfl, rfl⟩ hK hN hs (fun w1 w2 h1 h2 => vi_kept_tr (by decide +kernel) h1 h2) (fun q hq => Or.inr hq) ⟨Nat.le_refl _, Nat.le_refl _⟩⟩, (fun ct2 h2 => by cases h2)⟩), ?_⟩
      refine List.forall_mem_cons.mpr ⟨(List.forall_mem_cons.mpr ⟨⟨rfl, vi_crS S (m_Hubcascade_portPower_0 l D cy hst) (cwS 1 S.2.2.2.2 (vgS (vm_7 _ (List.mem_of_getElem? (i := 4) rfl)) (vm_7 _ (List.mem_of_getElem? (i := 5) rfl)) (vm_4 _ (List.mem_of_getElem? (i := 20) rfl)) (vm_6 _ (List.mem_of_getElem? (i := 23) rfl))) rfl rfl rfl ⟨rfl, by decide, by decide, by decide +kernel⟩ ⟨Nat.le_of_ble_eq_true rfl, Nat.le_of_ble_eq_true rfl⟩) rfl hK hN hs (fun w1 w2 h1 h2 => vi_kept_tr (by decide +kernel) h1 h2) (fun q hq => Or.inr hq) ⟨Nat.le_refl _, Nat.le_refl _⟩⟩, (fun ct2 h2 => by cases h2)⟩), ?_⟩
      refine List.forall_mem_cons.mpr ⟨(List.forall_mem_cons.mpr ⟨⟨rfl, vi_crS S (m_Hubcascade_drawnBy_0 l D cy hst) (cwS 1 S.2.2.2.2 (vgS (vm_7 _ (List.mem_of_getElem? (i := 14) rfl)) (vm_7 _ (List.mem_of_getElem? (i := 15) rfl)) (vm_4 _ (List.mem_of_getElem? (i := 20) rfl)) (vm_7 _ (List.mem_of_getElem? (i := 12) rfl))) rfl rfl rfl ⟨rfl, by decide, by decide, by decide +kernel⟩ ⟨Nat.le_of_ble_eq_true rfl, Nat.le_of_ble_eq_true rfl⟩) rfl hK hN hs (fun w1 w2 h1 h2 => vi_kept_tr (by decide +kernel) h1 h2) (fun q hq => Or.inr hq) ⟨Nat.le_refl _, Nat.le_refl _⟩⟩, (fun ct2 h2 => by cases h2)⟩), ?_⟩
      exact fun q hq => by cases hq
end VC
section VC
noncomputable def q_Hubcascade_packetBytes_0 : VCt := ([av_31, av_33], [], [([av_22], [], [], [])], [], 0)
noncomputable def mt_Hubcascade_packetBytes_0 : List (Nat × Bool × Nat × List VCt) := [(591, true, 2, [(vi_mm false av_6 av_3), (vi_mm false av_22 av_6)])]
noncomputable def fp_Hubcascade_packetBytes_0 : List (Nat × Nat × Nat × Nat) := []
noncomputable def pt_Hubcascade_packetBytes_0_0 : List (Nat × VS) := [(0, ([av_31, av_33, av_38], [], [], 0))]
set_option maxRecDepth 100000 in
theorem k_Hubcascade_packetBytes_0 : vi_chk vK vSG 3 0 vFT_X9 fp_Hubcascade_packetBytes_0 vCT_X9 vC2_X9 [] mt_Hubcascade_packetBytes_0 cX9_packetBytes [] 400 pt_Hubcascade_packetBytes_0_0 q_Hubcascade_packetBytes_0 [] = true := by decide +kernel
set_option maxHeartbeats 4000000 in
theorem m_Hubcascade_packetBytes_0 (l : Launch) (D : va_G) (cy : Nat → ClassId) (hst : l.stackTraces = false) : vi_Mn l D cy vK vSG yX9_packetBytes (Cond.code yX9_packetBytes cX9_packetBytes 3 (some .int) :: vWall) 1 21 q_Hubcascade_packetBytes_0 := by
  refine vi_Mn_of (own := RX9) (J := []) (f := 400) (FT := vFT_X9) (FP := fp_Hubcascade_packetBytes_0) (CT := vCT_X9) (C2 := vC2_X9) (MT := mt_Hubcascade_packetBytes_0) (by decide) rfl rfl rfl (by decide +kernel) (by decide +kernel) (vK_ty cy) k_Hubcascade_packetBytes_0 ?_
  · intro p e s m below meth c ad τ w av S hK hN hs
    refine ⟨vfg_X9 S hK hN, ?_, vct_X9 S, vc2_X9 S, ?_⟩
    · exact fun i ci k d9 h => by cases h
    · refine vi_f4 (L := mt_Hubcascade_packetBytes_0) ?_
      refine List.forall_mem_cons.mpr ⟨(List.forall_mem_cons.mpr ⟨⟨rfl, vi_crMin (Ts := _ :: vWall) rfl rfl S (List.mem_cons_of_mem _ (vm_8 _ (List.mem_of_getElem? (i := 37) rfl))) (List.mem_cons_of_mem _ (vm_0 _ (List.mem_of_getElem? (i := 13) rfl))) (List.mem_cons_of_mem _ (vm_0 _ (List.mem_of_getElem? (i := 14) rfl))) (List.mem_cons_of_mem _ (vm_0 _ (List.mem_of_getElem? (i := 15) rfl))) ⟨Nat.le_refl _, Nat.le_refl _⟩ (Nat.le_of_ble_eq_true rfl) (Nat.le_of_ble_eq_true rfl)⟩, (List.forall_mem_cons.mpr ⟨⟨rfl, vi_crMin (Ts := _ :: vWall) rfl rfl S (List.mem_cons_of_mem _ (vm_8 _ (List.mem_of_getElem? (i := 37) rfl))) (List.mem_cons_of_mem _ (vm_0 _ (List.mem_of_getElem? (i := 13) rfl))) (List.mem_cons_of_mem _ (vm_0 _ (List.mem_of_getElem? (i := 14) rfl))) (List.mem_cons_of_mem _ (vm_0 _ (List.mem_of_getElem? (i := 15) rfl))) ⟨Nat.le_refl _, Nat.le_refl _⟩ (Nat.le_of_ble_eq_true rfl) (Nat.le_of_ble_eq_true rfl)⟩, (fun ct2 h2 => by cases h2)⟩)⟩), ?_⟩
      exact fun q hq => by cases hq
end VC
section VC
noncomputable def q_Hubcascade_bytesPaid_0 : VCt := ([av_31, av_33], [], [([av_40], [], [], [])], [], 0)
noncomputable def mt_Hubcascade_bytesPaid_0 : List (Nat × Bool × Nat × List VCt) := [(582, true, 2, [q_Hubcascade_packetBytes_0]), (585, true, 2, [(vi_mm true (vC 1) av_22)])]
noncomputable def fp_Hubcascade_bytesPaid_0 : List (Nat × Nat × Nat × Nat) := []
noncomputable def pt_Hubcascade_bytesPaid_0_0 : List (Nat × VS) := [(0, ([av_31, av_33], [], [], 0))]
set_option maxRecDepth 100000 in
theorem k_Hubcascade_bytesPaid_0 : vi_chk vK vSG 2 0 vFT_X9 fp_Hubcascade_bytesPaid_0 vCT_X9 vC2_X9 [] mt_Hubcascade_bytesPaid_0 cX9_bytesPaid [] 400 pt_Hubcascade_bytesPaid_0_0 q_Hubcascade_bytesPaid_0 [] = true := by decide +kernel
set_option maxHeartbeats 4000000 in
theorem m_Hubcascade_bytesPaid_0 (l : Launch) (D : va_G) (cy : Nat → ClassId) (hst : l.stackTraces = false) : vi_Mn l D cy vK vSG yX9_bytesPaid (Cond.code yX9_bytesPaid cX9_bytesPaid 2 (some .int) :: vWall) 2 43 q_Hubcascade_bytesPaid_0 := by
  refine vi_Mn_of (own := RX9) (J := []) (f := 400) (FT := vFT_X9) (FP := fp_Hubcascade_bytesPaid_0) (CT := vCT_X9) (C2 := vC2_X9) (MT := mt_Hubcascade_bytesPaid_0) (by decide) rfl rfl rfl (by decide +kernel) (by decide +kernel) (vK_ty cy) k_Hubcascade_bytesPaid_0 ?_
  · intro p e s m below meth c ad τ w av S hK hN hs
    refine ⟨vfg_X9 S hK hN, ?_, vct_X9 S, vc2_X9 S, ?_⟩
    · exact fun i ci k d9 h => by cases h
    · refine vi_f4 (L := mt_Hubcascade_bytesPaid_0) ?_
      refine List.forall_mem_cons.mpr ⟨(List.forall_mem_cons.mpr ⟨⟨rfl, vi_crS S (m_Hubcascade_packetBytes_0 l D cy hst) (cwS 2 S.2.2.2.2 (vgS (vm_9 _ (List.mem_of_getElem? (i := 0) rfl)) (vm_9 _ (List.mem_of_getElem? (i := 1) rfl)) (vm_4 _ (List.mem_of_getElem? (i := 20) rfl)) (vm_8 _ (List.mem_of_getElem? (i := 36) rfl))) rfl rfl rfl ⟨rfl, by decide, by decide, by decide +kernel⟩ ⟨Nat.le_of_ble_eq_true rfl, Nat.le_of_ble_eq_true rfl⟩) rfl hK hN hs (fun w1 w2 h1 h2 => vi_kept_tr (by decide +kernel) h1 h2) (fun q hq => Or.inr hq) ⟨Nat.le_refl _, Nat.le_refl _⟩⟩, (fun ct2 h2 => by cases h2)⟩), ?_⟩
      refine List.forall_mem_cons.mpr ⟨(List.forall_mem_cons.mpr ⟨⟨rfl, vi_crMax (Ts := _ :: vWall) rfl rfl S (List.mem_cons_of_mem _ (vm_8 _ (List.mem_of_getElem? (i := 39) rfl))) (List.mem_cons_of_mem _ (vm_3 _ (List.mem_of_getElem? (i := 8) rfl))) (List.mem_cons_of_mem _ (vm_0 _ (List.mem_of_getElem? (i := 14) rfl))) (List.mem_cons_of_mem _ (vm_3 _ (List.mem_of_getElem? (i := 9) rfl))) ⟨Nat.le_refl _, Nat.le_refl _⟩ (Nat.le_of_ble_eq_true rfl) (Nat.le_of_ble_eq_true rfl)⟩, (fun ct2 h2 => by cases h2)⟩), ?_⟩
      exact fun q hq => by cases hq
end VC
section VC
noncomputable def q_Units_isRoomFor_0 : VCt := ([av_9, av_6, av_6, av_6], [], [([(vC 0)], [], [], []), ([(vC 1)], [], [], [])], [], 0)
noncomputable def mt_Units_isRoomFor_0 : List (Nat × Bool × Nat × List VCt) := []
noncomputable def fp_Units_isRoomFor_0 : List (Nat × Nat × Nat × Nat) := []
noncomputable def pt_Units_isRoomFor_0_0 : List (Nat × VS) := [(0, ([av_9, av_6, av_6, av_6], [], [], 0))]
set_option maxRecDepth 100000 in
theorem k_Units_isRoomFor_0 : vi_chk vK vSG 4 0 vFT_X8 fp_Units_isRoomFor_0 vCT_X8 vC2_X8 [] mt_Units_isRoomFor_0 cX8_isRoomFor [] 400 pt_Units_isRoomFor_0_0 q_Units_isRoomFor_0 [] = true := by decide +kernel
set_option maxHeartbeats 4000000 in
theorem m_Units_isRoomFor_0 (l : Launch) (D : va_G) (cy : Nat → ClassId) (hst : l.stackTraces = false) : vi_Mn l D cy vK vSG yX8_isRoomFor (Cond.code yX8_isRoomFor cX8_isRoomFor 4 (some .boolean) :: vWall) 0 0 q_Units_isRoomFor_0 := by
  refine vi_Mn_of (own := RX8) (J := []) (f := 400) (FT := vFT_X8) (FP := fp_Units_isRoomFor_0) (CT := vCT_X8) (C2 := vC2_X8) (MT := mt_Units_isRoomFor_0) (by decide) rfl rfl rfl (by decide +kernel) (by decide +kernel) (vK_ty cy) k_Units_isRoomFor_0 ?_
  · intro p e s m below meth c ad τ w av S hK hN hs
    refine ⟨vfg_X8 S hK hN, ?_, vct_X8 S, vc2_X8 S, ?_⟩
    · exact fun i ci k d9 h => by cases h
    · exact fun i sta k cts h => by cases h
end VC
section VC
noncomputable def q_Hubcascade_canGo_0 : VCt := ([av_37, av_32], [], [([(vC 0)], [], [], []), ([(vC 1)], [], [(ao_46, av_225)], [])], [], 0)
noncomputable def mt_Hubcascade_canGo_0 : List (Nat × Bool × Nat × List VCt) := [(301, true, 1, [q_Hubcascade_hostCost_0]), (304, true, 2, [q_Hubcascade_hubCost_0]), (374, false, 2, [q_Pipe_transferAt_0]), (575, true, 2, [q_Hubcascade_bytesPaid_0]), (579, false, 4, [q_Units_isRoomFor_0])]
noncomputable def fp_Hubcascade_canGo_0 : List (Nat × Nat × Nat × Nat) := []
noncomputable def pt_Hubcascade_canGo_0_0 : List (Nat × VS) := [(0, ([av_37, av_32, av_38, av_38, av_38, av_38], [], [], 0))]
set_option maxRecDepth 100000 in
theorem k_Hubcascade_canGo_0 : vi_chk vK vSG 6 0 vFT_X9 fp_Hubcascade_canGo_0 vCT_X9 vC2_X9 [] mt_Hubcascade_canGo_0 cX9_canGo [] 400 pt_Hubcascade_canGo_0_0 q_Hubcascade_canGo_0 [] = true := by decide +kernel
set_option maxHeartbeats 4000000 in
theorem m_Hubcascade_canGo_0 (l : Launch) (D : va_G) (cy : Nat → ClassId) (hst : l.stackTraces = false) : vi_Mn l D cy vK vSG yX9_canGo (Cond.code yX9_canGo cX9_canGo 6 (some .boolean) :: vWall) 3 64 q_Hubcascade_canGo_0 := by
  refine vi_Mn_of (own := RX9) (J := []) (f := 400) (FT := vFT_X9) (FP := fp_Hubcascade_canGo_0) (CT := vCT_X9) (C2 := vC2_X9) (MT := mt_Hubcascade_canGo_0) (by decide) rfl rfl rfl (by decide +kernel) (by decide +kernel) (vK_ty cy) k_Hubcascade_canGo_0 ?_
  · intro p e s m below meth c ad τ w av S hK hN hs
    refine ⟨vfg_X9 S hK hN, ?_, vct_X9 S, vc2_X9 S, ?_⟩
    · exact fun i ci k d9 h => by cases h
    · refine vi_f4 (L := mt_Hubcascade_canGo_0) ?_
      refine List.forall_mem_cons.mpr ⟨(List.forall_mem_cons.mpr ⟨⟨rfl, vi_crS S (m_Hubcascade_hostCost_0 l D cy hst) (cwS 1 S.2.2.2.2 (vgS (vm_5 _ (List.mem_of_getElem? (i := 10) rfl)) (vm_5 _ (List.mem_of_getElem? (i := 11) rfl)) (vm_4 _ (List.mem_of_getElem? (i := 20) rfl)) (vm_5 _ (List.mem_of_getElem? (i := 7) rfl))) rfl rfl rfl ⟨rfl, by decide, by decide, by decide +kernel⟩ ⟨Nat.le_of_ble_eq_true rfl, Nat.le_of_ble_eq_true rfl⟩) rfl hK hN hs (fun w1 w2 h1 h2 => vi_kept_tr (by decide +kernel) h1 h2) (fun q hq => Or.inr hq) ⟨Nat.le_refl _, Nat.le_refl _⟩⟩, (fun ct2 h2 => by cases h2)⟩), ?_⟩
      refine List.forall_mem_cons.mpr ⟨(List.forall_mem_cons.mpr ⟨⟨rfl, vi_crS S (m_Hubcascade_hubCost_0 l D cy hst) (cwS 2 S.2.2.2.2 (vgS (vm_5 _ (List.mem_of_getElem? (i := 12) rfl)) (vm_5 _ (List.mem_of_getElem? (i := 13) rfl)) (vm_4 _ (List.mem_of_getElem? (i := 20) rfl)) (vm_5 _ (List.mem_of_getElem? (i := 8) rfl))) rfl rfl rfl ⟨rfl, by decide, by decide, by decide +kernel⟩ ⟨Nat.le_of_ble_eq_true rfl, Nat.le_of_ble_eq_true rfl⟩) rfl hK hN hs (fun w1 w2 h1 h2 => vi_kept_tr (by decide +kernel) h1 h2) (fun q hq => Or.inr hq) ⟨Nat.le_refl _, Nat.le_refl _⟩⟩, (fun ct2 h2 => by cases h2)⟩), ?_⟩
      refine List.forall_mem_cons.mpr ⟨(List.forall_mem_cons.mpr ⟨⟨rfl, vi_crVN S (m_Pipe_transferAt_0 l D cy hst) ⟨va_cnB 1 S.2.2.2.2 (vgN (vm_2 _ (List.mem_of_getElem? (i := 25) rfl))) rfl rfl rfl (hN.1 _ nf_129) (S.2.2.2.2 _ (List.mem_cons_of_mem _ (vm_2 _ (List.mem_of_getElem? (i := 22) rfl)))) ⟨by decide, by decide, by decide +kernel⟩ ⟨Nat.le_of_ble_eq_true rfl, Nat.le_of_ble_eq_true rfl⟩, S.2.2.2.2 _ (List.mem_cons_of_mem _ (vm_2 _ (List.mem_of_getElem? (i := 30) rfl))), S.2.2.2.2 _ (List.mem_cons_of_mem _ (vm_2 _ (List.mem_of_getElem? (i := 31) rfl)))⟩ rfl ⟨_, _, _, _, _, _, rfl, rfl, rfl, rfl⟩ hK hN hs (fun w1 w2 h1 h2 => vi_kept_tr (by decide +kernel) h1 h2) (fun q hq => Or.inr hq) ⟨Nat.le_refl _, Nat.le_refl _⟩⟩, (fun ct2 h2 => by cases h2)⟩), ?_⟩
      refine List.forall_mem_cons.mpr ⟨(List.forall_mem_cons.mpr ⟨⟨rfl, vi_crS S (m_Hubcascade_bytesPaid_0 l D cy hst) (cwS 2 S.2.2.2.2 (vgS (vm_9 _ (List.mem_of_getElem? (i := 2) rfl)) (vm_9 _ (List.mem_of_getElem? (i := 3) rfl)) (vm_4 _ (List.mem_of_getElem? (i := 20) rfl)) (vm_8 _ (List.mem_of_getElem? (i := 38) rfl))) rfl rfl rfl ⟨rfl, by decide, by decide, by decide +kernel⟩ ⟨Nat.le_of_ble_eq_true rfl, Nat.le_of_ble_eq_true rfl⟩) rfl hK hN hs (fun w1 w2 h1 h2 => vi_kept_tr (by decide +kernel) h1 h2) (fun q hq => Or.inr hq) ⟨Nat.le_refl _, Nat.le_refl _⟩⟩, (fun ct2 h2 => by cases h2)⟩), ?_⟩
      refine List.forall_mem_cons.mpr ⟨(List.forall_mem_cons.mpr ⟨⟨rfl, vi_crVN S (m_Units_isRoomFor_0 l D cy hst) ⟨va_cnB 3 S.2.2.2.2 (vgN (vm_3 _ (List.mem_of_getElem? (i := 2) rfl))) rfl rfl rfl (hN.1 _ nf_134) (S.2.2.2.2 _ (List.mem_cons_of_mem _ (vm_3 _ (List.mem_of_getElem? (i := 15) rfl)))) ⟨by decide, by decide, by decide +kernel⟩ ⟨Nat.le_of_ble_eq_true rfl, Nat.le_of_ble_eq_true rfl⟩, S.2.2.2.2 _ (List.mem_cons_of_mem _ (vm_9 _ (List.mem_of_getElem? (i := 4) rfl))), S.2.2.2.2 _ (List.mem_cons_of_mem _ (vm_9 _ (List.mem_of_getElem? (i := 5) rfl)))⟩ rfl ⟨_, _, _, _, _, _, rfl, rfl, rfl, rfl⟩ hK hN hs (fun w1 w2 h1 h2 => vi_kept_tr (by decide +kernel) h1 h2) (fun q hq => Or.inr hq) ⟨Nat.le_refl _, Nat.le_refl _⟩⟩, (fun ct2 h2 => by cases h2)⟩), ?_⟩
      exact fun q hq => by cases hq
end VC
section VC
noncomputable def q_Units_use_0 : VCt := ([av_9, av_6, av_6, av_6], [], [([], [], [], [])], [(13, 2, 9), (13, 4, 9), (200, 11, 0)], 0)
noncomputable def mt_Units_use_0 : List (Nat × Bool × Nat × List VCt) := []
noncomputable def fp_Units_use_0 : List (Nat × Nat × Nat × Nat) := [(21, 13, 2, 9), (25, 13, 4, 9), (100011, 200, 11, 0)]
noncomputable def pt_Units_use_0_0 : List (Nat × VS) := [(0, ([av_9, av_6, av_6, av_6], [], [], 0))]
set_option maxRecDepth 100000 in
theorem k_Units_use_0 : vi_chk vK vSG 4 0 vFT_X8 fp_Units_use_0 vCT_X8 vC2_X8 [] mt_Units_use_0 cX8_use [] 400 pt_Units_use_0_0 q_Units_use_0 [] = true := by decide +kernel
set_option maxHeartbeats 4000000 in
theorem m_Units_use_0 (l : Launch) (D : va_G) (cy : Nat → ClassId) (hst : l.stackTraces = false) : vi_Mn l D cy vK vSG yX8_use (Cond.code yX8_use cX8_use 4 none :: vWall) 0 0 q_Units_use_0 := by
  refine vi_Mn_of (own := RX8) (J := []) (f := 400) (FT := vFT_X8) (FP := fp_Units_use_0) (CT := vCT_X8) (C2 := vC2_X8) (MT := mt_Units_use_0) (by decide) rfl rfl rfl (by decide +kernel) (by decide +kernel) (vK_ty cy) k_Units_use_0 ?_
  · intro p e s m below meth c ad τ w av S hK hN hs
    refine ⟨vfg_X8 S hK hN, ?_, vct_X8 S, vc2_X8 S, ?_⟩
    · refine vi_f4 (L := fp_Units_use_0) ?_
      refine List.forall_mem_cons.mpr ⟨fun d x fs b v h1 h2 h3 => vfp_X8_21_13_2 S hK hN (vTy_ok h1 h2 h3), ?_⟩
      refine List.forall_mem_cons.mpr ⟨fun d x fs b v h1 h2 h3 => vfp_X8_25_13_4 S hK hN (vTy_ok h1 h2 h3), ?_⟩
      refine List.forall_mem_cons.mpr ⟨fun d x fs b v h1 h2 h3 => absurd h1 (vK_200 d x fs), ?_⟩
      exact fun q hq => by cases hq
    · exact fun i sta k cts h => by cases h
end VC
section VC
noncomputable def q_Endpoint_takeFrom_0 : VCt := ([av_31, av_33, av_22], [], [([], [], [], [])], [(5, 1, 3), (5, 2, 3), (5, 3, 3), (200, 10, 0)], 0)
noncomputable def mt_Endpoint_takeFrom_0 : List (Nat × Bool × Nat × List VCt) := [(34, false, 2, [q_ByteRow_add_1])]
noncomputable def fp_Endpoint_takeFrom_0 : List (Nat × Nat × Nat × Nat) := []
noncomputable def pt_Endpoint_takeFrom_0_0 : List (Nat × VS) := [(0, ([av_31, av_33, av_22, av_38], [], [], 0)), (2, ([av_31, av_33, av_22, (vC 0)], [], [], 0)), (2, ([av_31, av_33, av_40, (vC 1)], [], [], 0)), (2, ([av_31, av_33, av_63, (vC 2)], [], [], 0)), (2, ([av_31, av_33, av_64, (vC 3)], [], [], 0)), (2, ([av_31, av_33, av_65, (vC 4)], [], [], 0)), (2, ([av_31, av_33, av_66, (vC 5)], [], [], 0)), (2, ([av_31, av_33, av_67, (vC 6)], [], [], 0)), (2, ([av_31, av_33, av_68, (vC 7)], [], [], 0)), (2, ([av_31, av_33, (vC 8), (vC 8)], [], [], 0))]
set_option maxRecDepth 100000 in
theorem k_Endpoint_takeFrom_0 : vi_chk vK vSG 4 0 vFT_X2 fp_Endpoint_takeFrom_0 vCT_X2 vC2_X2 [] mt_Endpoint_takeFrom_0 cX2_takeFrom [2] 400 pt_Endpoint_takeFrom_0_0 q_Endpoint_takeFrom_0 [] = true := by decide +kernel
set_option maxHeartbeats 4000000 in
theorem m_Endpoint_takeFrom_0 (l : Launch) (D : va_G) (cy : Nat → ClassId) (hst : l.stackTraces = false) : vi_Mn l D cy vK vSG yX2_takeFrom (Cond.code yX2_takeFrom cX2_takeFrom 4 none :: vWall) 1 21 q_Endpoint_takeFrom_0 := by
  refine vi_Mn_of (own := RX2) (J := [2]) (f := 400) (FT := vFT_X2) (FP := fp_Endpoint_takeFrom_0) (CT := vCT_X2) (C2 := vC2_X2) (MT := mt_Endpoint_takeFrom_0) (by decide) rfl rfl rfl (by decide +kernel) (by decide +kernel) (vK_ty cy) k_Endpoint_takeFrom_0 ?_
  · intro p e s m below meth c ad τ w av S hK hN hs
    refine ⟨vfg_X2 S hK hN, ?_, vct_X2 S, vc2_X2 S, ?_⟩
    · exact fun i ci k d9 h => by cases h
    · refine vi_f4 (L := mt_Endpoint_takeFrom_0) ?_
      refine List.forall_mem_cons.mpr ⟨(List.forall_mem_cons.mpr ⟨⟨rfl, vi_crVN S (m_ByteRow_add_1 l D cy hst) ⟨va_cnB 1 S.2.2.2.2 (vgN (vm_0 _ (List.mem_of_getElem? (i := 6) rfl))) rfl rfl rfl (hN.1 _ nf_139) (S.2.2.2.2 _ (List.mem_cons_of_mem _ (vm_0 _ (List.mem_of_getElem? (i := 23) rfl)))) ⟨by decide, by decide, by decide +kernel⟩ ⟨Nat.le_of_ble_eq_true rfl, Nat.le_of_ble_eq_true rfl⟩, S.2.2.2.2 _ (List.mem_cons_of_mem _ (vm_1 _ (List.mem_of_getElem? (i := 13) rfl))), S.2.2.2.2 _ (List.mem_cons_of_mem _ (vm_1 _ (List.mem_of_getElem? (i := 14) rfl)))⟩ rfl ⟨_, _, _, _, _, _, rfl, rfl, rfl, rfl⟩ hK hN hs (fun w1 w2 h1 h2 => vi_kept_tr (by decide +kernel) h1 h2) (fun q hq => Or.inr hq) ⟨Nat.le_refl _, Nat.le_refl _⟩⟩, (fun ct2 h2 => by cases h2)⟩), ?_⟩
      exact fun q hq => by cases hq
end VC
section VC
noncomputable def q_Hubcascade_passOut_0 : VCt := ([av_37, av_32, av_31, av_33, av_22, av_16], [], [([av_41], [], [], [])], [(5, 1, 3), (5, 2, 3), (5, 3, 3), (7, 4, 5), (7, 6, 5), (10, 6, 7), (11, 1, 20), (11, 2, 20), (12, 2, 8), (200, 10, 0)], 0)
noncomputable def mt_Hubcascade_passOut_0 : List (Nat × Bool × Nat × List VCt) := [(636, false, 3, [q_Endpoint_takeFrom_0])]
noncomputable def fp_Hubcascade_passOut_0 : List (Nat × Nat × Nat × Nat) := [(388, 12, 2, 8), (481, 11, 1, 20), (484, 11, 2, 20), (629, 7, 6, 5), (640, 7, 4, 5), (643, 10, 6, 7)]
noncomputable def pt_Hubcascade_passOut_0_0 : List (Nat × VS) := [(0, ([av_37, av_32, av_31, av_33, av_22, av_16], [], [], 0))]
set_option maxRecDepth 100000 in
theorem k_Hubcascade_passOut_0 : vi_chk vK vSG 6 0 vFT_X9 fp_Hubcascade_passOut_0 vCT_X9 vC2_X9 [] mt_Hubcascade_passOut_0 cX9_passOut [] 400 pt_Hubcascade_passOut_0_0 q_Hubcascade_passOut_0 [] = true := by decide +kernel
set_option maxHeartbeats 4000000 in
theorem m_Hubcascade_passOut_0 (l : Launch) (D : va_G) (cy : Nat → ClassId) (hst : l.stackTraces = false) : vi_Mn l D cy vK vSG yX9_passOut (Cond.code yX9_passOut cX9_passOut 6 (some .int) :: vWall) 2 44 q_Hubcascade_passOut_0 := by
  refine vi_Mn_of (own := RX9) (J := []) (f := 400) (FT := vFT_X9) (FP := fp_Hubcascade_passOut_0) (CT := vCT_X9) (C2 := vC2_X9) (MT := mt_Hubcascade_passOut_0) (by decide) rfl rfl rfl (by decide +kernel) (by decide +kernel) (vK_ty cy) k_Hubcascade_passOut_0 ?_
  · intro p e s m below meth c ad τ w av S hK hN hs
    refine ⟨vfg_X9 S hK hN, ?_, vct_X9 S, vc2_X9 S, ?_⟩
    · refine vi_f4 (L := fp_Hubcascade_passOut_0) ?_
      refine List.forall_mem_cons.mpr ⟨fun d x fs b v h1 h2 h3 => vfp_X9_388_12_2 S hK hN (vTy_ok h1 h2 h3), ?_⟩
      refine List.forall_mem_cons.mpr ⟨fun d x fs b v h1 h2 h3 => vfp_X9_481_11_1 S hK hN (vTy_ok h1 h2 h3), ?_⟩
      refine List.forall_mem_cons.mpr ⟨fun d x fs b v h1 h2 h3 => vfp_X9_484_11_2 S hK hN (vTy_ok h1 h2 h3), ?_⟩
      refine List.forall_mem_cons.mpr ⟨fun d x fs b v h1 h2 h3 => vfp_X9_629_7_6 S hK hN (vTy_ok h1 h2 h3), ?_⟩
      refine List.forall_mem_cons.mpr ⟨fun d x fs b v h1 h2 h3 => vfp_X9_640_7_4 S hK hN (vTy_ok h1 h2 h3), ?_⟩
      refine List.forall_mem_cons.mpr ⟨fun d x fs b v h1 h2 h3 => vfp_X9_643_10_6 S hK hN (vTy_ok h1 h2 h3), ?_⟩
      exact fun q hq => by cases hq
    · refine vi_f4 (L := mt_Hubcascade_passOut_0) ?_
      refine List.forall_mem_cons.mpr ⟨(List.forall_mem_cons.mpr ⟨⟨rfl, vi_crVN S (m_Endpoint_takeFrom_0 l D cy hst) ⟨va_cnB 2 S.2.2.2.2 (vgN (vm_1 _ (List.mem_of_getElem? (i := 12) rfl))) rfl rfl rfl (hN.1 _ nf_138) (S.2.2.2.2 _ (List.mem_cons_of_mem _ (vm_1 _ (List.mem_of_getElem? (i := 4) rfl)))) ⟨by decide, by decide, by decide +kernel⟩ ⟨Nat.le_of_ble_eq_true rfl, Nat.le_of_ble_eq_true rfl⟩, S.2.2.2.2 _ (List.mem_cons_of_mem _ (vm_9 _ (List.mem_of_getElem? (i := 11) rfl))), S.2.2.2.2 _ (List.mem_cons_of_mem _ (vm_9 _ (List.mem_of_getElem? (i := 12) rfl)))⟩ rfl ⟨_, _, _, _, _, _, rfl, rfl, rfl, rfl⟩ hK hN hs (fun w1 w2 h1 h2 => vi_kept_tr (by decide +kernel) h1 h2) (fun q hq => Or.inr hq) ⟨Nat.le_refl _, Nat.le_refl _⟩⟩, (fun ct2 h2 => by cases h2)⟩), ?_⟩
      exact fun q hq => by cases hq
end VC
section VC
noncomputable def q_Hubcascade_halt_0 : VCt := ([av_37, av_32, av_16, av_16], [(ao_46, av_225)], [([], [], [(ao_46, av_41)], [])], [(8, 4, 19), (8, 5, 19), (8, 6, 19), (8, 7, 19), (10, 8, 7), (10, 9, 7), (10, 12, 7), (10, 13, 7), (200, 12, 0), (200, 14, 0)], 0)
noncomputable def mt_Hubcascade_halt_0 : List (Nat × Bool × Nat × List VCt) := [(391, false, 3, [q_Hubcascade_endFirst_4])]
noncomputable def fp_Hubcascade_halt_0 : List (Nat × Nat × Nat × Nat) := [(380, 10, 8, 7), (492, 10, 9, 7)]
noncomputable def pt_Hubcascade_halt_0_0 : List (Nat × VS) := [(0, ([av_37, av_32, av_16, av_16], [], [(ao_46, av_225)], 0))]
set_option maxRecDepth 100000 in
theorem k_Hubcascade_halt_0 : vi_chk vK vSG 4 0 vFT_X9 fp_Hubcascade_halt_0 vCT_X9 vC2_X9 [] mt_Hubcascade_halt_0 cX9_halt [] 400 pt_Hubcascade_halt_0_0 q_Hubcascade_halt_0 [] = true := by decide +kernel
set_option maxHeartbeats 4000000 in
theorem m_Hubcascade_halt_0 (l : Launch) (D : va_G) (cy : Nat → ClassId) (hst : l.stackTraces = false) : vi_Mn l D cy vK vSG yX9_halt (Cond.code yX9_halt cX9_halt 4 none :: vWall) 2 46 q_Hubcascade_halt_0 := by
  refine vi_Mn_of (own := RX9) (J := []) (f := 400) (FT := vFT_X9) (FP := fp_Hubcascade_halt_0) (CT := vCT_X9) (C2 := vC2_X9) (MT := mt_Hubcascade_halt_0) (by decide) rfl rfl rfl (by decide +kernel) (by decide +kernel) (vK_ty cy) k_Hubcascade_halt_0 ?_
  · intro p e s m below meth c ad τ w av S hK hN hs
    refine ⟨vfg_X9 S hK hN, ?_, vct_X9 S, vc2_X9 S, ?_⟩
    · refine vi_f4 (L := fp_Hubcascade_halt_0) ?_
      refine List.forall_mem_cons.mpr ⟨fun d x fs b v h1 h2 h3 => vfp_X9_380_10_8 S hK hN (vTy_ok h1 h2 h3), ?_⟩
      refine List.forall_mem_cons.mpr ⟨fun d x fs b v h1 h2 h3 => vfp_X9_492_10_9 S hK hN (vTy_ok h1 h2 h3), ?_⟩
      exact fun q hq => by cases hq
    · refine vi_f4 (L := mt_Hubcascade_halt_0) ?_
      refine List.forall_mem_cons.mpr ⟨(List.forall_mem_cons.mpr ⟨⟨rfl, vi_crV S (m_Hubcascade_endFirst_4 l D cy hst) (cwV 2 S.2.2.2.2 (vgV (vm_5 _ (List.mem_of_getElem? (i := 26) rfl)) (vm_5 _ (List.mem_of_getElem? (i := 27) rfl)) (vm_5 _ (List.mem_of_getElem? (i := 28) rfl)) (vm_4 _ (List.mem_of_getElem? (i := 20) rfl)) (vm_5 _ (List.mem_of_getElem? (i := 18) rfl))) rfl rfl rfl ⟨rfl, by decide, by decide, by decide +kernel⟩ ⟨Nat.le_of_ble_eq_true rfl, Nat.le_of_ble_eq_true rfl⟩) rfl ⟨_, _, _, _, _, _, rfl, rfl, rfl, rfl⟩ hK hN hs (fun w1 w2 h1 h2 => vi_kept_tr (by decide +kernel) h1 h2) (fun q hq => Or.inr hq) ⟨Nat.le_refl _, Nat.le_refl _⟩⟩, (fun ct2 h2 => by cases h2)⟩), ?_⟩
      exact fun q hq => by cases hq
end VC
section VC
noncomputable def q_Hubcascade_settle_0 : VCt := ([av_37, av_32, av_33, av_6, av_16], [(ao_46, av_225)], [([], [], [(ao_46, av_26)], [])], [(8, 4, 19), (8, 5, 19), (8, 6, 19), (8, 7, 19), (10, 7, 7), (10, 8, 7), (10, 9, 7), (10, 10, 7), (10, 12, 7), (10, 13, 7), (200, 12, 0), (200, 14, 0)], 0)
noncomputable def mt_Hubcascade_settle_0 : List (Nat × Bool × Nat × List VCt) := [(391, false, 3, [q_Hubcascade_endFirst_4]), (619, false, 4, [q_Hubcascade_halt_0])]
noncomputable def fp_Hubcascade_settle_0 : List (Nat × Nat × Nat × Nat) := [(427, 10, 10, 7), (616, 10, 7, 7)]
noncomputable def pt_Hubcascade_settle_0_0 : List (Nat × VS) := [(0, ([av_37, av_32, av_33, av_6, av_16], [], [(ao_46, av_225)], 0))]
set_option maxRecDepth 100000 in
theorem k_Hubcascade_settle_0 : vi_chk vK vSG 5 0 vFT_X9 fp_Hubcascade_settle_0 vCT_X9 vC2_X9 [] mt_Hubcascade_settle_0 cX9_settle [] 400 pt_Hubcascade_settle_0_0 q_Hubcascade_settle_0 [] = true := by decide +kernel
set_option maxHeartbeats 4000000 in
theorem m_Hubcascade_settle_0 (l : Launch) (D : va_G) (cy : Nat → ClassId) (hst : l.stackTraces = false) : vi_Mn l D cy vK vSG yX9_settle (Cond.code yX9_settle cX9_settle 5 none :: vWall) 3 69 q_Hubcascade_settle_0 := by
  refine vi_Mn_of (own := RX9) (J := []) (f := 400) (FT := vFT_X9) (FP := fp_Hubcascade_settle_0) (CT := vCT_X9) (C2 := vC2_X9) (MT := mt_Hubcascade_settle_0) (by decide) rfl rfl rfl (by decide +kernel) (by decide +kernel) (vK_ty cy) k_Hubcascade_settle_0 ?_
  · intro p e s m below meth c ad τ w av S hK hN hs
    refine ⟨vfg_X9 S hK hN, ?_, vct_X9 S, vc2_X9 S, ?_⟩
    · refine vi_f4 (L := fp_Hubcascade_settle_0) ?_
      refine List.forall_mem_cons.mpr ⟨fun d x fs b v h1 h2 h3 => vfp_X9_427_10_10 S hK hN (vTy_ok h1 h2 h3), ?_⟩
      refine List.forall_mem_cons.mpr ⟨fun d x fs b v h1 h2 h3 => vfp_X9_616_10_7 S hK hN (vTy_ok h1 h2 h3), ?_⟩
      exact fun q hq => by cases hq
    · refine vi_f4 (L := mt_Hubcascade_settle_0) ?_
      refine List.forall_mem_cons.mpr ⟨(List.forall_mem_cons.mpr ⟨⟨rfl, vi_crV S (m_Hubcascade_endFirst_4 l D cy hst) (cwV 2 S.2.2.2.2 (vgV (vm_5 _ (List.mem_of_getElem? (i := 26) rfl)) (vm_5 _ (List.mem_of_getElem? (i := 27) rfl)) (vm_5 _ (List.mem_of_getElem? (i := 28) rfl)) (vm_4 _ (List.mem_of_getElem? (i := 20) rfl)) (vm_5 _ (List.mem_of_getElem? (i := 18) rfl))) rfl rfl rfl ⟨rfl, by decide, by decide, by decide +kernel⟩ ⟨Nat.le_of_ble_eq_true rfl, Nat.le_of_ble_eq_true rfl⟩) rfl ⟨_, _, _, _, _, _, rfl, rfl, rfl, rfl⟩ hK hN hs (fun w1 w2 h1 h2 => vi_kept_tr (by decide +kernel) h1 h2) (fun q hq => Or.inr hq) ⟨Nat.le_refl _, Nat.le_refl _⟩⟩, (fun ct2 h2 => by cases h2)⟩), ?_⟩
      refine List.forall_mem_cons.mpr ⟨(List.forall_mem_cons.mpr ⟨⟨rfl, vi_crV S (m_Hubcascade_halt_0 l D cy hst) (cwV 3 S.2.2.2.2 (vgV (vm_9 _ (List.mem_of_getElem? (i := 19) rfl)) (vm_9 _ (List.mem_of_getElem? (i := 20) rfl)) (vm_9 _ (List.mem_of_getElem? (i := 21) rfl)) (vm_4 _ (List.mem_of_getElem? (i := 20) rfl)) (vm_9 _ (List.mem_of_getElem? (i := 18) rfl))) rfl rfl rfl ⟨rfl, by decide, by decide, by decide +kernel⟩ ⟨Nat.le_of_ble_eq_true rfl, Nat.le_of_ble_eq_true rfl⟩) rfl ⟨_, _, _, _, _, _, rfl, rfl, rfl, rfl⟩ hK hN hs (fun w1 w2 h1 h2 => vi_kept_tr (by decide +kernel) h1 h2) (fun q hq => Or.inr hq) ⟨Nat.le_refl _, Nat.le_refl _⟩⟩, (fun ct2 h2 => by cases h2)⟩), ?_⟩
      exact fun q hq => by cases hq
end VC
section VC
noncomputable def q_ByteRow_drop_17 : VCt := ([av_23, av_6], [], [([], [], [(ao_231, av_6)], [])], [(5, 1, 3), (5, 2, 3)], 0)
noncomputable def mt_ByteRow_drop_17 : List (Nat × Bool × Nat × List VCt) := [(25, true, 2, [(vi_mm false av_6 av_6)])]
noncomputable def fp_ByteRow_drop_17 : List (Nat × Nat × Nat × Nat) := [(15, 5, 1, 3), (19, 5, 2, 3)]
noncomputable def pt_ByteRow_drop_17_0 : List (Nat × VS) := [(0, ([av_23, av_6, av_38], [], [], 0))]
set_option maxRecDepth 100000 in
theorem k_ByteRow_drop_17 : vi_chk vK vSG 3 0 vFT_X0 fp_ByteRow_drop_17 vCT_X0 vC2_X0 [] mt_ByteRow_drop_17 cX0_drop [] 400 pt_ByteRow_drop_17_0 q_ByteRow_drop_17 [] = true := by decide +kernel
set_option maxHeartbeats 4000000 in
theorem m_ByteRow_drop_17 (l : Launch) (D : va_G) (cy : Nat → ClassId) (hst : l.stackTraces = false) : vi_Mn l D cy vK vSG yX0_drop (Cond.code yX0_drop cX0_drop 3 none :: vWall) 1 21 q_ByteRow_drop_17 := by
  refine vi_Mn_of (own := RX0) (J := []) (f := 400) (FT := vFT_X0) (FP := fp_ByteRow_drop_17) (CT := vCT_X0) (C2 := vC2_X0) (MT := mt_ByteRow_drop_17) (by decide) rfl rfl rfl (by decide +kernel) (by decide +kernel) (vK_ty cy) k_ByteRow_drop_17 ?_
  · intro p e s m below meth c ad τ w av S hK hN hs
    refine ⟨vfg_X0 S hK hN, ?_, vct_X0 S, vc2_X0 S, ?_⟩
    · refine vi_f4 (L := fp_ByteRow_drop_17) ?_
      refine List.forall_mem_cons.mpr ⟨fun d x fs b v h1 h2 h3 => vfp_X0_15_5_1 S hK hN (vTy_ok h1 h2 h3), ?_⟩
      refine List.forall_mem_cons.mpr ⟨fun d x fs b v h1 h2 h3 => vfp_X0_19_5_2 S hK hN (vTy_ok h1 h2 h3), ?_⟩
      exact fun q hq => by cases hq
    · refine vi_f4 (L := mt_ByteRow_drop_17) ?_
      refine List.forall_mem_cons.mpr ⟨(List.forall_mem_cons.mpr ⟨⟨rfl, vi_crMin (Ts := _ :: vWall) rfl rfl S (List.mem_cons_of_mem _ (vm_0 _ (List.mem_of_getElem? (i := 12) rfl))) (List.mem_cons_of_mem _ (vm_0 _ (List.mem_of_getElem? (i := 13) rfl))) (List.mem_cons_of_mem _ (vm_0 _ (List.mem_of_getElem? (i := 14) rfl))) (List.mem_cons_of_mem _ (vm_0 _ (List.mem_of_getElem? (i := 15) rfl))) ⟨Nat.le_refl _, Nat.le_refl _⟩ (Nat.le_of_ble_eq_true rfl) (Nat.le_of_ble_eq_true rfl)⟩, (fun ct2 h2 => by cases h2)⟩), ?_⟩
      exact fun q hq => by cases hq
end VC
section VC
noncomputable def q_Endpoint_forget_0 : VCt := ([av_31, av_22], [], [([], [], [], [])], [(5, 1, 3), (5, 2, 3), (7, 5, 5)], 0)
noncomputable def mt_Endpoint_forget_0 : List (Nat × Bool × Nat × List VCt) := [(38, false, 2, [q_ByteRow_drop_17])]
noncomputable def fp_Endpoint_forget_0 : List (Nat × Nat × Nat × Nat) := [(41, 7, 5, 5)]
noncomputable def pt_Endpoint_forget_0_0 : List (Nat × VS) := [(0, ([av_31, av_22], [], [], 0))]
set_option maxRecDepth 100000 in
theorem k_Endpoint_forget_0 : vi_chk vK vSG 2 0 vFT_X2 fp_Endpoint_forget_0 vCT_X2 vC2_X2 [] mt_Endpoint_forget_0 cX2_forget [] 400 pt_Endpoint_forget_0_0 q_Endpoint_forget_0 [] = true := by decide +kernel
set_option maxHeartbeats 4000000 in
theorem m_Endpoint_forget_0 (l : Launch) (D : va_G) (cy : Nat → ClassId) (hst : l.stackTraces = false) : vi_Mn l D cy vK vSG yX2_forget (Cond.code yX2_forget cX2_forget 2 none :: vWall) 2 43 q_Endpoint_forget_0 := by
  refine vi_Mn_of (own := RX2) (J := []) (f := 400) (FT := vFT_X2) (FP := fp_Endpoint_forget_0) (CT := vCT_X2) (C2 := vC2_X2) (MT := mt_Endpoint_forget_0) (by decide) rfl rfl rfl (by decide +kernel) (by decide +kernel) (vK_ty cy) k_Endpoint_forget_0 ?_
  · intro p e s m below meth c ad τ w av S hK hN hs
    refine ⟨vfg_X2 S hK hN, ?_, vct_X2 S, vc2_X2 S, ?_⟩
    · refine vi_f4 (L := fp_Endpoint_forget_0) ?_
      refine List.forall_mem_cons.mpr ⟨fun d x fs b v h1 h2 h3 => vfp_X2_41_7_5 S hK hN (vTy_ok h1 h2 h3), ?_⟩
      exact fun q hq => by cases hq
    · refine vi_f4 (L := mt_Endpoint_forget_0) ?_
      refine List.forall_mem_cons.mpr ⟨(List.forall_mem_cons.mpr ⟨⟨rfl, vi_crVN S (m_ByteRow_drop_17 l D cy hst) ⟨va_cnB 1 S.2.2.2.2 (vgN (vm_0 _ (List.mem_of_getElem? (i := 11) rfl))) rfl rfl rfl (hN.1 _ nf_141) (S.2.2.2.2 _ (List.mem_cons_of_mem _ (vm_0 _ (List.mem_of_getElem? (i := 23) rfl)))) ⟨by decide, by decide, by decide +kernel⟩ ⟨Nat.le_of_ble_eq_true rfl, Nat.le_of_ble_eq_true rfl⟩, S.2.2.2.2 _ (List.mem_cons_of_mem _ (vm_1 _ (List.mem_of_getElem? (i := 17) rfl))), S.2.2.2.2 _ (List.mem_cons_of_mem _ (vm_1 _ (List.mem_of_getElem? (i := 18) rfl)))⟩ rfl ⟨_, _, _, _, _, _, rfl, rfl, rfl, rfl⟩ hK hN hs (fun w1 w2 h1 h2 => vi_kept_tr (by decide +kernel) h1 h2) (fun q hq => Or.inr hq) ⟨Nat.le_refl _, Nat.le_refl _⟩⟩, (fun ct2 h2 => by cases h2)⟩), ?_⟩
      exact fun q hq => by cases hq
end VC
section VC
noncomputable def q_ByteRow_at_1 : VCt := ([av_23, av_6], [], [([av_6], [], [], [])], [], 0)
noncomputable def mt_ByteRow_at_1 : List (Nat × Bool × Nat × List VCt) := []
noncomputable def fp_ByteRow_at_1 : List (Nat × Nat × Nat × Nat) := []
noncomputable def pt_ByteRow_at_1_0 : List (Nat × VS) := [(0, ([av_23, av_6], [], [], 0))]
set_option maxRecDepth 100000 in
theorem k_ByteRow_at_1 : vi_chk vK vSG 2 0 vFT_X0 fp_ByteRow_at_1 vCT_X0 vC2_X0 [] mt_ByteRow_at_1 cX0_at [] 400 pt_ByteRow_at_1_0 q_ByteRow_at_1 [] = true := by decide +kernel
set_option maxHeartbeats 4000000 in
theorem m_ByteRow_at_1 (l : Launch) (D : va_G) (cy : Nat → ClassId) (hst : l.stackTraces = false) : vi_Mn l D cy vK vSG yX0_at (Cond.code yX0_at cX0_at 2 (some .int) :: vWall) 0 0 q_ByteRow_at_1 := by
  refine vi_Mn_of (own := RX0) (J := []) (f := 400) (FT := vFT_X0) (FP := fp_ByteRow_at_1) (CT := vCT_X0) (C2 := vC2_X0) (MT := mt_ByteRow_at_1) (by decide) rfl rfl rfl (by decide +kernel) (by decide +kernel) (vK_ty cy) k_ByteRow_at_1 ?_
  · intro p e s m below meth c ad τ w av S hK hN hs
    refine ⟨vfg_X0 S hK hN, ?_, vct_X0 S, vc2_X0 S, ?_⟩
    · exact fun i ci k d9 h => by cases h
    · exact fun i sta k cts h => by cases h
end VC
section VC
noncomputable def q_ByteRow_add_2 : VCt := ([av_8, av_6], [], [([], [], [(ao_236, av_237)], [])], [(5, 1, 2), (5, 2, 2), (5, 3, 2), (200, 10, 0)], 0)
noncomputable def mt_ByteRow_add_2 : List (Nat × Bool × Nat × List VCt) := []
noncomputable def fp_ByteRow_add_2 : List (Nat × Nat × Nat × Nat) := [(15, 5, 1, 2), (19, 5, 2, 2), (22, 5, 3, 2), (100010, 200, 10, 0)]
noncomputable def pt_ByteRow_add_2_0 : List (Nat × VS) := [(0, ([av_8, av_6], [], [], 0))]
set_option maxRecDepth 100000 in
theorem k_ByteRow_add_2 : vi_chk vK vSG 2 0 vFT_X0 fp_ByteRow_add_2 vCT_X0 vC2_X0 [] mt_ByteRow_add_2 cX0_add [] 400 pt_ByteRow_add_2_0 q_ByteRow_add_2 [] = true := by decide +kernel
set_option maxHeartbeats 4000000 in
theorem m_ByteRow_add_2 (l : Launch) (D : va_G) (cy : Nat → ClassId) (hst : l.stackTraces = false) : vi_Mn l D cy vK vSG yX0_add (Cond.code yX0_add cX0_add 2 none :: vWall) 0 0 q_ByteRow_add_2 := by
  refine vi_Mn_of (own := RX0) (J := []) (f := 400) (FT := vFT_X0) (FP := fp_ByteRow_add_2) (CT := vCT_X0) (C2 := vC2_X0) (MT := mt_ByteRow_add_2) (by decide) rfl rfl rfl (by decide +kernel) (by decide +kernel) (vK_ty cy) k_ByteRow_add_2 ?_
  · intro p e s m below meth c ad τ w av S hK hN hs
    refine ⟨vfg_X0 S hK hN, ?_, vct_X0 S, vc2_X0 S, ?_⟩
    · refine vi_f4 (L := fp_ByteRow_add_2) ?_
      refine List.forall_mem_cons.mpr ⟨fun d x fs b v h1 h2 h3 => vfp_X0_15_5_1 S hK hN (vTy_ok h1 h2 h3), ?_⟩
      refine List.forall_mem_cons.mpr ⟨fun d x fs b v h1 h2 h3 => vfp_X0_19_5_2 S hK hN (vTy_ok h1 h2 h3), ?_⟩
      refine List.forall_mem_cons.mpr ⟨fun d x fs b v h1 h2 h3 => vfp_X0_22_5_3 S hK hN (vTy_ok h1 h2 h3), ?_⟩
      refine List.forall_mem_cons.mpr ⟨fun d x fs b v h1 h2 h3 => absurd h1 (vK_200 d x fs), ?_⟩
      exact fun q hq => by cases hq
    · exact fun i sta k cts h => by cases h
end VC
section VC
noncomputable def q_Hubcascade_receive_0 : VCt := ([av_37, av_31, av_22], [], [([], [], [], [])], [(5, 1, 2), (5, 2, 2), (5, 3, 2), (200, 10, 0)], 0)
noncomputable def mt_Hubcascade_receive_0 : List (Nat × Bool × Nat × List VCt) := [(271, false, 2, [q_ByteRow_add_2]), (278, false, 2, [q_ByteRow_at_1])]
noncomputable def fp_Hubcascade_receive_0 : List (Nat × Nat × Nat × Nat) := []
noncomputable def pt_Hubcascade_receive_0_0 : List (Nat × VS) := [(0, ([av_37, av_31, av_22, av_38], [], [], 0)), (2, ([av_37, av_31, av_22, (vC 0)], [], [], 0)), (2, ([av_37, av_31, av_40, (vC 1)], [], [(ao_236, av_237)], 0)), (2, ([av_37, av_31, av_63, (vC 2)], [], [(ao_236, av_237)], 0)), (2, ([av_37, av_31, av_64, (vC 3)], [], [(ao_236, av_237)], 0)), (2, ([av_37, av_31, av_65, (vC 4)], [], [(ao_236, av_237)], 0)), (2, ([av_37, av_31, av_66, (vC 5)], [], [(ao_236, av_237)], 0)), (2, ([av_37, av_31, av_67, (vC 6)], [], [(ao_236, av_237)], 0)), (2, ([av_37, av_31, av_68, (vC 7)], [], [(ao_236, av_237)], 0)), (2, ([av_37, av_31, (vC 8), (vC 8)], [], [(ao_236, av_237)], 0))]
set_option maxRecDepth 100000 in
theorem k_Hubcascade_receive_0 : vi_chk vK vSG 4 0 vFT_X9 fp_Hubcascade_receive_0 vCT_X9 vC2_X9 [] mt_Hubcascade_receive_0 cX9_receive [2] 400 pt_Hubcascade_receive_0_0 q_Hubcascade_receive_0 [] = true := by decide +kernel
set_option maxHeartbeats 4000000 in
theorem m_Hubcascade_receive_0 (l : Launch) (D : va_G) (cy : Nat → ClassId) (hst : l.stackTraces = false) : vi_Mn l D cy vK vSG yX9_receive (Cond.code yX9_receive cX9_receive 4 none :: vWall) 1 21 q_Hubcascade_receive_0 := by
  refine vi_Mn_of (own := RX9) (J := [2]) (f := 400) (FT := vFT_X9) (FP := fp_Hubcascade_receive_0) (CT := vCT_X9) (C2 := vC2_X9) (MT := mt_Hubcascade_receive_0) (by decide) rfl rfl rfl (by decide +kernel) (by decide +kernel) (vK_ty cy) k_Hubcascade_receive_0 ?_
  · intro p e s m below meth c ad τ w av S hK hN hs
    refine ⟨vfg_X9 S hK hN, ?_, vct_X9 S, vc2_X9 S, ?_⟩
    · exact fun i ci k d9 h => by cases h
    · refine vi_f4 (L := mt_Hubcascade_receive_0) ?_
      refine List.forall_mem_cons.mpr ⟨(List.forall_mem_cons.mpr ⟨⟨rfl, vi_crVN S (m_ByteRow_add_2 l D cy hst) ⟨va_cnB 1 S.2.2.2.2 (vgN (vm_0 _ (List.mem_of_getElem? (i := 6) rfl))) rfl rfl rfl (hN.1 _ nf_137) (S.2.2.2.2 _ (List.mem_cons_of_mem _ (vm_0 _ (List.mem_of_getElem? (i := 23) rfl)))) ⟨by decide, by decide, by decide +kernel⟩ ⟨Nat.le_of_ble_eq_true rfl, Nat.le_of_ble_eq_true rfl⟩, S.2.2.2.2 _ (List.mem_cons_of_mem _ (vm_1 _ (List.mem_of_getElem? (i := 13) rfl))), S.2.2.2.2 _ (List.mem_cons_of_mem _ (vm_1 _ (List.mem_of_getElem? (i := 14) rfl)))⟩ rfl ⟨_, _, _, _, _, _, rfl, rfl, rfl, rfl⟩ hK hN hs (fun w1 w2 h1 h2 => vi_kept_tr (by decide +kernel) h1 h2) (fun q hq => Or.inr hq) ⟨Nat.le_refl _, Nat.le_refl _⟩⟩, (fun ct2 h2 => by cases h2)⟩), ?_⟩
      refine List.forall_mem_cons.mpr ⟨(List.forall_mem_cons.mpr ⟨⟨rfl, vi_crVN S (m_ByteRow_at_1 l D cy hst) ⟨va_cnB 1 S.2.2.2.2 (vgN (vm_0 _ (List.mem_of_getElem? (i := 10) rfl))) rfl rfl rfl (hN.1 _ nf_125) (S.2.2.2.2 _ (List.mem_cons_of_mem _ (vm_0 _ (List.mem_of_getElem? (i := 23) rfl)))) ⟨by decide, by decide, by decide +kernel⟩ ⟨Nat.le_of_ble_eq_true rfl, Nat.le_of_ble_eq_true rfl⟩, S.2.2.2.2 _ (List.mem_cons_of_mem _ (vm_7 _ (List.mem_of_getElem? (i := 32) rfl))), S.2.2.2.2 _ (List.mem_cons_of_mem _ (vm_7 _ (List.mem_of_getElem? (i := 33) rfl)))⟩ rfl ⟨_, _, _, _, _, _, rfl, rfl, rfl, rfl⟩ hK hN hs (fun w1 w2 h1 h2 => vi_kept_tr (by decide +kernel) h1 h2) (fun q hq => Or.inr hq) ⟨Nat.le_refl _, Nat.le_refl _⟩⟩, (fun ct2 h2 => by cases h2)⟩), ?_⟩
      exact fun q hq => by cases hq
end VC
section VC
noncomputable def q_Hubcascade_passIn_0 : VCt := ([av_37, av_32, av_30, av_31, av_33, av_22, av_16], [], [([av_26], [], [], [])], [(5, 1, 2), (5, 1, 3), (5, 2, 2), (5, 2, 3), (5, 3, 2), (6, 15, 4), (7, 4, 5), (7, 5, 5), (10, 6, 7), (11, 1, 20), (11, 2, 20), (12, 2, 8), (12, 5, 8), (200, 10, 0)], 0)
noncomputable def mt_Hubcascade_passIn_0 : List (Nat × Bool × Nat × List VCt) := [(632, false, 3, [q_Hubcascade_receive_0]), (644, false, 2, [q_Endpoint_forget_0])]
noncomputable def fp_Hubcascade_passIn_0 : List (Nat × Nat × Nat × Nat) := [(388, 12, 2, 8), (481, 11, 1, 20), (484, 11, 2, 20), (489, 6, 15, 4), (594, 7, 5, 5), (626, 12, 5, 8), (640, 7, 4, 5), (643, 10, 6, 7)]
noncomputable def pt_Hubcascade_passIn_0_0 : List (Nat × VS) := [(0, ([av_37, av_32, av_30, av_31, av_33, av_22, av_16], [], [], 0))]
set_option maxRecDepth 100000 in
theorem k_Hubcascade_passIn_0 : vi_chk vK vSG 7 0 vFT_X9 fp_Hubcascade_passIn_0 vCT_X9 vC2_X9 [] mt_Hubcascade_passIn_0 cX9_passIn [] 400 pt_Hubcascade_passIn_0_0 q_Hubcascade_passIn_0 [] = true := by decide +kernel
set_option maxHeartbeats 4000000 in
theorem m_Hubcascade_passIn_0 (l : Launch) (D : va_G) (cy : Nat → ClassId) (hst : l.stackTraces = false) : vi_Mn l D cy vK vSG yX9_passIn (Cond.code yX9_passIn cX9_passIn 7 (some .int) :: vWall) 3 64 q_Hubcascade_passIn_0 := by
  refine vi_Mn_of (own := RX9) (J := []) (f := 400) (FT := vFT_X9) (FP := fp_Hubcascade_passIn_0) (CT := vCT_X9) (C2 := vC2_X9) (MT := mt_Hubcascade_passIn_0) (by decide) rfl rfl rfl (by decide +kernel) (by decide +kernel) (vK_ty cy) k_Hubcascade_passIn_0 ?_
  · intro p e s m below meth c ad τ w av S hK hN hs
    refine ⟨vfg_X9 S hK hN, ?_, vct_X9 S, vc2_X9 S, ?_⟩
    · refine vi_f4 (L := fp_Hubcascade_passIn_0) ?_
      refine List.forall_mem_cons.mpr ⟨fun d x fs b v h1 h2 h3 => vfp_X9_388_12_2 S hK hN (vTy_ok h1 h2 h3), ?_⟩
      refine List.forall_mem_cons.mpr ⟨fun d x fs b v h1 h2 h3 => vfp_X9_481_11_1 S hK hN (vTy_ok h1 h2 h3), ?_⟩
      refine List.forall_mem_cons.mpr ⟨fun d x fs b v h1 h2 h3 => vfp_X9_484_11_2 S hK hN (vTy_ok h1 h2 h3), ?_⟩
      refine List.forall_mem_cons.mpr ⟨fun d x fs b v h1 h2 h3 => vfp_X9_489_6_15 S hK hN (vTy_ok h1 h2 h3), ?_⟩
      refine List.forall_mem_cons.mpr ⟨fun d x fs b v h1 h2 h3 => vfp_X9_594_7_5 S hK hN (vTy_ok h1 h2 h3), ?_⟩
      refine List.forall_mem_cons.mpr ⟨fun d x fs b v h1 h2 h3 => vfp_X9_626_12_5 S hK hN (vTy_ok h1 h2 h3), ?_⟩
      refine List.forall_mem_cons.mpr ⟨fun d x fs b v h1 h2 h3 => vfp_X9_640_7_4 S hK hN (vTy_ok h1 h2 h3), ?_⟩
      refine List.forall_mem_cons.mpr ⟨fun d x fs b v h1 h2 h3 => vfp_X9_643_10_6 S hK hN (vTy_ok h1 h2 h3), ?_⟩
      exact fun q hq => by cases hq
    · refine vi_f4 (L := mt_Hubcascade_passIn_0) ?_
      refine List.forall_mem_cons.mpr ⟨(List.forall_mem_cons.mpr ⟨⟨rfl, vi_crV S (m_Hubcascade_receive_0 l D cy hst) (cwV 2 S.2.2.2.2 (vgV (vm_9 _ (List.mem_of_getElem? (i := 8) rfl)) (vm_9 _ (List.mem_of_getElem? (i := 9) rfl)) (vm_9 _ (List.mem_of_getElem? (i := 10) rfl)) (vm_4 _ (List.mem_of_getElem? (i := 20) rfl)) (vm_9 _ (List.mem_of_getElem? (i := 7) rfl))) rfl rfl rfl ⟨rfl, by decide, by decide, by decide +kernel⟩ ⟨Nat.le_of_ble_eq_true rfl, Nat.le_of_ble_eq_true rfl⟩) rfl ⟨_, _, _, _, _, _, rfl, rfl, rfl, rfl⟩ hK hN hs (fun w1 w2 h1 h2 => vi_kept_tr (by decide +kernel) h1 h2) (fun q hq => Or.inr hq) ⟨Nat.le_refl _, Nat.le_refl _⟩⟩, (fun ct2 h2 => by cases h2)⟩), ?_⟩
      refine List.forall_mem_cons.mpr ⟨(List.forall_mem_cons.mpr ⟨⟨rfl, vi_crVN S (m_Endpoint_forget_0 l D cy hst) ⟨va_cnB 1 S.2.2.2.2 (vgN (vm_1 _ (List.mem_of_getElem? (i := 15) rfl))) rfl rfl rfl (hN.1 _ nf_140) (S.2.2.2.2 _ (List.mem_cons_of_mem _ (vm_1 _ (List.mem_of_getElem? (i := 4) rfl)))) ⟨by decide, by decide, by decide +kernel⟩ ⟨Nat.le_of_ble_eq_true rfl, Nat.le_of_ble_eq_true rfl⟩, S.2.2.2.2 _ (List.mem_cons_of_mem _ (vm_9 _ (List.mem_of_getElem? (i := 14) rfl))), S.2.2.2.2 _ (List.mem_cons_of_mem _ (vm_9 _ (List.mem_of_getElem? (i := 15) rfl)))⟩ rfl ⟨_, _, _, _, _, _, rfl, rfl, rfl, rfl⟩ hK hN hs (fun w1 w2 h1 h2 => vi_kept_tr (by decide +kernel) h1 h2) (fun q hq => Or.inr hq) ⟨Nat.le_refl _, Nat.le_refl _⟩⟩, (fun ct2 h2 => by cases h2)⟩), ?_⟩
      exact fun q hq => by cases hq
end VC
section VC
noncomputable def q_Hubcascade_passSound_0 : VCt := ([av_37, av_31, av_33, av_22, av_16], [], [([av_26], [], [], [])], [(5, 1, 2), (5, 1, 3), (5, 2, 2), (5, 2, 3), (5, 3, 2), (5, 3, 3), (7, 6, 5), (11, 1, 20), (12, 2, 8), (12, 4, 8), (12, 5, 8), (200, 10, 0)], 0)
noncomputable def mt_Hubcascade_passSound_0 : List (Nat × Bool × Nat × List VCt) := [(274, false, 2, [q_ByteRow_drop_17]), (632, false, 3, [q_Hubcascade_receive_0]), (636, false, 3, [q_Endpoint_takeFrom_0])]
noncomputable def fp_Hubcascade_passSound_0 : List (Nat × Nat × Nat × Nat) := [(388, 12, 2, 8), (481, 11, 1, 20), (623, 12, 4, 8), (626, 12, 5, 8), (629, 7, 6, 5)]
noncomputable def pt_Hubcascade_passSound_0_0 : List (Nat × VS) := [(0, ([av_37, av_31, av_33, av_22, av_16, av_38], [], [], 0))]
set_option maxRecDepth 100000 in
theorem k_Hubcascade_passSound_0 : vi_chk vK vSG 6 0 vFT_X9 fp_Hubcascade_passSound_0 vCT_X9 vC2_X9 [] mt_Hubcascade_passSound_0 cX9_passSound [] 400 pt_Hubcascade_passSound_0_0 q_Hubcascade_passSound_0 [] = true := by decide +kernel
set_option maxHeartbeats 4000000 in
theorem m_Hubcascade_passSound_0 (l : Launch) (D : va_G) (cy : Nat → ClassId) (hst : l.stackTraces = false) : vi_Mn l D cy vK vSG yX9_passSound (Cond.code yX9_passSound cX9_passSound 6 (some .int) :: vWall) 2 44 q_Hubcascade_passSound_0 := by
  refine vi_Mn_of (own := RX9) (J := []) (f := 400) (FT := vFT_X9) (FP := fp_Hubcascade_passSound_0) (CT := vCT_X9) (C2 := vC2_X9) (MT := mt_Hubcascade_passSound_0) (by decide) rfl rfl rfl (by decide +kernel) (by decide +kernel) (vK_ty cy) k_Hubcascade_passSound_0 ?_
  · intro p e s m below meth c ad τ w av S hK hN hs
    refine ⟨vfg_X9 S hK hN, ?_, vct_X9 S, vc2_X9 S, ?_⟩
    · refine vi_f4 (L := fp_Hubcascade_passSound_0) ?_
      refine List.forall_mem_cons.mpr ⟨fun d x fs b v h1 h2 h3 => vfp_X9_388_12_2 S hK hN (vTy_ok h1 h2 h3), ?_⟩
      refine List.forall_mem_cons.mpr ⟨fun d x fs b v h1 h2 h3 => vfp_X9_481_11_1 S hK hN (vTy_ok h1 h2 h3), ?_⟩
      refine List.forall_mem_cons.mpr ⟨fun d x fs b v h1 h2 h3 => vfp_X9_623_12_4 S hK hN (vTy_ok h1 h2 h3), ?_⟩
      refine List.forall_mem_cons.mpr ⟨fun d x fs b v h1 h2 h3 => vfp_X9_626_12_5 S hK hN (vTy_ok h1 h2 h3), ?_⟩
      refine List.forall_mem_cons.mpr ⟨fun d x fs b v h1 h2 h3 => vfp_X9_629_7_6 S hK hN (vTy_ok h1 h2 h3), ?_⟩
      exact fun q hq => by cases hq
    · refine vi_f4 (L := mt_Hubcascade_passSound_0) ?_
      refine List.forall_mem_cons.mpr ⟨(List.forall_mem_cons.mpr ⟨⟨rfl, vi_crVN S (m_ByteRow_drop_17 l D cy hst) ⟨va_cnB 1 S.2.2.2.2 (vgN (vm_0 _ (List.mem_of_getElem? (i := 11) rfl))) rfl rfl rfl (hN.1 _ nf_124) (S.2.2.2.2 _ (List.mem_cons_of_mem _ (vm_0 _ (List.mem_of_getElem? (i := 23) rfl)))) ⟨by decide, by decide, by decide +kernel⟩ ⟨Nat.le_of_ble_eq_true rfl, Nat.le_of_ble_eq_true rfl⟩, S.2.2.2.2 _ (List.mem_cons_of_mem _ (vm_1 _ (List.mem_of_getElem? (i := 17) rfl))), S.2.2.2.2 _ (List.mem_cons_of_mem _ (vm_1 _ (List.mem_of_getElem? (i := 18) rfl)))⟩ rfl ⟨_, _, _, _, _, _, rfl, rfl, rfl, rfl⟩ hK hN hs (fun w1 w2 h1 h2 => vi_kept_tr (by decide +kernel) h1 h2) (fun q hq => Or.inr hq) ⟨Nat.le_refl _, Nat.le_refl _⟩⟩, (fun ct2 h2 => by cases h2)⟩), ?_⟩
      refine List.forall_mem_cons.mpr ⟨(List.forall_mem_cons.mpr ⟨⟨rfl, vi_crV S (m_Hubcascade_receive_0 l D cy hst) (cwV 2 S.2.2.2.2 (vgV (vm_9 _ (List.mem_of_getElem? (i := 8) rfl)) (vm_9 _ (List.mem_of_getElem? (i := 9) rfl)) (vm_9 _ (List.mem_of_getElem? (i := 10) rfl)) (vm_4 _ (List.mem_of_getElem? (i := 20) rfl)) (vm_9 _ (List.mem_of_getElem? (i := 7) rfl))) rfl rfl rfl ⟨rfl, by decide, by decide, by decide +kernel⟩ ⟨Nat.le_of_ble_eq_true rfl, Nat.le_of_ble_eq_true rfl⟩) rfl ⟨_, _, _, _, _, _, rfl, rfl, rfl, rfl⟩ hK hN hs (fun w1 w2 h1 h2 => vi_kept_tr (by decide +kernel) h1 h2) (fun q hq => Or.inr hq) ⟨Nat.le_refl _, Nat.le_refl _⟩⟩, (fun ct2 h2 => by cases h2)⟩), ?_⟩
      refine List.forall_mem_cons.mpr ⟨(List.forall_mem_cons.mpr ⟨⟨rfl, vi_crVN S (m_Endpoint_takeFrom_0 l D cy hst) ⟨va_cnB 2 S.2.2.2.2 (vgN (vm_1 _ (List.mem_of_getElem? (i := 12) rfl))) rfl rfl rfl (hN.1 _ nf_138) (S.2.2.2.2 _ (List.mem_cons_of_mem _ (vm_1 _ (List.mem_of_getElem? (i := 4) rfl)))) ⟨by decide, by decide, by decide +kernel⟩ ⟨Nat.le_of_ble_eq_true rfl, Nat.le_of_ble_eq_true rfl⟩, S.2.2.2.2 _ (List.mem_cons_of_mem _ (vm_9 _ (List.mem_of_getElem? (i := 11) rfl))), S.2.2.2.2 _ (List.mem_cons_of_mem _ (vm_9 _ (List.mem_of_getElem? (i := 12) rfl)))⟩ rfl ⟨_, _, _, _, _, _, rfl, rfl, rfl, rfl⟩ hK hN hs (fun w1 w2 h1 h2 => vi_kept_tr (by decide +kernel) h1 h2) (fun q hq => Or.inr hq) ⟨Nat.le_refl _, Nat.le_refl _⟩⟩, (fun ct2 h2 => by cases h2)⟩), ?_⟩
      exact fun q hq => by cases hq
end VC
section VC
noncomputable def q_Hubcascade_takeTurn_0 : VCt := ([av_37, av_32], [(ao_46, av_225)], [([], [], [], [])], [(5, 1, 2), (5, 1, 3), (5, 2, 2), (5, 2, 3), (5, 3, 2), (5, 3, 3), (6, 7, 4), (6, 8, 4), (6, 10, 4), (6, 11, 4), (6, 12, 4), (6, 13, 4), (6, 14, 4), (6, 15, 4), (6, 16, 4), (6, 17, 4), (7, 2, 5), (7, 4, 5), (7, 5, 5), (7, 6, 5), (8, 4, 19), (8, 5, 19), (8, 6, 19), (8, 7, 19), (9, 1, 6), (10, 1, 7), (10, 2, 7), (10, 6, 7), (10, 7, 7), (10, 8, 7), (10, 9, 7), (10, 10, 7), (10, 12, 7), (10, 13, 7), (11, 0, 20), (11, 1, 20), (11, 2, 20), (12, 2, 8), (12, 4, 8), (12, 5, 8), (13, 2, 9), (13, 4, 9), (200, 10, 0), (200, 11, 0), (200, 12, 0), (200, 13, 0), (200, 14, 0), (200, 21, 0)], 0)
noncomputable def mt_Hubcascade_takeTurn_0 : List (Nat × Bool × Nat × List VCt) := [(211, false, 3, [q_Hubcascade_disable_0]), (301, true, 1, [q_Hubcascade_hostCost_0]), (304, true, 2, [q_Hubcascade_hubCost_0]), (374, false, 2, [q_Pipe_transferAt_0]), (552, false, 1, [q_Fault_use_0]), (575, true, 2, [q_Hubcascade_bytesPaid_0]), (582, true, 2, [q_Hubcascade_packetBytes_0]), (597, false, 4, [q_Units_use_0]), (600, false, 5, [q_Hubcascade_passSound_0]), (604, false, 7, [q_Hubcascade_passIn_0]), (608, false, 6, [q_Hubcascade_passOut_0]), (612, false, 5, [q_Hubcascade_settle_0])]
noncomputable def fp_Hubcascade_takeTurn_0 : List (Nat × Nat × Nat × Nat) := [(418, 11, 0, 20)]
noncomputable def pt_Hubcascade_takeTurn_0_0 : List (Nat × VS) := [(0, ([av_37, av_32, av_38, av_38, av_38, av_38, av_38, av_38, av_38], [], [(ao_46, av_225)], 0))]
set_option maxRecDepth 100000 in
theorem k_Hubcascade_takeTurn_0 : vi_chk vK vSG 9 0 vFT_X9 fp_Hubcascade_takeTurn_0 vCT_X9 vC2_X9 [] mt_Hubcascade_takeTurn_0 cX9_takeTurn [] 400 pt_Hubcascade_takeTurn_0_0 q_Hubcascade_takeTurn_0 [] = true := by decide +kernel
set_option maxHeartbeats 4000000 in
theorem m_Hubcascade_takeTurn_0 (l : Launch) (D : va_G) (cy : Nat → ClassId) (hst : l.stackTraces = false) : vi_Mn l D cy vK vSG yX9_takeTurn (Cond.code yX9_takeTurn cX9_takeTurn 9 none :: vWall) 5 123 q_Hubcascade_takeTurn_0 := by
  refine vi_Mn_of (own := RX9) (J := []) (f := 400) (FT := vFT_X9) (FP := fp_Hubcascade_takeTurn_0) (CT := vCT_X9) (C2 := vC2_X9) (MT := mt_Hubcascade_takeTurn_0) (by decide) rfl rfl rfl (by decide +kernel) (by decide +kernel) (vK_ty cy) k_Hubcascade_takeTurn_0 ?_
  · intro p e s m below meth c ad τ w av S hK hN hs
    refine ⟨vfg_X9 S hK hN, ?_, vct_X9 S, vc2_X9 S, ?_⟩
    · refine vi_f4 (L := fp_Hubcascade_takeTurn_0) ?_
      refine List.forall_mem_cons.mpr ⟨fun d x fs b v h1 h2 h3 => vfp_X9_418_11_0 S hK hN (vTy_ok h1 h2 h3), ?_⟩
      exact fun q hq => by cases hq
    · refine vi_f4 (L := mt_Hubcascade_takeTurn_0) ?_
      refine List.forall_mem_cons.mpr ⟨(List.forall_mem_cons.mpr ⟨⟨rfl, vi_crV S (m_Hubcascade_disable_0 l D cy hst) (cwV 2 S.2.2.2.2 (vgV (vm_6 _ (List.mem_of_getElem? (i := 38) rfl)) (vm_6 _ (List.mem_of_getElem? (i := 39) rfl)) (vm_7 _ (List.mem_of_getElem? (i := 0) rfl)) (vm_4 _ (List.mem_of_getElem? (i := 20) rfl)) (vm_6 _ (List.mem_of_getElem? (i := 17) rfl))) rfl rfl rfl ⟨rfl, by decide, by decide, by decide +kernel⟩ ⟨Nat.le_of_ble_eq_true rfl, Nat.le_of_ble_eq_true rfl⟩) rfl ⟨_, _, _, _, _, _, rfl, rfl, rfl, rfl⟩ hK hN hs (fun w1 w2 h1 h2 => vi_kept_tr (by decide +kernel) h1 h2) (fun q hq => Or.inr hq) ⟨Nat.le_refl _, Nat.le_refl _⟩⟩, (fun ct2 h2 => by cases h2)⟩), ?_⟩
      refine List.forall_mem_cons.mpr ⟨(List.forall_mem_cons.mpr ⟨⟨rfl, vi_crS S (m_Hubcascade_hostCost_0 l D cy hst) (cwS 1 S.2.2.2.2 (vgS (vm_5 _ (List.mem_of_getElem? (i := 10) rfl)) (vm_5 _ (List.mem_of_getElem? (i := 11) rfl)) (vm_4 _ (List.mem_of_getElem? (i := 20) rfl)) (vm_5 _ (List.mem_of_getElem? (i := 7) rfl))) rfl rfl rfl ⟨rfl, by decide, by decide, by decide +kernel⟩ ⟨Nat.le_of_ble_eq_true rfl, Nat.le_of_ble_eq_true rfl⟩) rfl hK hN hs (fun w1 w2 h1 h2 => vi_kept_tr (by decide +kernel) h1 h2) (fun q hq => Or.inr hq) ⟨Nat.le_refl _, Nat.le_refl _⟩⟩, (fun ct2 h2 => by cases h2)⟩), ?_⟩
      refine List.forall_mem_cons.mpr ⟨(List.forall_mem_cons.mpr ⟨⟨rfl, vi_crS S (m_Hubcascade_hubCost_0 l D cy hst) (cwS 2 S.2.2.2.2 (vgS (vm_5 _ (List.mem_of_getElem? (i := 12) rfl)) (vm_5 _ (List.mem_of_getElem? (i := 13) rfl)) (vm_4 _ (List.mem_of_getElem? (i := 20) rfl)) (vm_5 _ (List.mem_of_getElem? (i := 8) rfl))) rfl rfl rfl ⟨rfl, by decide, by decide, by decide +kernel⟩ ⟨Nat.le_of_ble_eq_true rfl, Nat.le_of_ble_eq_true rfl⟩) rfl hK hN hs (fun w1 w2 h1 h2 => vi_kept_tr (by decide +kernel) h1 h2) (fun q hq => Or.inr hq) ⟨Nat.le_refl _, Nat.le_refl _⟩⟩, (fun ct2 h2 => by cases h2)⟩), ?_⟩
      refine List.forall_mem_cons.mpr ⟨(List.forall_mem_cons.mpr ⟨⟨rfl, vi_crVN S (m_Pipe_transferAt_0 l D cy hst) ⟨va_cnB 1 S.2.2.2.2 (vgN (vm_2 _ (List.mem_of_getElem? (i := 25) rfl))) rfl rfl rfl (hN.1 _ nf_129) (S.2.2.2.2 _ (List.mem_cons_of_mem _ (vm_2 _ (List.mem_of_getElem? (i := 22) rfl)))) ⟨by decide, by decide, by decide +kernel⟩ ⟨Nat.le_of_ble_eq_true rfl, Nat.le_of_ble_eq_true rfl⟩, S.2.2.2.2 _ (List.mem_cons_of_mem _ (vm_2 _ (List.mem_of_getElem? (i := 30) rfl))), S.2.2.2.2 _ (List.mem_cons_of_mem _ (vm_2 _ (List.mem_of_getElem? (i := 31) rfl)))⟩ rfl ⟨_, _, _, _, _, _, rfl, rfl, rfl, rfl⟩ hK hN hs (fun w1 w2 h1 h2 => vi_kept_tr (by decide +kernel) h1 h2) (fun q hq => Or.inr hq) ⟨Nat.le_refl _, Nat.le_refl _⟩⟩, (fun ct2 h2 => by cases h2)⟩), ?_⟩
      refine List.forall_mem_cons.mpr ⟨(List.forall_mem_cons.mpr ⟨⟨rfl, vi_crVN S (m_Fault_use_0 l D cy hst) ⟨va_cnB 0 S.2.2.2.2 (vgN (vm_1 _ (List.mem_of_getElem? (i := 34) rfl))) rfl rfl rfl (hN.1 _ nf_136) (S.2.2.2.2 _ (List.mem_cons_of_mem _ (vm_0 _ (List.mem_of_getElem? (i := 27) rfl)))) ⟨by decide, by decide, by decide +kernel⟩ ⟨Nat.le_of_ble_eq_true rfl, Nat.le_of_ble_eq_true rfl⟩, S.2.2.2.2 _ (List.mem_cons_of_mem _ (vm_6 _ (List.mem_of_getElem? (i := 15) rfl))), S.2.2.2.2 _ (List.mem_cons_of_mem _ (vm_6 _ (List.mem_of_getElem? (i := 16) rfl)))⟩ rfl ⟨_, _, _, _, _, _, rfl, rfl, rfl, rfl⟩ hK hN hs (fun w1 w2 h1 h2 => vi_kept_tr (by decide +kernel) h1 h2) (fun q hq => Or.inr hq) ⟨Nat.le_refl _, Nat.le_refl _⟩⟩, (fun ct2 h2 => by cases h2)⟩), ?_⟩
      refine List.forall_mem_cons.mpr ⟨(List.forall_mem_cons.mpr ⟨⟨rfl, vi_crS S (m_Hubcascade_bytesPaid_0 l D cy hst) (cwS 2 S.2.2.2.2 (vgS (vm_9 _ (List.mem_of_getElem? (i := 2) rfl)) (vm_9 _ (List.mem_of_getElem? (i := 3) rfl)) (vm_4 _ (List.mem_of_getElem? (i := 20) rfl)) (vm_8 _ (List.mem_of_getElem? (i := 38) rfl))) rfl rfl rfl ⟨rfl, by decide, by decide, by decide +kernel⟩ ⟨Nat.le_of_ble_eq_true rfl, Nat.le_of_ble_eq_true rfl⟩) rfl hK hN hs (fun w1 w2 h1 h2 => vi_kept_tr (by decide +kernel) h1 h2) (fun q hq => Or.inr hq) ⟨Nat.le_refl _, Nat.le_refl _⟩⟩, (fun ct2 h2 => by cases h2)⟩), ?_⟩
      refine List.forall_mem_cons.mpr ⟨(List.forall_mem_cons.mpr ⟨⟨rfl, vi_crS S (m_Hubcascade_packetBytes_0 l D cy hst) (cwS 2 S.2.2.2.2 (vgS (vm_9 _ (List.mem_of_getElem? (i := 0) rfl)) (vm_9 _ (List.mem_of_getElem? (i := 1) rfl)) (vm_4 _ (List.mem_of_getElem? (i := 20) rfl)) (vm_8 _ (List.mem_of_getElem? (i := 36) rfl))) rfl rfl rfl ⟨rfl, by decide, by decide, by decide +kernel⟩ ⟨Nat.le_of_ble_eq_true rfl, Nat.le_of_ble_eq_true rfl⟩) rfl hK hN hs (fun w1 w2 h1 h2 => vi_kept_tr (by decide +kernel) h1 h2) (fun q hq => Or.inr hq) ⟨Nat.le_refl _, Nat.le_refl _⟩⟩, (fun ct2 h2 => by cases h2)⟩), ?_⟩
      refine List.forall_mem_cons.mpr ⟨(List.forall_mem_cons.mpr ⟨⟨rfl, vi_crVN S (m_Units_use_0 l D cy hst) ⟨va_cnB 3 S.2.2.2.2 (vgN (vm_3 _ (List.mem_of_getElem? (i := 3) rfl))) rfl rfl rfl (hN.1 _ nf_135) (S.2.2.2.2 _ (List.mem_cons_of_mem _ (vm_3 _ (List.mem_of_getElem? (i := 15) rfl)))) ⟨by decide, by decide, by decide +kernel⟩ ⟨Nat.le_of_ble_eq_true rfl, Nat.le_of_ble_eq_true rfl⟩, S.2.2.2.2 _ (List.mem_cons_of_mem _ (vm_9 _ (List.mem_of_getElem? (i := 23) rfl))), S.2.2.2.2 _ (List.mem_cons_of_mem _ (vm_9 _ (List.mem_of_getElem? (i := 24) rfl)))⟩ rfl ⟨_, _, _, _, _, _, rfl, rfl, rfl, rfl⟩ hK hN hs (fun w1 w2 h1 h2 => vi_kept_tr (by decide +kernel) h1 h2) (fun q hq => Or.inr hq) ⟨Nat.le_refl _, Nat.le_refl _⟩⟩, (fun ct2 h2 => by cases h2)⟩), ?_⟩
      refine List.forall_mem_cons.mpr ⟨(List.forall_mem_cons.mpr ⟨⟨rfl, vi_crV S (m_Hubcascade_passSound_0 l D cy hst) (cwV 4 S.2.2.2.2 (vgV (vm_9 _ (List.mem_of_getElem? (i := 25) rfl)) (vm_9 _ (List.mem_of_getElem? (i := 26) rfl)) (vm_9 _ (List.mem_of_getElem? (i := 27) rfl)) (vm_4 _ (List.mem_of_getElem? (i := 20) rfl)) (vm_9 _ (List.mem_of_getElem? (i := 13) rfl))) rfl rfl rfl ⟨rfl, by decide, by decide, by decide +kernel⟩ ⟨Nat.le_of_ble_eq_true rfl, Nat.le_of_ble_eq_true rfl⟩) rfl ⟨_, _, _, _, _, _, rfl, rfl, rfl, rfl⟩ hK hN hs (fun w1 w2 h1 h2 => vi_kept_tr (by decide +kernel) h1 h2) (fun q hq => Or.inr hq) ⟨Nat.le_refl _, Nat.le_refl _⟩⟩, (fun ct2 h2 => by cases h2)⟩), ?_⟩
      refine List.forall_mem_cons.mpr ⟨(List.forall_mem_cons.mpr ⟨⟨rfl, vi_crV S (m_Hubcascade_passIn_0 l D cy hst) (cwV 6 S.2.2.2.2 (vgV (vm_9 _ (List.mem_of_getElem? (i := 28) rfl)) (vm_9 _ (List.mem_of_getElem? (i := 29) rfl)) (vm_9 _ (List.mem_of_getElem? (i := 30) rfl)) (vm_4 _ (List.mem_of_getElem? (i := 20) rfl)) (vm_9 _ (List.mem_of_getElem? (i := 16) rfl))) rfl rfl rfl ⟨rfl, by decide, by decide, by decide +kernel⟩ ⟨Nat.le_of_ble_eq_true rfl, Nat.le_of_ble_eq_true rfl⟩) rfl ⟨_, _, _, _, _, _, rfl, rfl, rfl, rfl⟩ hK hN hs (fun w1 w2 h1 h2 => vi_kept_tr (by decide +kernel) h1 h2) (fun q hq => Or.inr hq) ⟨Nat.le_refl _, Nat.le_refl _⟩⟩, (fun ct2 h2 => by cases h2)⟩), ?_⟩
      refine List.forall_mem_cons.mpr ⟨(List.forall_mem_cons.mpr ⟨⟨rfl, vi_crV S (m_Hubcascade_passOut_0 l D cy hst) (cwV 5 S.2.2.2.2 (vgV (vm_9 _ (List.mem_of_getElem? (i := 31) rfl)) (vm_9 _ (List.mem_of_getElem? (i := 32) rfl)) (vm_9 _ (List.mem_of_getElem? (i := 33) rfl)) (vm_4 _ (List.mem_of_getElem? (i := 20) rfl)) (vm_9 _ (List.mem_of_getElem? (i := 17) rfl))) rfl rfl rfl ⟨rfl, by decide, by decide, by decide +kernel⟩ ⟨Nat.le_of_ble_eq_true rfl, Nat.le_of_ble_eq_true rfl⟩) rfl ⟨_, _, _, _, _, _, rfl, rfl, rfl, rfl⟩ hK hN hs (fun w1 w2 h1 h2 => vi_kept_tr (by decide +kernel) h1 h2) (fun q hq => Or.inr hq) ⟨Nat.le_refl _, Nat.le_refl _⟩⟩, (fun ct2 h2 => by cases h2)⟩), ?_⟩
      refine List.forall_mem_cons.mpr ⟨(List.forall_mem_cons.mpr ⟨⟨rfl, vi_crV S (m_Hubcascade_settle_0 l D cy hst) (cwV 4 S.2.2.2.2 (vgV (vm_9 _ (List.mem_of_getElem? (i := 34) rfl)) (vm_9 _ (List.mem_of_getElem? (i := 35) rfl)) (vm_9 _ (List.mem_of_getElem? (i := 36) rfl)) (vm_4 _ (List.mem_of_getElem? (i := 20) rfl)) (vm_9 _ (List.mem_of_getElem? (i := 22) rfl))) rfl rfl rfl ⟨rfl, by decide, by decide, by decide +kernel⟩ ⟨Nat.le_of_ble_eq_true rfl, Nat.le_of_ble_eq_true rfl⟩) rfl ⟨_, _, _, _, _, _, rfl, rfl, rfl, rfl⟩ hK hN hs (fun w1 w2 h1 h2 => vi_kept_tr (by decide +kernel) h1 h2) (fun q hq => Or.inr hq) ⟨Nat.le_refl _, Nat.le_refl _⟩⟩, (fun ct2 h2 => by cases h2)⟩), ?_⟩
      exact fun q hq => by cases hq
end VC
section VC
noncomputable def q_Hubcascade_nextBulkPipe_0 : VCt := ([av_37], [], [([av_32], [], [], [(ao_45, av_225)]), ([av_47], [], [], [])], [], 0)
noncomputable def mt_Hubcascade_nextBulkPipe_0 : List (Nat × Bool × Nat × List VCt) := [(433, false, 2, [q_Hubcascade_canGo_0])]
noncomputable def fp_Hubcascade_nextBulkPipe_0 : List (Nat × Nat × Nat × Nat) := []
noncomputable def pt_Hubcascade_nextBulkPipe_0_0 : List (Nat × VS) := [(0, ([av_37, av_38, av_38], [], [], 0)), (2, ([av_37, (vC 1), av_38], [], [], 0)), (2, ([av_37, (vC 2), av_32], [], [(ao_238, av_16)], 0)), (2, ([av_37, (vC 3), av_32], [], [(ao_238, av_16)], 0)), (2, ([av_37, (vC 4), av_32], [], [(ao_238, av_16)], 0)), (2, ([av_37, (vC 5), av_32], [], [(ao_238, av_16)], 0)), (2, ([av_37, (vC 6), av_32], [], [(ao_238, av_16)], 0)), (2, ([av_37, (vC 7), av_32], [], [(ao_238, av_16)], 0)), (2, ([av_37, (vC 8), av_32], [], [(ao_238, av_16)], 0)), (2, ([av_37, (vC 9), av_32], [], [(ao_238, av_16)], 0)), (2, ([av_37, (vC 10), av_32], [], [(ao_238, av_16)], 0)), (2, ([av_37, (vC 11), av_32], [], [(ao_238, av_16)], 0)), (2, ([av_37, (vC 12), av_32], [], [(ao_238, av_16)], 0)), (2, ([av_37, (vC 13), av_32], [], [(ao_238, av_16)], 0))]
set_option maxRecDepth 100000 in
theorem k_Hubcascade_nextBulkPipe_0 : vi_chk vK vSG 3 0 vFT_X9 fp_Hubcascade_nextBulkPipe_0 vCT_X9 vC2_X9 [] mt_Hubcascade_nextBulkPipe_0 cX9_nextBulkPipe [2] 400 pt_Hubcascade_nextBulkPipe_0_0 q_Hubcascade_nextBulkPipe_0 [] = true := by decide +kernel
set_option maxHeartbeats 4000000 in
theorem m_Hubcascade_nextBulkPipe_0 (l : Launch) (D : va_G) (cy : Nat → ClassId) (hst : l.stackTraces = false) : vi_Mn l D cy vK vSG yX9_nextBulkPipe (Cond.code yX9_nextBulkPipe cX9_nextBulkPipe 3 (some (.object "Hubcascade$Pipe")) :: vWall) 4 89 q_Hubcascade_nextBulkPipe_0 := by
  refine vi_Mn_of (own := RX9) (J := [2]) (f := 400) (FT := vFT_X9) (FP := fp_Hubcascade_nextBulkPipe_0) (CT := vCT_X9) (C2 := vC2_X9) (MT := mt_Hubcascade_nextBulkPipe_0) (by decide) rfl rfl rfl (by decide +kernel) (by decide +kernel) (vK_ty cy) k_Hubcascade_nextBulkPipe_0 ?_
  · intro p e s m below meth c ad τ w av S hK hN hs
    refine ⟨vfg_X9 S hK hN, ?_, vct_X9 S, vc2_X9 S, ?_⟩
    · exact fun i ci k d9 h => by cases h
    · refine vi_f4 (L := mt_Hubcascade_nextBulkPipe_0) ?_
      refine List.forall_mem_cons.mpr ⟨(List.forall_mem_cons.mpr ⟨⟨rfl, vi_crV S (m_Hubcascade_canGo_0 l D cy hst) (cwV 1 S.2.2.2.2 (vgV (vm_9 _ (List.mem_of_getElem? (i := 38) rfl)) (vm_9 _ (List.mem_of_getElem? (i := 39) rfl)) (vm_10 _ (List.mem_of_getElem? (i := 0) rfl)) (vm_4 _ (List.mem_of_getElem? (i := 20) rfl)) (vm_9 _ (List.mem_of_getElem? (i := 6) rfl))) rfl rfl rfl ⟨rfl, by decide, by decide, by decide +kernel⟩ ⟨Nat.le_of_ble_eq_true rfl, Nat.le_of_ble_eq_true rfl⟩) rfl ⟨_, _, _, _, _, _, rfl, rfl, rfl, rfl⟩ hK hN hs (fun w1 w2 h1 h2 => vi_kept_tr (by decide +kernel) h1 h2) (fun q hq => Or.inr hq) ⟨Nat.le_refl _, Nat.le_refl _⟩⟩, (fun ct2 h2 => by cases h2)⟩), ?_⟩
      exact fun q hq => by cases hq
end VC
