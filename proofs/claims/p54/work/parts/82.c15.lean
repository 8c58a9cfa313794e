section VC
noncomputable def q_Hubcascade_isSound_0 : VCt := ([av_37], [], [([(vC 0)], [], [], []), ([(vC 1)], [], [], [])], [], 0)
noncomputable def mt_Hubcascade_isSound_0 : List (Nat × Bool × Nat × List VCt) := [(515, false, 1, [q_Hubcascade_areReservesRight_0]), (519, false, 1, [q_Hubcascade_areAddressesUnlike_0]), (522, false, 1, [q_Hubcascade_areHubsPlugged_0]), (525, false, 1, [q_Hubcascade_isNothingInvented_0])]
noncomputable def fp_Hubcascade_isSound_0 : List (Nat × Nat × Nat × Nat) := []
noncomputable def pt_Hubcascade_isSound_0_0 : List (Nat × VS) := [(0, ([av_37], [], [], 0))]
set_option maxRecDepth 100000 in
theorem k_Hubcascade_isSound_0 : vi_chk vK vSG 1 0 vFT_X9 fp_Hubcascade_isSound_0 vCT_X9 vC2_X9 [] mt_Hubcascade_isSound_0 cX9_isSound [] 400 pt_Hubcascade_isSound_0_0 q_Hubcascade_isSound_0 [] = true := by decide +kernel
set_option maxHeartbeats 4000000 in
theorem m_Hubcascade_isSound_0 (l : Launch) (D : va_G) (cy : Nat → ClassId) (hst : l.stackTraces = false) : vi_Mn l D cy vK vSG yX9_isSound (Cond.code yX9_isSound cX9_isSound 1 (some .boolean) :: vWall) 3 71 q_Hubcascade_isSound_0 := by
  refine vi_Mn_of (own := RX9) (J := []) (f := 400) (FT := vFT_X9) (FP := fp_Hubcascade_isSound_0) (CT := vCT_X9) (C2 := vC2_X9) (MT := mt_Hubcascade_isSound_0) (by decide) rfl rfl rfl (by decide +kernel) (by decide +kernel) (vK_ty cy) k_Hubcascade_isSound_0 ?_
  · intro p e s m below meth c ad τ w av S hK hN hs
    refine ⟨vfg_X9 S hK hN, ?_, vct_X9 S, vc2_X9 S, ?_⟩
    · exact fun i ci k d9 h => by cases h
    · refine vi_f4 (L := mt_Hubcascade_isSound_0) ?_
      refine List.forall_mem_cons.mpr ⟨(List.forall_mem_cons.mpr ⟨⟨rfl, vi_crV S (m_Hubcascade_areReservesRight_0 l D cy hst) (cwV 0 S.2.2.2.2 (vgV (vm_11 _ (List.mem_of_getElem? (i := 13) rfl)) (vm_11 _ (List.mem_of_getElem? (i := 14) rfl)) (vm_11 _ (List.mem_of_getElem? (i := 15) rfl)) (vm_4 _ (List.mem_of_getElem? (i := 20) rfl)) (vm_11 _ (List.mem_of_getElem? (i := 6) rfl))) rfl rfl rfl ⟨rfl, by decide, by decide, by decide +kernel⟩ ⟨Nat.le_of_ble_eq_true rfl, Nat.le_of_ble_eq_true rfl⟩) rfl ⟨_, _, _, _, _, _, rfl, rfl, rfl, rfl⟩ hK hN hs (fun w1 w2 h1 h2 => vi_kept_tr (by decide +kernel) h1 h2) (fun q hq => Or.inr hq) ⟨Nat.le_refl _, Nat.le_refl _⟩⟩, (fun ct2 h2 => by cases h2)⟩), ?_⟩
      refine List.forall_mem_cons.mpr ⟨(List.forall_mem_cons.mpr ⟨⟨rfl, vi_crV S (m_Hubcascade_areAddressesUnlike_0 l D cy hst) (cwV 0 S.2.2.2.2 (vgV (vm_11 _ (List.mem_of_getElem? (i := 16) rfl)) (vm_11 _ (List.mem_of_getElem? (i := 17) rfl)) (vm_11 _ (List.mem_of_getElem? (i := 18) rfl)) (vm_4 _ (List.mem_of_getElem? (i := 20) rfl)) (vm_11 _ (List.mem_of_getElem? (i := 10) rfl))) rfl rfl rfl ⟨rfl, by decide, by decide, by decide +kernel⟩ ⟨Nat.le_of_ble_eq_true rfl, Nat.le_of_ble_eq_true rfl⟩) rfl ⟨_, _, _, _, _, _, rfl, rfl, rfl, rfl⟩ hK hN hs (fun w1 w2 h1 h2 => vi_kept_tr (by decide +kernel) h1 h2) (fun q hq => Or.inr hq) ⟨Nat.le_refl _, Nat.le_refl _⟩⟩, (fun ct2 h2 => by cases h2)⟩), ?_⟩
      refine List.forall_mem_cons.mpr ⟨(List.forall_mem_cons.mpr ⟨⟨rfl, vi_crV S (m_Hubcascade_areHubsPlugged_0 l D cy hst) (cwV 0 S.2.2.2.2 (vgV (vm_11 _ (List.mem_of_getElem? (i := 19) rfl)) (vm_11 _ (List.mem_of_getElem? (i := 20) rfl)) (vm_11 _ (List.mem_of_getElem? (i := 21) rfl)) (vm_4 _ (List.mem_of_getElem? (i := 20) rfl)) (vm_11 _ (List.mem_of_getElem? (i := 11) rfl))) rfl rfl rfl ⟨rfl, by decide, by decide, by decide +kernel⟩ ⟨Nat.le_of_ble_eq_true rfl, Nat.le_of_ble_eq_true rfl⟩) rfl ⟨_, _, _, _, _, _, rfl, rfl, rfl, rfl⟩ hK hN hs (fun w1 w2 h1 h2 => vi_kept_tr (by decide +kernel) h1 h2) (fun q hq => Or.inr hq) ⟨Nat.le_refl _, Nat.le_refl _⟩⟩, (fun ct2 h2 => by cases h2)⟩), ?_⟩
      refine List.forall_mem_cons.mpr ⟨(List.forall_mem_cons.mpr ⟨⟨rfl, vi_crV S (m_Hubcascade_isNothingInvented_0 l D cy hst) (cwV 0 S.2.2.2.2 (vgV (vm_11 _ (List.mem_of_getElem? (i := 22) rfl)) (vm_11 _ (List.mem_of_getElem? (i := 23) rfl)) (vm_11 _ (List.mem_of_getElem? (i := 24) rfl)) (vm_4 _ (List.mem_of_getElem? (i := 20) rfl)) (vm_11 _ (List.mem_of_getElem? (i := 12) rfl))) rfl rfl rfl ⟨rfl, by decide, by decide, by decide +kernel⟩ ⟨Nat.le_of_ble_eq_true rfl, Nat.le_of_ble_eq_true rfl⟩) rfl ⟨_, _, _, _, _, _, rfl, rfl, rfl, rfl⟩ hK hN hs (fun w1 w2 h1 h2 => vi_kept_tr (by decide +kernel) h1 h2) (fun q hq => Or.inr hq) ⟨Nat.le_refl _, Nat.le_refl _⟩⟩, (fun ct2 h2 => by cases h2)⟩), ?_⟩
      exact fun q hq => by cases hq
end VC
section VC
noncomputable def q_Hubcascade_isWithin_13 : VCt := ([av_6, av_6, av_6], [], [([(vC 0)], [], [], []), ([(vC 1)], [], [], [])], [], 0)
noncomputable def mt_Hubcascade_isWithin_13 : List (Nat × Bool × Nat × List VCt) := []
noncomputable def fp_Hubcascade_isWithin_13 : List (Nat × Nat × Nat × Nat) := []
noncomputable def pt_Hubcascade_isWithin_13_0 : List (Nat × VS) := [(0, ([av_6, av_6, av_6], [], [], 0))]
set_option maxRecDepth 100000 in
theorem k_Hubcascade_isWithin_13 : vi_chk vK vSG 3 0 vFT_X9 fp_Hubcascade_isWithin_13 vCT_X9 vC2_X9 [] mt_Hubcascade_isWithin_13 cX9_isWithin [] 400 pt_Hubcascade_isWithin_13_0 q_Hubcascade_isWithin_13 [] = true := by decide +kernel
set_option maxHeartbeats 4000000 in
theorem m_Hubcascade_isWithin_13 (l : Launch) (D : va_G) (cy : Nat → ClassId) (hst : l.stackTraces = false) : vi_Mn l D cy vK vSG yX9_isWithin (Cond.code yX9_isWithin cX9_isWithin 3 (some .boolean) :: vWall) 0 0 q_Hubcascade_isWithin_13 := by
  refine vi_Mn_of (own := RX9) (J := []) (f := 400) (FT := vFT_X9) (FP := fp_Hubcascade_isWithin_13) (CT := vCT_X9) (C2 := vC2_X9) (MT := mt_Hubcascade_isWithin_13) (by decide) rfl rfl rfl (by decide +kernel) (by decide +kernel) (vK_ty cy) k_Hubcascade_isWithin_13 ?_
  · intro p e s m below meth c ad τ w av S hK hN hs
    refine ⟨vfg_X9 S hK hN, ?_, vct_X9 S, vc2_X9 S, ?_⟩
    · exact fun i ci k d9 h => by cases h
    · exact fun i sta k cts h => by cases h
end VC
