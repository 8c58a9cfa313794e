section MM41
theorem dX14_init_0 : decode cX14_init 0 = .ok (.aload_n 0, 1) := by decide +kernel
theorem dX14_init_1 : decode cX14_init 1 = .ok (.invokespecial 1, 3) := by decide +kernel
theorem dX14_init_4 : decode cX14_init 4 = .ok (.aload_n 0, 1) := by decide +kernel
theorem dX14_init_5 : decode cX14_init 5 = .ok (.new 7, 3) := by decide +kernel
theorem dX14_init_8 : decode cX14_init 8 = .ok (.dup, 1) := by decide +kernel
theorem dX14_init_9 : decode cX14_init 9 = .ok (.invokespecial 9, 3) := by decide +kernel
theorem dX14_init_12 : decode cX14_init 12 = .ok (.putfield 10, 3) := by decide +kernel
theorem dX14_init_15 : decode cX14_init 15 = .ok (.aload_n 0, 1) := by decide +kernel
theorem dX14_init_16 : decode cX14_init 16 = .ok (.bipush 12, 2) := by decide +kernel
theorem dX14_init_18 : decode cX14_init 18 = .ok (.anewarray 16, 3) := by decide +kernel
theorem dX14_init_21 : decode cX14_init 21 = .ok (.putfield 18, 3) := by decide +kernel
theorem dX14_init_24 : decode cX14_init 24 = .ok (.aload_n 0, 1) := by decide +kernel
theorem dX14_init_25 : decode cX14_init 25 = .ok (.new 7, 3) := by decide +kernel
theorem dX14_init_28 : decode cX14_init 28 = .ok (.dup, 1) := by decide +kernel
theorem dX14_init_29 : decode cX14_init 29 = .ok (.invokespecial 9, 3) := by decide +kernel
theorem dX14_init_32 : decode cX14_init 32 = .ok (.putfield 22, 3) := by decide +kernel
theorem dX14_init_35 : decode cX14_init 35 = .ok (.aload_n 0, 1) := by decide +kernel
theorem dX14_init_36 : decode cX14_init 36 = .ok (.new 7, 3) := by decide +kernel
theorem dX14_init_39 : decode cX14_init 39 = .ok (.dup, 1) := by decide +kernel
theorem dX14_init_40 : decode cX14_init 40 = .ok (.invokespecial 9, 3) := by decide +kernel
theorem dX14_init_43 : decode cX14_init 43 = .ok (.putfield 25, 3) := by decide +kernel
theorem dX14_init_46 : decode cX14_init 46 = .ok (.aload_n 0, 1) := by decide +kernel
theorem dX14_init_47 : decode cX14_init 47 = .ok (.new 7, 3) := by decide +kernel
theorem dX14_init_50 : decode cX14_init 50 = .ok (.dup, 1) := by decide +kernel
theorem dX14_init_51 : decode cX14_init 51 = .ok (.invokespecial 9, 3) := by decide +kernel
theorem dX14_init_54 : decode cX14_init 54 = .ok (.putfield 28, 3) := by decide +kernel
theorem dX14_init_57 : decode cX14_init 57 = .ok (.aload_n 0, 1) := by decide +kernel
theorem dX14_init_58 : decode cX14_init 58 = .ok (.iconst 0, 1) := by decide +kernel
theorem dX14_init_59 : decode cX14_init 59 = .ok (.newarray .int, 2) := by decide +kernel
theorem dX14_init_61 : decode cX14_init 61 = .ok (.putfield 31, 3) := by decide +kernel
theorem dX14_init_64 : decode cX14_init 64 = .ok (.aload_n 0, 1) := by decide +kernel
theorem dX14_init_65 : decode cX14_init 65 = .ok (.new 7, 3) := by decide +kernel
theorem dX14_init_68 : decode cX14_init 68 = .ok (.dup, 1) := by decide +kernel
theorem dX14_init_69 : decode cX14_init 69 = .ok (.invokespecial 9, 3) := by decide +kernel
theorem dX14_init_72 : decode cX14_init 72 = .ok (.putfield 35, 3) := by decide +kernel
theorem dX14_init_75 : decode cX14_init 75 = .ok (.aload_n 0, 1) := by decide +kernel
theorem dX14_init_76 : decode cX14_init 76 = .ok (.iconst (-1), 1) := by decide +kernel
theorem dX14_init_77 : decode cX14_init 77 = .ok (.putfield 38, 3) := by decide +kernel
theorem dX14_init_80 : decode cX14_init 80 = .ok (.aload_n 0, 1) := by decide +kernel
theorem dX14_init_81 : decode cX14_init 81 = .ok (.bipush 100, 2) := by decide +kernel
theorem dX14_init_83 : decode cX14_init 83 = .ok (.putfield 42, 3) := by decide +kernel
theorem dX14_init_86 : decode cX14_init 86 = .ok (.aload_n 0, 1) := by decide +kernel
theorem dX14_init_87 : decode cX14_init 87 = .ok (.bipush 16, 2) := by decide +kernel
theorem dX14_init_89 : decode cX14_init 89 = .ok (.newarray .int, 2) := by decide +kernel
theorem dX14_init_91 : decode cX14_init 91 = .ok (.putfield 45, 3) := by decide +kernel
theorem dX14_init_94 : decode cX14_init 94 = .ok (.new 48, 3) := by decide +kernel
theorem dX14_init_97 : decode cX14_init 97 = .ok (.dup, 1) := by decide +kernel
theorem dX14_init_98 : decode cX14_init 98 = .ok (.bipush 104, 2) := by decide +kernel
theorem dX14_init_100 : decode cX14_init 100 = .ok (.iconst 4, 1) := by decide +kernel
theorem dX14_init_101 : decode cX14_init 101 = .ok (.iconst 0, 1) := by decide +kernel
theorem dX14_init_102 : decode cX14_init 102 = .ok (.iconst 1, 1) := by decide +kernel
theorem dX14_init_103 : decode cX14_init 103 = .ok (.iconst 0, 1) := by decide +kernel
theorem dX14_init_104 : decode cX14_init 104 = .ok (.invokespecial 50, 3) := by decide +kernel
theorem dX14_init_107 : decode cX14_init 107 = .ok (.astore_n 1, 1) := by decide +kernel
theorem dX14_init_108 : decode cX14_init 108 = .ok (.aload_n 1, 1) := by decide +kernel
theorem dX14_init_109 : decode cX14_init 109 = .ok (.bipush 99, 2) := by decide +kernel
theorem dX14_init_111 : decode cX14_init 111 = .ok (.putfield 53, 3) := by decide +kernel
theorem dX14_init_114 : decode cX14_init 114 = .ok (.aload_n 0, 1) := by decide +kernel
theorem dX14_init_115 : decode cX14_init 115 = .ok (.getfield 10, 3) := by decide +kernel
theorem dX14_init_118 : decode cX14_init 118 = .ok (.aload_n 1, 1) := by decide +kernel
theorem dX14_init_119 : decode cX14_init 119 = .ok (.invokevirtual 57, 3) := by decide +kernel
theorem dX14_init_122 : decode cX14_init 122 = .ok (.pop, 1) := by decide +kernel
theorem dX14_init_123 : decode cX14_init 123 = .ok (.return_, 1) := by decide +kernel
set_option maxRecDepth 100000 in
set_option maxHeartbeats 4000000 in
theorem m_mdI (l : Launch) (D : va_G) (cy : Nat → ClassId) {eda ca : Nat} {ia : Nat → Nat} {σ : SG} {a0 : Nat} (ta : sgT σ a0 = 20) (hI0 : ∀ k, sgI σ a0 k = 0) (hon : ∀ a, sgT σ a ≠ 0 → a = a0) (sz : Nat) : sgM l D cy eda ca ia σ sz yX14_init (Cond.code yX14_init cX14_init 2 none :: mWall) 7 171 13 86 [.ref a0] (fun v σ2 => v = none ∧ ∃ (K : KM) (g : GH), kA K = a0 ∧ (nY g ∧ nH g) ∧ Inv eda ia K g 1 200 100 σ2) := by
  refine sg_ofW (cc := cX14_init) (maxL := 2) (ret := none) (by decide) rfl (Nat.le_of_ble_eq_true rfl) (lv := [(0, .ref a0)]) rfl (fun p e s m below meth c ls H N hrt hnm F hB hl => ?_) sz
  have hx := F.1.1
  have hb := F.1.2.1
  have hown := F.1.2.2.2.1
  have hM0 : mdS eda σ a0 [] := ⟨ta, fun x hx => absurd hx (by simp), fun a ha => Or.inl (hon a ha), List.Pairwise.nil, fun x hx => absurd hx (by simp)⟩
  refine lv_aload_n hx hb dX14_init_0 rfl (lv_at hl 0 rfl) ?_
  refine W.objInit hx hb hown (F.1.2.2.2.2 _ (List.mem_cons_of_mem _ (mm_2 _ (List.mem_of_getElem? (i := 30) rfl)))) (F.1.2.2.2.2 _ (List.mem_cons_of_mem _ (mm_0 _ (List.mem_of_getElem? (i := 2) rfl)))) (F.1.2.2.2.2 _ (List.mem_cons_of_mem _ (mm_0 _ (List.mem_of_getElem? (i := 3) rfl)))) rfl (by rw [F.1.2.2.1]; exact hl.1) rfl dX14_init_1 (Nat.le_of_ble_eq_true rfl) (Nat.le_of_ble_eq_true rfl) ?_
  refine lv_aload_n hx hb dX14_init_4 rfl (lv_at hl 0 rfl) ?_
  refine sg_new (C := RJx4a65c) (T := TJx4a65c) (N0 := 3) (ci := 4) (ty0 := tyJx4a65c) F hB (fun w h => List.mem_cons_of_mem _ (mmu_Jx4a65c w h)) tyJx4a65c_ok (F.1.2.2.2.2 _ (List.mem_cons_of_mem _ (mm_2 _ (List.mem_of_getElem? (i := 31) rfl)))) (F.1.2.2.2.2 _ (List.mem_cons_of_mem _ (mm_0 _ (List.mem_of_getElem? (i := 34) rfl)))) (F.1.2.2.2.2 _ (List.mem_cons_of_mem _ (mm_0 _ (List.mem_of_getElem? (i := 35) rfl)))) rfl (by decide) (by decide +kernel) (Nat.le_of_ble_eq_true rfl) (Nat.add_le_add_right (Nat.le_of_ble_eq_true rfl) _) dX14_init_5 (fun q5 H N hq5 hs5 hBn => ?_)
  clear hB; have hB := hBn; clear hBn
  refine lv_dup hx hb dX14_init_8 rfl ?_
  refine sg_callI F hB (m_lnew l D cy (show sgT (sgNw _ q5 5 0) q5 = 5 from by rw [sgNw_T, if_pos rfl]) (show (sgI (sgNw _ q5 5 0) q5 2).toInt = 0 from by rw [sgNw_I, if_pos rfl]; rfl) _) (cwI 0 F.1.2.2.2.2 (mgN (mm_0 _ (List.mem_of_getElem? (i := 26) rfl))) rfl rfl rfl (F.1.2.2.2.2 _ (List.mem_cons_of_mem _ (mm_0 _ (List.mem_of_getElem? (i := 35) rfl)))) (F.1.2.2.2.2 _ (List.mem_cons_of_mem _ (mm_3 _ (List.mem_of_getElem? (i := 6) rfl)))) (F.1.2.2.2.2 _ (List.mem_cons_of_mem _ (mm_1 _ (List.mem_of_getElem? (i := 1) rfl)))) rfl ⟨by decide, by decide, by decide +kernel⟩ ⟨Nat.le_of_ble_eq_true rfl, Nat.le_of_ble_eq_true rfl⟩) rfl hl.1 rfl (Nat.le_of_ble_eq_true rfl) dX14_init_9 (Nat.le_of_ble_eq_true rfl) (Nat.add_le_add_right (Nat.le_of_ble_eq_true rfl) _)  (fun H locs v σ9 N hBn hX9 hP => ?_)
  clear hB; have hB := hBn; clear hBn
  obtain ⟨rfl, rfl⟩ := hP
  refine pr_X14_10 F hB dX14_init_12 (by exact nw_k (n9 := 0) (t2 := 5) hM0.1 (by decide) (by exact hq5)) hnm (fun H locs hBn => ?_)
  clear hB; have hB := hBn; clear hBn
  have n12 : a0 ≠ q5 := (mdS_ne hM0 (by exact hq5)).1
  have hM12 : mdS eda (mdL eda σ a0 q5 1) a0 [(q5, 5, 0)] := mdS_list hM0 (by exact hq5)
  refine lv_aload_n hx hb dX14_init_15 rfl (lv_at hl 0 rfl) ?_
  refine lv_bipush (v := 12) hx hb dX14_init_16 (by decide) ?_
  refine sg_newq 9 (N' := 12) F hB (F.1.2.2.2.2 _ (List.mem_cons_of_mem _ (mm_2 _ (List.mem_of_getElem? (i := 33) rfl)))) (by decide +kernel) rfl rfl (by decide) rfl (by decide) (Nat.le_of_ble_eq_true rfl) (Nat.add_le_add_right (Nat.le_of_ble_eq_true rfl) _) dX14_init_18 (fun q18 H N hq18 hs18 hBn => ?_)
  clear hB; have hB := hBn; clear hBn
  refine pr_X14_18 F hB dX14_init_21 (by exact nw_k hM12.1 (by decide) (by exact hq18)) hnm (fun H locs hBn => ?_)
  clear hB; have hB := hBn; clear hBn
  have n21 : a0 ≠ q18 := (mdS_ne hM12 (by exact hq18)).1
  have hM21 : mdS eda (sgPR (sgNw (mdL eda σ a0 q5 1) q18 109 12) a0 2 (some q18)) a0 [(q18, 109, 12), (q5, 5, 0)] := mdS_arr hM12 (by exact hq18) (by decide) (by decide)
  refine lv_aload_n hx hb dX14_init_24 rfl (lv_at hl 0 rfl) ?_
  refine sg_new (C := RJx4a65c) (T := TJx4a65c) (N0 := 3) (ci := 4) (ty0 := tyJx4a65c) F hB (fun w h => List.mem_cons_of_mem _ (mmu_Jx4a65c w h)) tyJx4a65c_ok (F.1.2.2.2.2 _ (List.mem_cons_of_mem _ (mm_2 _ (List.mem_of_getElem? (i := 31) rfl)))) (F.1.2.2.2.2 _ (List.mem_cons_of_mem _ (mm_0 _ (List.mem_of_getElem? (i := 34) rfl)))) (F.1.2.2.2.2 _ (List.mem_cons_of_mem _ (mm_0 _ (List.mem_of_getElem? (i := 35) rfl)))) rfl (by decide) (by decide +kernel) (Nat.le_of_ble_eq_true rfl) (Nat.add_le_add_right (Nat.le_of_ble_eq_true rfl) _) dX14_init_25 (fun q25 H N hq25 hs25 hBn => ?_)
  clear hB; have hB := hBn; clear hBn
  refine lv_dup hx hb dX14_init_28 rfl ?_
  refine sg_callI F hB (m_lnew l D cy (show sgT (sgNw _ q25 5 0) q25 = 5 from by rw [sgNw_T, if_pos rfl]) (show (sgI (sgNw _ q25 5 0) q25 2).toInt = 0 from by rw [sgNw_I, if_pos rfl]; rfl) _) (cwI 0 F.1.2.2.2.2 (mgN (mm_0 _ (List.mem_of_getElem? (i := 26) rfl))) rfl rfl rfl (F.1.2.2.2.2 _ (List.mem_cons_of_mem _ (mm_0 _ (List.mem_of_getElem? (i := 35) rfl)))) (F.1.2.2.2.2 _ (List.mem_cons_of_mem _ (mm_3 _ (List.mem_of_getElem? (i := 6) rfl)))) (F.1.2.2.2.2 _ (List.mem_cons_of_mem _ (mm_1 _ (List.mem_of_getElem? (i := 1) rfl)))) rfl ⟨by decide, by decide, by decide +kernel⟩ ⟨Nat.le_of_ble_eq_true rfl, Nat.le_of_ble_eq_true rfl⟩) rfl hl.1 rfl (Nat.le_of_ble_eq_true rfl) dX14_init_29 (Nat.le_of_ble_eq_true rfl) (Nat.add_le_add_right (Nat.le_of_ble_eq_true rfl) _)  (fun H locs v σ29 N hBn hX29 hP => ?_)
  clear hB; have hB := hBn; clear hBn
  obtain ⟨rfl, rfl⟩ := hP
  refine pr_X14_22 F hB dX14_init_32 (by exact nw_k (n9 := 0) (t2 := 5) hM21.1 (by decide) (by exact hq25)) hnm (fun H locs hBn => ?_)
  clear hB; have hB := hBn; clear hBn
  have n32 : a0 ≠ q25 := (mdS_ne hM21 (by exact hq25)).1
  have hM32 : mdS eda (mdL eda (sgPR (sgNw (mdL eda σ a0 q5 1) q18 109 12) a0 2 (some q18)) a0 q25 3) a0 [(q25, 5, 0), (q18, 109, 12), (q5, 5, 0)] := mdS_list hM21 (by exact hq25)
  refine lv_aload_n hx hb dX14_init_35 rfl (lv_at hl 0 rfl) ?_
  refine sg_new (C := RJx4a65c) (T := TJx4a65c) (N0 := 3) (ci := 4) (ty0 := tyJx4a65c) F hB (fun w h => List.mem_cons_of_mem _ (mmu_Jx4a65c w h)) tyJx4a65c_ok (F.1.2.2.2.2 _ (List.mem_cons_of_mem _ (mm_2 _ (List.mem_of_getElem? (i := 31) rfl)))) (F.1.2.2.2.2 _ (List.mem_cons_of_mem _ (mm_0 _ (List.mem_of_getElem? (i := 34) rfl)))) (F.1.2.2.2.2 _ (List.mem_cons_of_mem _ (mm_0 _ (List.mem_of_getElem? (i := 35) rfl)))) rfl (by decide) (by decide +kernel) (Nat.le_of_ble_eq_true rfl) (Nat.add_le_add_right (Nat.le_of_ble_eq_true rfl) _) dX14_init_36 (fun q36 H N hq36 hs36 hBn => ?_)
  clear hB; have hB := hBn; clear hBn
  refine lv_dup hx hb dX14_init_39 rfl ?_
  refine sg_callI F hB (m_lnew l D cy (show sgT (sgNw _ q36 5 0) q36 = 5 from by rw [sgNw_T, if_pos rfl]) (show (sgI (sgNw _ q36 5 0) q36 2).toInt = 0 from by rw [sgNw_I, if_pos rfl]; rfl) _) (cwI 0 F.1.2.2.2.2 (mgN (mm_0 _ (List.mem_of_getElem? (i := 26) rfl))) rfl rfl rfl (F.1.2.2.2.2 _ (List.mem_cons_of_mem _ (mm_0 _ (List.mem_of_getElem? (i := 35) rfl)))) (F.1.2.2.2.2 _ (List.mem_cons_of_mem _ (mm_3 _ (List.mem_of_getElem? (i := 6) rfl)))) (F.1.2.2.2.2 _ (List.mem_cons_of_mem _ (mm_1 _ (List.mem_of_getElem? (i := 1) rfl)))) rfl ⟨by decide, by decide, by decide +kernel⟩ ⟨Nat.le_of_ble_eq_true rfl, Nat.le_of_ble_eq_true rfl⟩) rfl hl.1 rfl (Nat.le_of_ble_eq_true rfl) dX14_init_40 (Nat.le_of_ble_eq_true rfl) (Nat.add_le_add_right (Nat.le_of_ble_eq_true rfl) _)  (fun H locs v σ40 N hBn hX40 hP => ?_)
  clear hB; have hB := hBn; clear hBn
  obtain ⟨rfl, rfl⟩ := hP
  refine pr_X14_25 F hB dX14_init_43 (by exact nw_k (n9 := 0) (t2 := 5) hM32.1 (by decide) (by exact hq36)) hnm (fun H locs hBn => ?_)
  clear hB; have hB := hBn; clear hBn
  have n43 : a0 ≠ q36 := (mdS_ne hM32 (by exact hq36)).1
  have hM43 : mdS eda (mdL eda (mdL eda (sgPR (sgNw (mdL eda σ a0 q5 1) q18 109 12) a0 2 (some q18)) a0 q25 3) a0 q36 4) a0 [(q36, 5, 0), (q25, 5, 0), (q18, 109, 12), (q5, 5, 0)] := mdS_list hM32 (by exact hq36)
  refine lv_aload_n hx hb dX14_init_46 rfl (lv_at hl 0 rfl) ?_
  refine sg_new (C := RJx4a65c) (T := TJx4a65c) (N0 := 3) (ci := 4) (ty0 := tyJx4a65c) F hB (fun w h => List.mem_cons_of_mem _ (mmu_Jx4a65c w h)) tyJx4a65c_ok (F.1.2.2.2.2 _ (List.mem_cons_of_mem _ (mm_2 _ (List.mem_of_getElem? (i := 31) rfl)))) (F.1.2.2.2.2 _ (List.mem_cons_of_mem _ (mm_0 _ (List.mem_of_getElem? (i := 34) rfl)))) (F.1.2.2.2.2 _ (List.mem_cons_of_mem _ (mm_0 _ (List.mem_of_getElem? (i := 35) rfl)))) rfl (by decide) (by decide +kernel) (Nat.le_of_ble_eq_true rfl) (Nat.add_le_add_right (Nat.le_of_ble_eq_true rfl) _) dX14_init_47 (fun q47 H N hq47 hs47 hBn => ?_)
  clear hB; have hB := hBn; clear hBn
  refine lv_dup hx hb dX14_init_50 rfl ?_
  refine sg_callI F hB (m_lnew l D cy (show sgT (sgNw _ q47 5 0) q47 = 5 from by rw [sgNw_T, if_pos rfl]) (show (sgI (sgNw _ q47 5 0) q47 2).toInt = 0 from by rw [sgNw_I, if_pos rfl]; rfl) _) (cwI 0 F.1.2.2.2.2 (mgN (mm_0 _ (List.mem_of_getElem? (i := 26) rfl))) rfl rfl rfl (F.1.2.2.2.2 _ (List.mem_cons_of_mem _ (mm_0 _ (List.mem_of_getElem? (i := 35) rfl)))) (F.1.2.2.2.2 _ (List.mem_cons_of_mem _ (mm_3 _ (List.mem_of_getElem? (i := 6) rfl)))) (F.1.2.2.2.2 _ (List.mem_cons_of_mem _ (mm_1 _ (List.mem_of_getElem? (i := 1) rfl)))) rfl ⟨by decide, by decide, by decide +kernel⟩ ⟨Nat.le_of_ble_eq_true rfl, Nat.le_of_ble_eq_true rfl⟩) rfl hl.1 rfl (Nat.le_of_ble_eq_true rfl) dX14_init_51 (Nat.le_of_ble_eq_true rfl) (Nat.add_le_add_right (Nat.le_of_ble_eq_true rfl) _)  (fun H locs v σ51 N hBn hX51 hP => ?_)
  clear hB; have hB := hBn; clear hBn
  obtain ⟨rfl, rfl⟩ := hP
  refine pr_X14_28 F hB dX14_init_54 (by exact nw_k (n9 := 0) (t2 := 5) hM43.1 (by decide) (by exact hq47)) hnm (fun H locs hBn => ?_)
  clear hB; have hB := hBn; clear hBn
  have n54 : a0 ≠ q47 := (mdS_ne hM43 (by exact hq47)).1
  have hM54 : mdS eda (mdL eda (mdL eda (mdL eda (sgPR (sgNw (mdL eda σ a0 q5 1) q18 109 12) a0 2 (some q18)) a0 q25 3) a0 q36 4) a0 q47 5) a0 [(q47, 5, 0), (q36, 5, 0), (q25, 5, 0), (q18, 109, 12), (q5, 5, 0)] := mdS_list hM43 (by exact hq47)
  refine lv_aload_n hx hb dX14_init_57 rfl (lv_at hl 0 rfl) ?_
  refine lv_iconst (v := 0) hx hb dX14_init_58 (by decide) ?_
  refine sg_newa 0 (atype := .int) (ty := .int) (N' := 0) F hB (F.1.2.2.2.2 _ (List.mem_cons_of_mem _ (mm_0 _ (List.mem_of_getElem? (i := 11) rfl)))) rfl rfl (fun C z => by cases z) rfl (fun _ => rfl) (by decide) rfl (by decide) (Nat.le_of_ble_eq_true rfl) (Nat.add_le_add_right (Nat.le_of_ble_eq_true rfl) _) dX14_init_59 (fun q59 H N hq59 hs59 hBn => ?_)
  clear hB; have hB := hBn; clear hBn
  obtain ⟨hQ59, tq59, nq59⟩ := sgB_nwf hB hq59 (by decide)
  refine pr_X14_31 F hB dX14_init_61 (by exact nw_k hM54.1 (by decide) (by exact hq59)) (fun H locs hBn => ?_)
  clear hB; have hB := hBn; clear hBn
  have n61 : a0 ≠ q59 := (mdS_ne hM54 (by exact hq59)).1
  have hM61 : mdS eda (sgPR (sgNw (mdL eda (mdL eda (mdL eda (sgPR (sgNw (mdL eda σ a0 q5 1) q18 109 12) a0 2 (some q18)) a0 q25 3) a0 q36 4) a0 q47 5) q59 100 0) a0 6 (some q59)) a0 [(q59, 100, 0), (q47, 5, 0), (q36, 5, 0), (q25, 5, 0), (q18, 109, 12), (q5, 5, 0)] := mdS_arr hM54 (by exact hq59) (by decide) (by decide)
  refine lv_aload_n hx hb dX14_init_64 rfl (lv_at hl 0 rfl) ?_
  refine sg_new (C := RJx4a65c) (T := TJx4a65c) (N0 := 3) (ci := 4) (ty0 := tyJx4a65c) F hB (fun w h => List.mem_cons_of_mem _ (mmu_Jx4a65c w h)) tyJx4a65c_ok (F.1.2.2.2.2 _ (List.mem_cons_of_mem _ (mm_2 _ (List.mem_of_getElem? (i := 31) rfl)))) (F.1.2.2.2.2 _ (List.mem_cons_of_mem _ (mm_0 _ (List.mem_of_getElem? (i := 34) rfl)))) (F.1.2.2.2.2 _ (List.mem_cons_of_mem _ (mm_0 _ (List.mem_of_getElem? (i := 35) rfl)))) rfl (by decide) (by decide +kernel) (Nat.le_of_ble_eq_true rfl) (Nat.add_le_add_right (Nat.le_of_ble_eq_true rfl) _) dX14_init_65 (fun q65 H N hq65 hs65 hBn => ?_)
  clear hB; have hB := hBn; clear hBn
  refine lv_dup hx hb dX14_init_68 rfl ?_
  refine sg_callI F hB (m_lnew l D cy (show sgT (sgNw _ q65 5 0) q65 = 5 from by rw [sgNw_T, if_pos rfl]) (show (sgI (sgNw _ q65 5 0) q65 2).toInt = 0 from by rw [sgNw_I, if_pos rfl]; rfl) _) (cwI 0 F.1.2.2.2.2 (mgN (mm_0 _ (List.mem_of_getElem? (i := 26) rfl))) rfl rfl rfl (F.1.2.2.2.2 _ (List.mem_cons_of_mem _ (mm_0 _ (List.mem_of_getElem? (i := 35) rfl)))) (F.1.2.2.2.2 _ (List.mem_cons_of_mem _ (mm_3 _ (List.mem_of_getElem? (i := 6) rfl)))) (F.1.2.2.2.2 _ (List.mem_cons_of_mem _ (mm_1 _ (List.mem_of_getElem? (i := 1) rfl)))) rfl ⟨by decide, by decide, by decide +kernel⟩ ⟨Nat.le_of_ble_eq_true rfl, Nat.le_of_ble_eq_true rfl⟩) rfl hl.1 rfl (Nat.le_of_ble_eq_true rfl) dX14_init_69 (Nat.le_of_ble_eq_true rfl) (Nat.add_le_add_right (Nat.le_of_ble_eq_true rfl) _)  (fun H locs v σ69 N hBn hX69 hP => ?_)
  clear hB; have hB := hBn; clear hBn
  obtain ⟨rfl, rfl⟩ := hP
  refine pr_X14_35 F hB dX14_init_72 (by exact nw_k (n9 := 0) (t2 := 5) hM61.1 (by decide) (by exact hq65)) hnm (fun H locs hBn => ?_)
  clear hB; have hB := hBn; clear hBn
  have n72 : a0 ≠ q65 := (mdS_ne hM61 (by exact hq65)).1
  have hM72 : mdS eda (mdL eda (sgPR (sgNw (mdL eda (mdL eda (mdL eda (sgPR (sgNw (mdL eda σ a0 q5 1) q18 109 12) a0 2 (some q18)) a0 q25 3) a0 q36 4) a0 q47 5) q59 100 0) a0 6 (some q59)) a0 q65 8) a0 [(q65, 5, 0), (q59, 100, 0), (q47, 5, 0), (q36, 5, 0), (q25, 5, 0), (q18, 109, 12), (q5, 5, 0)] := mdS_list hM61 (by exact hq65)
  refine lv_aload_n hx hb dX14_init_75 rfl (lv_at hl 0 rfl) ?_
  refine lv_iconst (v := (-1)) hx hb dX14_init_76 (by decide) ?_
  refine pf_X14_38 F hB dX14_init_77 (by exact hM72.1) (fun H locs hBn => ?_)
  clear hB; have hB := hBn; clear hBn
  refine lv_aload_n hx hb dX14_init_80 rfl (lv_at hl 0 rfl) ?_
  refine lv_bipush (v := 100) hx hb dX14_init_81 (by decide) ?_
  refine pf_X14_42 F hB dX14_init_83 (by exact hM72.1) (fun H locs hBn => ?_)
  clear hB; have hB := hBn; clear hBn
  have hM83 : mdS eda (sgPI (sgPI (mdL eda (sgPR (sgNw (mdL eda (mdL eda (mdL eda (sgPR (sgNw (mdL eda σ a0 q5 1) q18 109 12) a0 2 (some q18)) a0 q25 3) a0 q36 4) a0 q47 5) q59 100 0) a0 6 (some q59)) a0 q65 8) a0 10 (-1)) a0 11 100) a0 [(q65, 5, 0), (q59, 100, 0), (q47, 5, 0), (q36, 5, 0), (q25, 5, 0), (q18, 109, 12), (q5, 5, 0)] := mdS_PI (mdS_PI hM72)
  refine lv_aload_n hx hb dX14_init_86 rfl (lv_at hl 0 rfl) ?_
  refine lv_bipush (v := 16) hx hb dX14_init_87 (by decide) ?_
  refine sg_newa 0 (atype := .int) (ty := .int) (N' := 16) F hB (F.1.2.2.2.2 _ (List.mem_cons_of_mem _ (mm_0 _ (List.mem_of_getElem? (i := 11) rfl)))) rfl rfl (fun C z => by cases z) rfl (fun _ => rfl) (by decide) rfl (by decide) (Nat.le_of_ble_eq_true rfl) (Nat.add_le_add_right (Nat.le_of_ble_eq_true rfl) _) dX14_init_89 (fun q89 H N hq89 hs89 hBn => ?_)
  clear hB; have hB := hBn; clear hBn
  obtain ⟨hQ89, tq89, nq89⟩ := sgB_nwf hB hq89 (by decide)
  refine pr_X14_45 F hB dX14_init_91 (by exact nw_k hM83.1 (by decide) (by exact hq89)) hnm (fun H locs hBn => ?_)
  clear hB; have hB := hBn; clear hBn
  have n91 : a0 ≠ q89 := (mdS_ne hM83 (by exact hq89)).1
  have hM91 : mdS eda (sgPR (sgNw (sgPI (sgPI (mdL eda (sgPR (sgNw (mdL eda (mdL eda (mdL eda (sgPR (sgNw (mdL eda σ a0 q5 1) q18 109 12) a0 2 (some q18)) a0 q25 3) a0 q36 4) a0 q47 5) q59 100 0) a0 6 (some q59)) a0 q65 8) a0 10 (-1)) a0 11 100) q89 100 16) a0 12 (some q89)) a0 [(q89, 100, 16), (q65, 5, 0), (q59, 100, 0), (q47, 5, 0), (q36, 5, 0), (q25, 5, 0), (q18, 109, 12), (q5, 5, 0)] := mdS_arr hM83 (by exact hq89) (by decide) (by decide)
  refine sg_new (C := RX10) (T := TX10) (N0 := 16) (ci := 15) (ty0 := tyX10) F hB (fun w h => List.mem_cons_of_mem _ (mmu_X10 w h)) tyX10_ok (F.1.2.2.2.2 _ (List.mem_cons_of_mem _ (mm_3 _ (List.mem_of_getElem? (i := 3) rfl)))) (F.1.2.2.2.2 _ (List.mem_cons_of_mem _ (mm_3 _ (List.mem_of_getElem? (i := 4) rfl)))) (F.1.2.2.2.2 _ (List.mem_cons_of_mem _ (mm_3 _ (List.mem_of_getElem? (i := 5) rfl)))) rfl (by decide) (by decide +kernel) (Nat.le_of_ble_eq_true rfl) (Nat.add_le_add_right (Nat.le_of_ble_eq_true rfl) _) dX14_init_94 (fun q94 H N hq94 hs94 hBn => ?_)
  clear hB; have hB := hBn; clear hBn
  refine lv_dup hx hb dX14_init_97 rfl ?_
  refine lv_bipush (v := 104) hx hb dX14_init_98 (by decide) ?_
  refine lv_iconst (v := 4) hx hb dX14_init_100 (by decide) ?_
  refine lv_iconst (v := 0) hx hb dX14_init_101 (by decide) ?_
  refine lv_iconst (v := 1) hx hb dX14_init_102 (by decide) ?_
  refine lv_iconst (v := 0) hx hb dX14_init_103 (by decide) ?_
  refine sg_callI F hB (m_dvI l D cy (show sgT (sgNw _ q94 16 0) q94 = 16 from by rw [sgNw_T, if_pos rfl]) 104 4 0 1 0 ⟨by decide, by decide⟩ ⟨by decide, by decide⟩ _) (cwI 5 F.1.2.2.2.2 (mgN (mm_0 _ (List.mem_of_getElem? (i := 0) rfl))) rfl rfl rfl (F.1.2.2.2.2 _ (List.mem_cons_of_mem _ (mm_3 _ (List.mem_of_getElem? (i := 5) rfl)))) (F.1.2.2.2.2 _ (List.mem_cons_of_mem _ (mm_3 _ (List.mem_of_getElem? (i := 7) rfl)))) (F.1.2.2.2.2 _ (List.mem_cons_of_mem _ (mm_3 _ (List.mem_of_getElem? (i := 8) rfl)))) rfl ⟨by decide, by decide, by decide +kernel⟩ ⟨Nat.le_of_ble_eq_true rfl, Nat.le_of_ble_eq_true rfl⟩) rfl hl.1 rfl (Nat.le_of_ble_eq_true rfl) dX14_init_104 (Nat.le_of_ble_eq_true rfl) (Nat.add_le_add_right (Nat.le_of_ble_eq_true rfl) _)  (fun H locs v σ104 N hBn hX104 hP => ?_)
  clear hB; have hB := hBn; clear hBn
  obtain ⟨rfl, e9, f9, h9, he, hf, hh, rfl⟩ := hP
  have R1 : sgR (sgPR (sgNw (sgPI (sgPI (mdL eda (sgPR (sgNw (mdL eda (mdL eda (mdL eda (sgPR (sgNw (mdL eda σ a0 q5 1) q18 109 12) a0 2 (some q18)) a0 q25 3) a0 q36 4) a0 q47 5) q59 100 0) a0 6 (some q59)) a0 q65 8) a0 10 (-1)) a0 11 100) q89 100 16) a0 12 (some q89)) a0 1 = some q5 := by
    show sgR (sgPR (sgNw (sgPI (sgPI (mdL eda (sgPR (sgNw (mdL eda (mdL eda (mdL eda (sgPR (sgNw (mdL eda σ a0 q5 1) q18 109 12) a0 2 (some q18)) a0 q25 3) a0 q36 4) a0 q47 5) q59 100 0) a0 6 (some q59)) a0 q65 8) a0 10 (-1)) a0 11 100) q89 100 16) a0 12 (some q89)) a0 1 = _
    rw [mdA_R n91, if_neg (by decide)]
    show sgR (sgPI (sgPI (mdL eda (sgPR (sgNw (mdL eda (mdL eda (mdL eda (sgPR (sgNw (mdL eda σ a0 q5 1) q18 109 12) a0 2 (some q18)) a0 q25 3) a0 q36 4) a0 q47 5) q59 100 0) a0 6 (some q59)) a0 q65 8) a0 10 (-1)) a0 11 100) a0 1 = _
    show sgR (mdL eda (sgPR (sgNw (mdL eda (mdL eda (mdL eda (sgPR (sgNw (mdL eda σ a0 q5 1) q18 109 12) a0 2 (some q18)) a0 q25 3) a0 q36 4) a0 q47 5) q59 100 0) a0 6 (some q59)) a0 q65 8) a0 1 = _
    rw [mdL_R n72, if_neg (by decide)]
    show sgR (sgPR (sgNw (mdL eda (mdL eda (mdL eda (sgPR (sgNw (mdL eda σ a0 q5 1) q18 109 12) a0 2 (some q18)) a0 q25 3) a0 q36 4) a0 q47 5) q59 100 0) a0 6 (some q59)) a0 1 = _
    rw [mdA_R n61, if_neg (by decide)]
    show sgR (mdL eda (mdL eda (mdL eda (sgPR (sgNw (mdL eda σ a0 q5 1) q18 109 12) a0 2 (some q18)) a0 q25 3) a0 q36 4) a0 q47 5) a0 1 = _
    rw [mdL_R n54, if_neg (by decide)]
    show sgR (mdL eda (mdL eda (sgPR (sgNw (mdL eda σ a0 q5 1) q18 109 12) a0 2 (some q18)) a0 q25 3) a0 q36 4) a0 1 = _
    rw [mdL_R n43, if_neg (by decide)]
    show sgR (mdL eda (sgPR (sgNw (mdL eda σ a0 q5 1) q18 109 12) a0 2 (some q18)) a0 q25 3) a0 1 = _
    rw [mdL_R n32, if_neg (by decide)]
    show sgR (sgPR (sgNw (mdL eda σ a0 q5 1) q18 109 12) a0 2 (some q18)) a0 1 = _
    rw [mdA_R n21, if_neg (by decide)]
    show sgR (mdL eda σ a0 q5 1) a0 1 = _
    rw [mdL_R n12, if_pos rfl]
  have R2 : sgR (sgPR (sgNw (sgPI (sgPI (mdL eda (sgPR (sgNw (mdL eda (mdL eda (mdL eda (sgPR (sgNw (mdL eda σ a0 q5 1) q18 109 12) a0 2 (some q18)) a0 q25 3) a0 q36 4) a0 q47 5) q59 100 0) a0 6 (some q59)) a0 q65 8) a0 10 (-1)) a0 11 100) q89 100 16) a0 12 (some q89)) a0 2 = some q18 := by
    show sgR (sgPR (sgNw (sgPI (sgPI (mdL eda (sgPR (sgNw (mdL eda (mdL eda (mdL eda (sgPR (sgNw (mdL eda σ a0 q5 1) q18 109 12) a0 2 (some q18)) a0 q25 3) a0 q36 4) a0 q47 5) q59 100 0) a0 6 (some q59)) a0 q65 8) a0 10 (-1)) a0 11 100) q89 100 16) a0 12 (some q89)) a0 2 = _
    rw [mdA_R n91, if_neg (by decide)]
    show sgR (sgPI (sgPI (mdL eda (sgPR (sgNw (mdL eda (mdL eda (mdL eda (sgPR (sgNw (mdL eda σ a0 q5 1) q18 109 12) a0 2 (some q18)) a0 q25 3) a0 q36 4) a0 q47 5) q59 100 0) a0 6 (some q59)) a0 q65 8) a0 10 (-1)) a0 11 100) a0 2 = _
    show sgR (mdL eda (sgPR (sgNw (mdL eda (mdL eda (mdL eda (sgPR (sgNw (mdL eda σ a0 q5 1) q18 109 12) a0 2 (some q18)) a0 q25 3) a0 q36 4) a0 q47 5) q59 100 0) a0 6 (some q59)) a0 q65 8) a0 2 = _
    rw [mdL_R n72, if_neg (by decide)]
    show sgR (sgPR (sgNw (mdL eda (mdL eda (mdL eda (sgPR (sgNw (mdL eda σ a0 q5 1) q18 109 12) a0 2 (some q18)) a0 q25 3) a0 q36 4) a0 q47 5) q59 100 0) a0 6 (some q59)) a0 2 = _
    rw [mdA_R n61, if_neg (by decide)]
    show sgR (mdL eda (mdL eda (mdL eda (sgPR (sgNw (mdL eda σ a0 q5 1) q18 109 12) a0 2 (some q18)) a0 q25 3) a0 q36 4) a0 q47 5) a0 2 = _
    rw [mdL_R n54, if_neg (by decide)]
    show sgR (mdL eda (mdL eda (sgPR (sgNw (mdL eda σ a0 q5 1) q18 109 12) a0 2 (some q18)) a0 q25 3) a0 q36 4) a0 2 = _
    rw [mdL_R n43, if_neg (by decide)]
    show sgR (mdL eda (sgPR (sgNw (mdL eda σ a0 q5 1) q18 109 12) a0 2 (some q18)) a0 q25 3) a0 2 = _
    rw [mdL_R n32, if_neg (by decide)]
    show sgR (sgPR (sgNw (mdL eda σ a0 q5 1) q18 109 12) a0 2 (some q18)) a0 2 = _
    rw [mdA_R n21, if_pos rfl]
  have R3 : sgR (sgPR (sgNw (sgPI (sgPI (mdL eda (sgPR (sgNw (mdL eda (mdL eda (mdL eda (sgPR (sgNw (mdL eda σ a0 q5 1) q18 109 12) a0 2 (some q18)) a0 q25 3) a0 q36 4) a0 q47 5) q59 100 0) a0 6 (some q59)) a0 q65 8) a0 10 (-1)) a0 11 100) q89 100 16) a0 12 (some q89)) a0 3 = some q25 := by
    show sgR (sgPR (sgNw (sgPI (sgPI (mdL eda (sgPR (sgNw (mdL eda (mdL eda (mdL eda (sgPR (sgNw (mdL eda σ a0 q5 1) q18 109 12) a0 2 (some q18)) a0 q25 3) a0 q36 4) a0 q47 5) q59 100 0) a0 6 (some q59)) a0 q65 8) a0 10 (-1)) a0 11 100) q89 100 16) a0 12 (some q89)) a0 3 = _
    rw [mdA_R n91, if_neg (by decide)]
    show sgR (sgPI (sgPI (mdL eda (sgPR (sgNw (mdL eda (mdL eda (mdL eda (sgPR (sgNw (mdL eda σ a0 q5 1) q18 109 12) a0 2 (some q18)) a0 q25 3) a0 q36 4) a0 q47 5) q59 100 0) a0 6 (some q59)) a0 q65 8) a0 10 (-1)) a0 11 100) a0 3 = _
    show sgR (mdL eda (sgPR (sgNw (mdL eda (mdL eda (mdL eda (sgPR (sgNw (mdL eda σ a0 q5 1) q18 109 12) a0 2 (some q18)) a0 q25 3) a0 q36 4) a0 q47 5) q59 100 0) a0 6 (some q59)) a0 q65 8) a0 3 = _
    rw [mdL_R n72, if_neg (by decide)]
    show sgR (sgPR (sgNw (mdL eda (mdL eda (mdL eda (sgPR (sgNw (mdL eda σ a0 q5 1) q18 109 12) a0 2 (some q18)) a0 q25 3) a0 q36 4) a0 q47 5) q59 100 0) a0 6 (some q59)) a0 3 = _
    rw [mdA_R n61, if_neg (by decide)]
    show sgR (mdL eda (mdL eda (mdL eda (sgPR (sgNw (mdL eda σ a0 q5 1) q18 109 12) a0 2 (some q18)) a0 q25 3) a0 q36 4) a0 q47 5) a0 3 = _
    rw [mdL_R n54, if_neg (by decide)]
    show sgR (mdL eda (mdL eda (sgPR (sgNw (mdL eda σ a0 q5 1) q18 109 12) a0 2 (some q18)) a0 q25 3) a0 q36 4) a0 3 = _
    rw [mdL_R n43, if_neg (by decide)]
    show sgR (mdL eda (sgPR (sgNw (mdL eda σ a0 q5 1) q18 109 12) a0 2 (some q18)) a0 q25 3) a0 3 = _
    rw [mdL_R n32, if_pos rfl]
  have R4 : sgR (sgPR (sgNw (sgPI (sgPI (mdL eda (sgPR (sgNw (mdL eda (mdL eda (mdL eda (sgPR (sgNw (mdL eda σ a0 q5 1) q18 109 12) a0 2 (some q18)) a0 q25 3) a0 q36 4) a0 q47 5) q59 100 0) a0 6 (some q59)) a0 q65 8) a0 10 (-1)) a0 11 100) q89 100 16) a0 12 (some q89)) a0 4 = some q36 := by
    show sgR (sgPR (sgNw (sgPI (sgPI (mdL eda (sgPR (sgNw (mdL eda (mdL eda (mdL eda (sgPR (sgNw (mdL eda σ a0 q5 1) q18 109 12) a0 2 (some q18)) a0 q25 3) a0 q36 4) a0 q47 5) q59 100 0) a0 6 (some q59)) a0 q65 8) a0 10 (-1)) a0 11 100) q89 100 16) a0 12 (some q89)) a0 4 = _
    rw [mdA_R n91, if_neg (by decide)]
    show sgR (sgPI (sgPI (mdL eda (sgPR (sgNw (mdL eda (mdL eda (mdL eda (sgPR (sgNw (mdL eda σ a0 q5 1) q18 109 12) a0 2 (some q18)) a0 q25 3) a0 q36 4) a0 q47 5) q59 100 0) a0 6 (some q59)) a0 q65 8) a0 10 (-1)) a0 11 100) a0 4 = _
    show sgR (mdL eda (sgPR (sgNw (mdL eda (mdL eda (mdL eda (sgPR (sgNw (mdL eda σ a0 q5 1) q18 109 12) a0 2 (some q18)) a0 q25 3) a0 q36 4) a0 q47 5) q59 100 0) a0 6 (some q59)) a0 q65 8) a0 4 = _
    rw [mdL_R n72, if_neg (by decide)]
    show sgR (sgPR (sgNw (mdL eda (mdL eda (mdL eda (sgPR (sgNw (mdL eda σ a0 q5 1) q18 109 12) a0 2 (some q18)) a0 q25 3) a0 q36 4) a0 q47 5) q59 100 0) a0 6 (some q59)) a0 4 = _
    rw [mdA_R n61, if_neg (by decide)]
    show sgR (mdL eda (mdL eda (mdL eda (sgPR (sgNw (mdL eda σ a0 q5 1) q18 109 12) a0 2 (some q18)) a0 q25 3) a0 q36 4) a0 q47 5) a0 4 = _
    rw [mdL_R n54, if_neg (by decide)]
    show sgR (mdL eda (mdL eda (sgPR (sgNw (mdL eda σ a0 q5 1) q18 109 12) a0 2 (some q18)) a0 q25 3) a0 q36 4) a0 4 = _
    rw [mdL_R n43, if_pos rfl]
  have R5 : sgR (sgPR (sgNw (sgPI (sgPI (mdL eda (sgPR (sgNw (mdL eda (mdL eda (mdL eda (sgPR (sgNw (mdL eda σ a0 q5 1) q18 109 12) a0 2 (some q18)) a0 q25 3) a0 q36 4) a0 q47 5) q59 100 0) a0 6 (some q59)) a0 q65 8) a0 10 (-1)) a0 11 100) q89 100 16) a0 12 (some q89)) a0 5 = some q47 := by
    show sgR (sgPR (sgNw (sgPI (sgPI (mdL eda (sgPR (sgNw (mdL eda (mdL eda (mdL eda (sgPR (sgNw (mdL eda σ a0 q5 1) q18 109 12) a0 2 (some q18)) a0 q25 3) a0 q36 4) a0 q47 5) q59 100 0) a0 6 (some q59)) a0 q65 8) a0 10 (-1)) a0 11 100) q89 100 16) a0 12 (some q89)) a0 5 = _
    rw [mdA_R n91, if_neg (by decide)]
    show sgR (sgPI (sgPI (mdL eda (sgPR (sgNw (mdL eda (mdL eda (mdL eda (sgPR (sgNw (mdL eda σ a0 q5 1) q18 109 12) a0 2 (some q18)) a0 q25 3) a0 q36 4) a0 q47 5) q59 100 0) a0 6 (some q59)) a0 q65 8) a0 10 (-1)) a0 11 100) a0 5 = _
    show sgR (mdL eda (sgPR (sgNw (mdL eda (mdL eda (mdL eda (sgPR (sgNw (mdL eda σ a0 q5 1) q18 109 12) a0 2 (some q18)) a0 q25 3) a0 q36 4) a0 q47 5) q59 100 0) a0 6 (some q59)) a0 q65 8) a0 5 = _
    rw [mdL_R n72, if_neg (by decide)]
    show sgR (sgPR (sgNw (mdL eda (mdL eda (mdL eda (sgPR (sgNw (mdL eda σ a0 q5 1) q18 109 12) a0 2 (some q18)) a0 q25 3) a0 q36 4) a0 q47 5) q59 100 0) a0 6 (some q59)) a0 5 = _
    rw [mdA_R n61, if_neg (by decide)]
    show sgR (mdL eda (mdL eda (mdL eda (sgPR (sgNw (mdL eda σ a0 q5 1) q18 109 12) a0 2 (some q18)) a0 q25 3) a0 q36 4) a0 q47 5) a0 5 = _
    rw [mdL_R n54, if_pos rfl]
  have R6 : sgR (sgPR (sgNw (sgPI (sgPI (mdL eda (sgPR (sgNw (mdL eda (mdL eda (mdL eda (sgPR (sgNw (mdL eda σ a0 q5 1) q18 109 12) a0 2 (some q18)) a0 q25 3) a0 q36 4) a0 q47 5) q59 100 0) a0 6 (some q59)) a0 q65 8) a0 10 (-1)) a0 11 100) q89 100 16) a0 12 (some q89)) a0 6 = some q59 := by
    show sgR (sgPR (sgNw (sgPI (sgPI (mdL eda (sgPR (sgNw (mdL eda (mdL eda (mdL eda (sgPR (sgNw (mdL eda σ a0 q5 1) q18 109 12) a0 2 (some q18)) a0 q25 3) a0 q36 4) a0 q47 5) q59 100 0) a0 6 (some q59)) a0 q65 8) a0 10 (-1)) a0 11 100) q89 100 16) a0 12 (some q89)) a0 6 = _
    rw [mdA_R n91, if_neg (by decide)]
    show sgR (sgPI (sgPI (mdL eda (sgPR (sgNw (mdL eda (mdL eda (mdL eda (sgPR (sgNw (mdL eda σ a0 q5 1) q18 109 12) a0 2 (some q18)) a0 q25 3) a0 q36 4) a0 q47 5) q59 100 0) a0 6 (some q59)) a0 q65 8) a0 10 (-1)) a0 11 100) a0 6 = _
    show sgR (mdL eda (sgPR (sgNw (mdL eda (mdL eda (mdL eda (sgPR (sgNw (mdL eda σ a0 q5 1) q18 109 12) a0 2 (some q18)) a0 q25 3) a0 q36 4) a0 q47 5) q59 100 0) a0 6 (some q59)) a0 q65 8) a0 6 = _
    rw [mdL_R n72, if_neg (by decide)]
    show sgR (sgPR (sgNw (mdL eda (mdL eda (mdL eda (sgPR (sgNw (mdL eda σ a0 q5 1) q18 109 12) a0 2 (some q18)) a0 q25 3) a0 q36 4) a0 q47 5) q59 100 0) a0 6 (some q59)) a0 6 = _
    rw [mdA_R n61, if_pos rfl]
  have R8 : sgR (sgPR (sgNw (sgPI (sgPI (mdL eda (sgPR (sgNw (mdL eda (mdL eda (mdL eda (sgPR (sgNw (mdL eda σ a0 q5 1) q18 109 12) a0 2 (some q18)) a0 q25 3) a0 q36 4) a0 q47 5) q59 100 0) a0 6 (some q59)) a0 q65 8) a0 10 (-1)) a0 11 100) q89 100 16) a0 12 (some q89)) a0 8 = some q65 := by
    show sgR (sgPR (sgNw (sgPI (sgPI (mdL eda (sgPR (sgNw (mdL eda (mdL eda (mdL eda (sgPR (sgNw (mdL eda σ a0 q5 1) q18 109 12) a0 2 (some q18)) a0 q25 3) a0 q36 4) a0 q47 5) q59 100 0) a0 6 (some q59)) a0 q65 8) a0 10 (-1)) a0 11 100) q89 100 16) a0 12 (some q89)) a0 8 = _
    rw [mdA_R n91, if_neg (by decide)]
    show sgR (sgPI (sgPI (mdL eda (sgPR (sgNw (mdL eda (mdL eda (mdL eda (sgPR (sgNw (mdL eda σ a0 q5 1) q18 109 12) a0 2 (some q18)) a0 q25 3) a0 q36 4) a0 q47 5) q59 100 0) a0 6 (some q59)) a0 q65 8) a0 10 (-1)) a0 11 100) a0 8 = _
    show sgR (mdL eda (sgPR (sgNw (mdL eda (mdL eda (mdL eda (sgPR (sgNw (mdL eda σ a0 q5 1) q18 109 12) a0 2 (some q18)) a0 q25 3) a0 q36 4) a0 q47 5) q59 100 0) a0 6 (some q59)) a0 q65 8) a0 8 = _
    rw [mdL_R n72, if_pos rfl]
  have R12 : sgR (sgPR (sgNw (sgPI (sgPI (mdL eda (sgPR (sgNw (mdL eda (mdL eda (mdL eda (sgPR (sgNw (mdL eda σ a0 q5 1) q18 109 12) a0 2 (some q18)) a0 q25 3) a0 q36 4) a0 q47 5) q59 100 0) a0 6 (some q59)) a0 q65 8) a0 10 (-1)) a0 11 100) q89 100 16) a0 12 (some q89)) a0 12 = some q89 := by
    show sgR (sgPR (sgNw (sgPI (sgPI (mdL eda (sgPR (sgNw (mdL eda (mdL eda (mdL eda (sgPR (sgNw (mdL eda σ a0 q5 1) q18 109 12) a0 2 (some q18)) a0 q25 3) a0 q36 4) a0 q47 5) q59 100 0) a0 6 (some q59)) a0 q65 8) a0 10 (-1)) a0 11 100) q89 100 16) a0 12 (some q89)) a0 12 = _
    rw [mdA_R n91, if_pos rfl]
  have I9 : sgI (sgPR (sgNw (sgPI (sgPI (mdL eda (sgPR (sgNw (mdL eda (mdL eda (mdL eda (sgPR (sgNw (mdL eda σ a0 q5 1) q18 109 12) a0 2 (some q18)) a0 q25 3) a0 q36 4) a0 q47 5) q59 100 0) a0 6 (some q59)) a0 q65 8) a0 10 (-1)) a0 11 100) q89 100 16) a0 12 (some q89)) a0 9 = 0 := by
    rw [mdA_I n91]
    rw [sgI_nk (by decide), sgI_nk (by decide)]
    rw [mdL_I n72]
    rw [mdA_I n61]
    rw [mdL_I n54]
    rw [mdL_I n43]
    rw [mdL_I n32]
    rw [mdA_I n21]
    rw [mdL_I n12]
    exact hI0 9
  have I10 : sgI (sgPR (sgNw (sgPI (sgPI (mdL eda (sgPR (sgNw (mdL eda (mdL eda (mdL eda (sgPR (sgNw (mdL eda σ a0 q5 1) q18 109 12) a0 2 (some q18)) a0 q25 3) a0 q36 4) a0 q47 5) q59 100 0) a0 6 (some q59)) a0 q65 8) a0 10 (-1)) a0 11 100) q89 100 16) a0 12 (some q89)) a0 10 = -1 := by
    rw [mdA_I n91]
    rw [sgI_nk (by decide), sgI_PI, if_pos ⟨rfl, rfl⟩]
  have I11 : sgI (sgPR (sgNw (sgPI (sgPI (mdL eda (sgPR (sgNw (mdL eda (mdL eda (mdL eda (sgPR (sgNw (mdL eda σ a0 q5 1) q18 109 12) a0 2 (some q18)) a0 q25 3) a0 q36 4) a0 q47 5) q59 100 0) a0 6 (some q59)) a0 q65 8) a0 10 (-1)) a0 11 100) q89 100 16) a0 12 (some q89)) a0 11 = 100 := by
    rw [mdA_I n91]
    rw [sgI_PI, if_pos ⟨rfl, rfl⟩]
  obtain ⟨hO, tD, hE, hF, hH, ⟨i0, i6, i7⟩, hnew, -⟩ := dv_facts (σ := (sgPR (sgNw (sgPI (sgPI (mdL eda (sgPR (sgNw (mdL eda (mdL eda (mdL eda (sgPR (sgNw (mdL eda σ a0 q5 1) q18 109 12) a0 2 (some q18)) a0 q25 3) a0 q36 4) a0 q47 5) q59 100 0) a0 6 (some q59)) a0 q65 8) a0 10 (-1)) a0 11 100) q89 100 16) a0 12 (some q89))) (d := q94) (e := e9) (f := f9) (h9 := h9) (sp := 104) (po := 4) (pw := 0) (ow := 1) (ki := 0) (v6 := 99) hq94 (by exact he) (by exact hf) (by exact hh) rfl
  refine lv_astore_n (lv' := [(1, .ref _), (0, .ref _)]) hx hb dX14_init_107 rfl hl (by decide) rfl (fun ls hl => ?_)
  refine lv_aload_n hx hb dX14_init_108 rfl (lv_at hl 0 rfl) ?_
  refine lv_bipush (v := 99) hx hb dX14_init_109 (by decide) ?_
  refine pf_X14_53 F hB dX14_init_111 (by exact tD) ⟨by decide, by decide⟩ (fun H locs hBn => ?_)
  clear hB; have hB := hBn; clear hBn
  refine lv_aload_n hx hb dX14_init_114 rfl (lv_at hl 1 rfl) ?_
  have tA11 : sgT (sgPI (dvF (sgPR (sgNw (sgPI (sgPI (mdL eda (sgPR (sgNw (mdL eda (mdL eda (mdL eda (sgPR (sgNw (mdL eda σ a0 q5 1) q18 109 12) a0 2 (some q18)) a0 q25 3) a0 q36 4) a0 q47 5) q59 100 0) a0 6 (some q59)) a0 q65 8) a0 10 (-1)) a0 11 100) q89 100 16) a0 12 (some q89)) q94 e9 f9 h9 104 4 0 1 0) q94 6 99) a0 = 20 := (hO a0 (t_nz hM91.1 (by decide))).1.trans hM91.1
  have rA11 : sgR (sgPI (dvF (sgPR (sgNw (sgPI (sgPI (mdL eda (sgPR (sgNw (mdL eda (mdL eda (mdL eda (sgPR (sgNw (mdL eda σ a0 q5 1) q18 109 12) a0 2 (some q18)) a0 q25 3) a0 q36 4) a0 q47 5) q59 100 0) a0 6 (some q59)) a0 q65 8) a0 10 (-1)) a0 11 100) q89 100 16) a0 12 (some q89)) q94 e9 f9 h9 104 4 0 1 0) q94 6 99) a0 1 = some q5 := ((hO a0 (t_nz hM91.1 (by decide))).2.2 1).2.trans R1
  obtain ⟨-, td9, -, ld9, -⟩ := hM91.2.1 (q5, 5, 0) (by simp)
  have od := hO q5 (t_nz td9 (show (5 : Nat) ≠ 0 from by decide))
  have td11 : sgT (sgPI (dvF (sgPR (sgNw (sgPI (sgPI (mdL eda (sgPR (sgNw (mdL eda (mdL eda (mdL eda (sgPR (sgNw (mdL eda σ a0 q5 1) q18 109 12) a0 2 (some q18)) a0 q25 3) a0 q36 4) a0 q47 5) q59 100 0) a0 6 (some q59)) a0 q65 8) a0 10 (-1)) a0 11 100) q89 100 16) a0 12 (some q89)) q94 e9 f9 h9 104 4 0 1 0) q94 6 99) q5 = 5 := od.1.trans td9
  have zd11 : sgLz eda (sgPI (dvF (sgPR (sgNw (sgPI (sgPI (mdL eda (sgPR (sgNw (mdL eda (mdL eda (mdL eda (sgPR (sgNw (mdL eda σ a0 q5 1) q18 109 12) a0 2 (some q18)) a0 q25 3) a0 q36 4) a0 q47 5) q59 100 0) a0 6 (some q59)) a0 q65 8) a0 10 (-1)) a0 11 100) q89 100 16) a0 12 (some q89)) q94 e9 f9 h9 104 4 0 1 0) q94 6 99) q5 eda 0 := Or.inr ⟨td11, (od.2.2 1).2.trans (ld9 rfl).1, rfl, rfl, (congrArg Int32.toInt (od.2.2 2).1).trans (ld9 rfl).2⟩
  refine gr_X14_10 F hB dX14_init_115 (by exact tA11) (by exact rA11) ?_
  refine lv_aload_n hx hb dX14_init_118 rfl (lv_at hl 0 rfl) ?_
  refine sg_callV (ci := 4) F hB (m_add l D cy (by exact zd11) (fun j y z => by rw [sg_eda F hB] at z; exact absurd z (by decide)) q94 (Or.inr (Or.inl (by exact tD))) (by decide) _) (cwV 1 F.1.2.2.2.2 (mgV (mm_3 _ (List.mem_of_getElem? (i := 9) rfl)) (mm_3 _ (List.mem_of_getElem? (i := 10) rfl)) (mm_3 _ (List.mem_of_getElem? (i := 11) rfl)) (mm_0 _ (List.mem_of_getElem? (i := 35) rfl)) (mm_2 _ (List.mem_of_getElem? (i := 29) rfl))) rfl rfl rfl ⟨rfl, by decide, by decide, by decide +kernel⟩ ⟨Nat.le_of_ble_eq_true rfl, Nat.le_of_ble_eq_true rfl⟩) rfl rfl (by decide) rfl hl.1 rfl (Nat.le_of_ble_eq_true rfl) dX14_init_119 (Nat.le_of_ble_eq_true rfl) (Nat.add_le_add_right (Nat.le_of_ble_eq_true rfl) _) (by exact td11) (fun H locs v σ119 N hBn hX119 hP => ?_)
  clear hB; have hB := hBn; clear hBn
  obtain ⟨rfl, hAd⟩ := hP
  obtain ⟨hY9, hH9, hI9⟩ := inv_mk (ia := ia) hM91 R1 R2 R3 R4 R5 R6 R8 R12 I9 I10 I11 hO tD hE hF hH ⟨i0, i6, i7⟩ hnew hAd (sg_eda F hB)
  refine lv_pop hx hb dX14_init_122 rfl ?_
  exact sg_vret F hB hrt dX14_init_123 (by decide) (by decide) (⟨rfl, _, _, by rfl, ⟨hY9, hH9⟩, hI9⟩)
end MM41
