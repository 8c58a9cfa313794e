section MM40
theorem m_max0 {z : Int32} : 0 ≤ (if (0 : Int32) < z then z else 0).toInt := by
  by_cases q : (0 : Int32) < z
  · rw [if_pos q]
    have := i_lt q
    have e : (0 : Int32).toInt = 0 := rfl
    omega
  · rw [if_neg q]
    decide
theorem dX14_checksum_0 : decode cX14_checksum 0 = .ok (.aload_n 0, 1) := by decide +kernel
theorem dX14_checksum_1 : decode cX14_checksum 1 = .ok (.iconst 0, 1) := by decide +kernel
theorem dX14_checksum_2 : decode cX14_checksum 2 = .ok (.putfield 61, 3) := by decide +kernel
theorem dX14_checksum_5 : decode cX14_checksum 5 = .ok (.ldc2_w 411, 3) := by decide +kernel
theorem dX14_checksum_8 : decode cX14_checksum 8 = .ok (.lstore_n 1, 1) := by decide +kernel
theorem dX14_checksum_9 : decode cX14_checksum 9 = .ok (.aload_n 0, 1) := by decide +kernel
theorem dX14_checksum_10 : decode cX14_checksum 10 = .ok (.getfield 10, 3) := by decide +kernel
theorem dX14_checksum_13 : decode cX14_checksum 13 = .ok (.invokevirtual 108, 3) := by decide +kernel
theorem dX14_checksum_16 : decode cX14_checksum 16 = .ok (.astore_n 3, 1) := by decide +kernel
theorem dX14_checksum_17 : decode cX14_checksum 17 = .ok (.aload_n 3, 1) := by decide +kernel
theorem dX14_checksum_18 : decode cX14_checksum 18 = .ok (.invokeinterface 112 1, 5) := by decide +kernel
theorem dX14_checksum_23 : decode cX14_checksum 23 = .ok (.ifCond .eq 48, 3) := by decide +kernel
theorem dX14_checksum_26 : decode cX14_checksum 26 = .ok (.aload_n 3, 1) := by decide +kernel
theorem dX14_checksum_27 : decode cX14_checksum 27 = .ok (.invokeinterface 118 1, 5) := by decide +kernel
theorem dX14_checksum_32 : decode cX14_checksum 32 = .ok (.checkcast 48, 3) := by decide +kernel
theorem dX14_checksum_35 : decode cX14_checksum 35 = .ok (.astore 4, 2) := by decide +kernel
theorem dX14_checksum_37 : decode cX14_checksum 37 = .ok (.ldc2_w 413, 3) := by decide +kernel
theorem dX14_checksum_40 : decode cX14_checksum 40 = .ok (.lload_n 1, 1) := by decide +kernel
theorem dX14_checksum_41 : decode cX14_checksum 41 = .ok (.lmul, 1) := by decide +kernel
theorem dX14_checksum_42 : decode cX14_checksum 42 = .ok (.aload 4, 2) := by decide +kernel
theorem dX14_checksum_44 : decode cX14_checksum 44 = .ok (.getfield 53, 3) := by decide +kernel
theorem dX14_checksum_47 : decode cX14_checksum 47 = .ok (.i2l, 1) := by decide +kernel
theorem dX14_checksum_48 : decode cX14_checksum 48 = .ok (.ladd, 1) := by decide +kernel
theorem dX14_checksum_49 : decode cX14_checksum 49 = .ok (.aload 4, 2) := by decide +kernel
theorem dX14_checksum_51 : decode cX14_checksum 51 = .ok (.getfield 140, 3) := by decide +kernel
theorem dX14_checksum_54 : decode cX14_checksum 54 = .ok (.i2l, 1) := by decide +kernel
theorem dX14_checksum_55 : decode cX14_checksum 55 = .ok (.ladd, 1) := by decide +kernel
theorem dX14_checksum_56 : decode cX14_checksum 56 = .ok (.ldc2_w 415, 3) := by decide +kernel
theorem dX14_checksum_59 : decode cX14_checksum 59 = .ok (.aload 4, 2) := by decide +kernel
theorem dX14_checksum_61 : decode cX14_checksum 61 = .ok (.getfield 180, 3) := by decide +kernel
theorem dX14_checksum_64 : decode cX14_checksum 64 = .ok (.i2l, 1) := by decide +kernel
theorem dX14_checksum_65 : decode cX14_checksum 65 = .ok (.lmul, 1) := by decide +kernel
theorem dX14_checksum_66 : decode cX14_checksum 66 = .ok (.ladd, 1) := by decide +kernel
theorem dX14_checksum_67 : decode cX14_checksum 67 = .ok (.lstore_n 1, 1) := by decide +kernel
theorem dX14_checksum_68 : decode cX14_checksum 68 = .ok (.goto (-51), 3) := by decide +kernel
theorem dX14_checksum_71 : decode cX14_checksum 71 = .ok (.iconst 0, 1) := by decide +kernel
theorem dX14_checksum_72 : decode cX14_checksum 72 = .ok (.aload_n 0, 1) := by decide +kernel
theorem dX14_checksum_73 : decode cX14_checksum 73 = .ok (.getfield 35, 3) := by decide +kernel
theorem dX14_checksum_76 : decode cX14_checksum 76 = .ok (.invokevirtual 64, 3) := by decide +kernel
theorem dX14_checksum_79 : decode cX14_checksum 79 = .ok (.bipush 32, 2) := by decide +kernel
theorem dX14_checksum_81 : decode cX14_checksum 81 = .ok (.isub, 1) := by decide +kernel
theorem dX14_checksum_82 : decode cX14_checksum 82 = .ok (.invokestatic 251, 3) := by decide +kernel
theorem dX14_checksum_85 : decode cX14_checksum 85 = .ok (.istore_n 3, 1) := by decide +kernel
theorem dX14_checksum_86 : decode cX14_checksum 86 = .ok (.iload_n 3, 1) := by decide +kernel
theorem dX14_checksum_87 : decode cX14_checksum 87 = .ok (.aload_n 0, 1) := by decide +kernel
theorem dX14_checksum_88 : decode cX14_checksum 88 = .ok (.getfield 35, 3) := by decide +kernel
theorem dX14_checksum_91 : decode cX14_checksum 91 = .ok (.invokevirtual 64, 3) := by decide +kernel
theorem dX14_checksum_94 : decode cX14_checksum 94 = .ok (.if_icmp .ge 31, 3) := by decide +kernel
theorem dX14_checksum_97 : decode cX14_checksum 97 = .ok (.ldc2_w 413, 3) := by decide +kernel
theorem dX14_checksum_100 : decode cX14_checksum 100 = .ok (.lload_n 1, 1) := by decide +kernel
theorem dX14_checksum_101 : decode cX14_checksum 101 = .ok (.lmul, 1) := by decide +kernel
theorem dX14_checksum_102 : decode cX14_checksum 102 = .ok (.aload_n 0, 1) := by decide +kernel
theorem dX14_checksum_103 : decode cX14_checksum 103 = .ok (.getfield 35, 3) := by decide +kernel
theorem dX14_checksum_106 : decode cX14_checksum 106 = .ok (.iload_n 3, 1) := by decide +kernel
theorem dX14_checksum_107 : decode cX14_checksum 107 = .ok (.invokevirtual 76, 3) := by decide +kernel
theorem dX14_checksum_110 : decode cX14_checksum 110 = .ok (.checkcast 213, 3) := by decide +kernel
theorem dX14_checksum_113 : decode cX14_checksum 113 = .ok (.invokevirtual 222, 3) := by decide +kernel
theorem dX14_checksum_116 : decode cX14_checksum 116 = .ok (.i2l, 1) := by decide +kernel
theorem dX14_checksum_117 : decode cX14_checksum 117 = .ok (.ladd, 1) := by decide +kernel
theorem dX14_checksum_118 : decode cX14_checksum 118 = .ok (.lstore_n 1, 1) := by decide +kernel
theorem dX14_checksum_119 : decode cX14_checksum 119 = .ok (.iinc 3 1, 3) := by decide +kernel
theorem dX14_checksum_122 : decode cX14_checksum 122 = .ok (.goto (-36), 3) := by decide +kernel
theorem dX14_checksum_125 : decode cX14_checksum 125 = .ok (.lload_n 1, 1) := by decide +kernel
theorem dX14_checksum_126 : decode cX14_checksum 126 = .ok (.lreturn, 1) := by decide +kernel
set_option maxRecDepth 100000 in
set_option maxHeartbeats 4000000 in
theorem m_checksum (l : Launch) (D : va_G) (cy : Nat → ClassId) {eda ca : Nat} {ia : Nat → Nat} {σ : SG} {K : KM} {g : GH} {n S hw : Nat} (h : Inv eda ia K g n S hw σ) (sz : Nat) : sgM l D cy eda ca ia σ sz yX14_checksum (Cond.code yX14_checksum cX14_checksum 5 (some .long) :: mWall) 3 64 1 4 [.ref (kA K)] (fun v σ2 => (∃ y : Int64, v = some (.long y)) ∧ Inv eda ia K g n S hw σ2) := by
  refine sg_ofW (cc := cX14_checksum) (maxL := 5) (ret := (some .long)) (by decide) rfl (Nat.le_of_ble_eq_true rfl) (lv := [(0, .ref (kA K))]) rfl (fun p e s m below meth c ls H N hrt hnm F hB hl => ?_) sz
  have hx := F.1.1
  have hb := F.1.2.1
  have hown := F.1.2.2.2.1
  generalize hlo : ([] : List Loc) = locs at hB ⊢
  clear hlo
  refine lv_aload_n hx hb dX14_checksum_0 rfl (lv_at hl 0 rfl) ?_
  refine lv_iconst (v := 0) hx hb dX14_checksum_1 (by decide) ?_
  refine pf_X14_61 F hB dX14_checksum_2 (inv_A h) (fun H locs hBn => ?_)
  clear hB; have hB := hBn; clear hBn
  have hI2 := inv_PIc (t := 20) hB h (inv_A h) (by unfold iCn; omega)
  refine lv_ldc2 hx hb hown (F.1.2.2.2.2 _ (List.mem_cons_of_mem _ (mm_13 _ (List.mem_of_getElem? (i := 35) rfl)))) dX14_checksum_5 ?_
  refine lv_lstore_n (lv' := [(1, .long _), (0, .ref _)]) hx hb dX14_checksum_8 rfl hl (by decide) rfl (fun ls hl => ?_)
  refine lv_aload_n hx hb dX14_checksum_9 rfl (lv_at hl 1 rfl) ?_
  refine gr_X14_10 F hB dX14_checksum_10 (inv_A hI2) (inv_r1 hI2) ?_
  refine sg_callV (ci := 4) F hB (m_iter l D cy (by exact (inv_tD hI2).1) _) (cwV 0 F.1.2.2.2.2 (mgV (mm_5 _ (List.mem_of_getElem? (i := 6) rfl)) (mm_5 _ (List.mem_of_getElem? (i := 7) rfl)) (mm_5 _ (List.mem_of_getElem? (i := 8) rfl)) (mm_0 _ (List.mem_of_getElem? (i := 35) rfl)) (mm_4 _ (List.mem_of_getElem? (i := 32) rfl))) rfl rfl rfl ⟨rfl, by decide, by decide, by decide +kernel⟩ ⟨Nat.le_of_ble_eq_true rfl, Nat.le_of_ble_eq_true rfl⟩) rfl rfl (by decide) rfl hl.1 rfl (Nat.le_of_ble_eq_true rfl) dX14_checksum_13 (Nat.le_of_ble_eq_true rfl) (Nat.add_le_add_right (Nat.le_of_ble_eq_true rfl) _) (inv_tD hI2).1 (fun H locs v σ13 N hBn hX13 hP => ?_)
  clear hB; have hB := hBn; clear hBn
  obtain ⟨q13, rfl, hq13, hit13⟩ := hP
  have hI13 := inv_Qt hI2 hit13.1 (sg_eda F hB)
  have hf13 := itF_0 (inv_tD hI2).1 hit13
  refine lv_astore_n (lv' := [(3, .ref _), (1, .long _), (0, .ref _)]) hx hb dX14_checksum_16 rfl hl (by decide) rfl (fun ls hl => ?_)
  have key17 : ∃ (σ3 : SG) (j : Nat) (v1 : Int64), sgB D cy s σ σ3 H locs N 4 ∧ lv_has ls 5 [(3, .ref q13), (1, .long v1), (0, .ref (kA K))] ∧ Inv eda ia K g n S hw σ3 ∧ itF (kD K) q13 j σ3 := ⟨_, 0, _, hB, (lv_sub hl [0, 1, 2] rfl), hI13, hf13⟩
  clear hB hl
  obtain ⟨σ3, j, v1, hB, hl, hI3, hf3⟩ := key17
  obtain ⟨d17, hd17⟩ : ∃ d : Nat, d = sgSz σ3 (kD K) - j := ⟨_, rfl⟩
  induction d17 using Nat.strongRecOn generalizing H locs ls N σ3 j v1
  rename_i d17 ih17
  refine lv_aload_n hx hb dX14_checksum_17 rfl (lv_at hl 0 rfl) ?_
  refine sg_callF (ci := 3) F hB (m_hasN l D cy hI3 hf3 _) (va_cwF 0 F.1.2.2.2.2 (mgF (mm_5 _ (List.mem_of_getElem? (i := 9) rfl)) (mm_5 _ (List.mem_of_getElem? (i := 10) rfl)) (mm_5 _ (List.mem_of_getElem? (i := 11) rfl)) (mm_4 _ (List.mem_of_getElem? (i := 35) rfl)) (mm_4 _ (List.mem_of_getElem? (i := 38) rfl))) rfl rfl rfl F.2.2.2.1.2.2.2.2.2.2.1 (by decide +kernel) ⟨Nat.le_of_ble_eq_true rfl, Nat.le_of_ble_eq_true rfl⟩) rfl rfl (by decide) rfl hl.1 rfl (Nat.le_of_ble_eq_true rfl) dX14_checksum_18 (Nat.le_of_ble_eq_true rfl) (Nat.add_le_add_right (Nat.le_of_ble_eq_true rfl) _) hf3.1 (fun H locs v σ18 N hBn hX18 hP => ?_)
  clear hB; have hB := hBn; clear hBn
  obtain ⟨b18, rfl, rfl, hb18⟩ := hP
  refine lv_if_eq (tgt := 71) hx hb dX14_checksum_23 (by decide) (fun c23 => ?_) (fun c23 => ?_)
  · refine lv_iconst (v := 0) hx hb dX14_checksum_71 (by decide) ?_
    refine lv_aload_n hx hb dX14_checksum_72 rfl (lv_at hl 2 rfl) ?_
    refine gr_X14_35 F hB dX14_checksum_73 (inv_A hI3) (inv_r8 hI3) ?_
    refine sg_callV (ci := 4) F hB (m_size l D cy (by exact (inv_tG hI3).1) _) (cwV 0 F.1.2.2.2.2 (mgV (mm_3 _ (List.mem_of_getElem? (i := 18) rfl)) (mm_3 _ (List.mem_of_getElem? (i := 19) rfl)) (mm_3 _ (List.mem_of_getElem? (i := 20) rfl)) (mm_0 _ (List.mem_of_getElem? (i := 35) rfl)) (mm_3 _ (List.mem_of_getElem? (i := 16) rfl))) rfl rfl rfl ⟨rfl, by decide, by decide, by decide +kernel⟩ ⟨Nat.le_of_ble_eq_true rfl, Nat.le_of_ble_eq_true rfl⟩) rfl rfl (by decide) rfl hl.1 rfl (Nat.le_of_ble_eq_true rfl) dX14_checksum_76 (Nat.le_of_ble_eq_true rfl) (Nat.add_le_add_right (Nat.le_of_ble_eq_true rfl) _) (inv_tG hI3).1 (fun H locs v σ76 N hBn hX76 hP => ?_)
    clear hB; have hB := hBn; clear hBn
    obtain ⟨rfl, rfl⟩ := hP
    refine lv_bipush (v := 32) hx hb dX14_checksum_79 (by decide) ?_
    refine lv_isub hx hb dX14_checksum_81 ?_
    refine va_mmax hx hb (F.1.2.2.1.trans hl.1.symm) hown (F.1.2.2.2.2 _ (List.mem_cons_of_mem _ (mm_8 _ (List.mem_of_getElem? (i := 22) rfl)))) (F.1.2.2.2.2 _ (List.mem_cons_of_mem _ (mm_1 _ (List.mem_of_getElem? (i := 24) rfl)))) (F.1.2.2.2.2 _ (List.mem_cons_of_mem _ (mm_1 _ (List.mem_of_getElem? (i := 25) rfl)))) (F.1.2.2.2.2 _ (List.mem_cons_of_mem _ (mm_1 _ (List.mem_of_getElem? (i := 26) rfl)))) (Nat.le_of_ble_eq_true rfl) (Nat.le_of_ble_eq_true rfl) (Nat.le_of_ble_eq_true rfl) (Nat.le_trans (Nat.le_trans (Nat.le_add_right _ _) hB.2.2) (Nat.add_le_add_right (Nat.le_of_ble_eq_true rfl) _)) dX14_checksum_82 ?_
    refine lv_istore_n (lv' := [(3, .int _), (1, .long _), (0, .ref _)]) hx hb dX14_checksum_85 rfl hl (by decide) rfl (fun ls hl => ?_)
    have key86 : ∃ (i9 : Int32) (v9 : Int64), sgB D cy s σ σ3 H locs N 4 ∧ lv_has ls 5 [(3, .int i9), (1, .long v9), (0, .ref (kA K))] ∧ 0 ≤ i9.toInt := ⟨_, _, hB, (lv_sub hl [0, 1, 2] rfl), m_max0⟩
    clear hB hl
    obtain ⟨i9, v9, hB, hl, hi0⟩ := key86
    obtain ⟨d86, hd86⟩ : ∃ d : Nat, d = sgSz σ3 (kG K) - i9.toInt.toNat := ⟨_, rfl⟩
    induction d86 using Nat.strongRecOn generalizing H locs ls N i9 v9
    rename_i d86 ih86
    obtain ⟨zg1, zg2⟩ := inv_szG hI3
    have zg3 := (inv_M hI3).2.2.2.2
    refine lv_iload_n hx hb dX14_checksum_86 rfl (lv_at hl 0 rfl) ?_
    refine lv_aload_n hx hb dX14_checksum_87 rfl (lv_at hl 2 rfl) ?_
    refine gr_X14_35 F hB dX14_checksum_88 (inv_A hI3) (inv_r8 hI3) ?_
    refine sg_callV (ci := 4) F hB (m_size l D cy (by exact (inv_tG hI3).1) _) (cwV 0 F.1.2.2.2.2 (mgV (mm_3 _ (List.mem_of_getElem? (i := 18) rfl)) (mm_3 _ (List.mem_of_getElem? (i := 19) rfl)) (mm_3 _ (List.mem_of_getElem? (i := 20) rfl)) (mm_0 _ (List.mem_of_getElem? (i := 35) rfl)) (mm_3 _ (List.mem_of_getElem? (i := 16) rfl))) rfl rfl rfl ⟨rfl, by decide, by decide, by decide +kernel⟩ ⟨Nat.le_of_ble_eq_true rfl, Nat.le_of_ble_eq_true rfl⟩) rfl rfl (by decide) rfl hl.1 rfl (Nat.le_of_ble_eq_true rfl) dX14_checksum_91 (Nat.le_of_ble_eq_true rfl) (Nat.add_le_add_right (Nat.le_of_ble_eq_true rfl) _) (inv_tG hI3).1 (fun H locs v σ91 N hBn hX91 hP => ?_)
    clear hB; have hB := hBn; clear hBn
    obtain ⟨rfl, rfl⟩ := hP
    refine lv_icmp_ge (tgt := 125) hx hb dX14_checksum_94 (by decide) (fun c94 => ?_) (fun c94 => ?_)
    · refine lv_lload_n hx hb dX14_checksum_125 rfl (lv_at hl 1 rfl) ?_
      exact sg_lret F hB hrt dX14_checksum_126 (by decide) (by decide) (⟨⟨_, rfl⟩, hI3⟩)
    · have hi4 := i_nle c94
      rw [zg1] at hi4
      have hi7 : i9.toInt < sgSz σ3 (kG K) := hi4
      obtain ⟨yb, hy8, hyE⟩ := inv_L hI3 (kG K) (inv_tG hI3).1 i9.toInt.toNat (by omega)
      have hbx : sgBx ia σ3 yb := by
        unfold iEl at hyE
        rw [(inv_tG hI3).2] at hyE
        exact hyE
      refine lv_ldc2 hx hb hown (F.1.2.2.2.2 _ (List.mem_cons_of_mem _ (mm_13 _ (List.mem_of_getElem? (i := 36) rfl)))) dX14_checksum_97 ?_
      refine lv_lload_n hx hb dX14_checksum_100 rfl (lv_at hl 1 rfl) ?_
      refine lv_lmul hx hb dX14_checksum_101 ?_
      refine lv_aload_n hx hb dX14_checksum_102 rfl (lv_at hl 2 rfl) ?_
      refine gr_X14_35 F hB dX14_checksum_103 (inv_A hI3) (inv_r8 hI3) ?_
      refine lv_iload_n hx hb dX14_checksum_106 rfl (lv_at hl 0 rfl) ?_
      refine sg_callV (ci := 4) F hB (m_getL l D cy (inv_LS hI3) (by exact (inv_tG hI3).1) id i9 hi0 hi7 hy8 _) (cwV 1 F.1.2.2.2.2 (mgV (mm_4 _ (List.mem_of_getElem? (i := 3) rfl)) (mm_4 _ (List.mem_of_getElem? (i := 4) rfl)) (mm_4 _ (List.mem_of_getElem? (i := 5) rfl)) (mm_0 _ (List.mem_of_getElem? (i := 35) rfl)) (mm_3 _ (List.mem_of_getElem? (i := 34) rfl))) rfl rfl rfl ⟨rfl, by decide, by decide, by decide +kernel⟩ ⟨Nat.le_of_ble_eq_true rfl, Nat.le_of_ble_eq_true rfl⟩) rfl rfl (by decide) rfl hl.1 rfl (Nat.le_of_ble_eq_true rfl) dX14_checksum_107 (Nat.le_of_ble_eq_true rfl) (Nat.add_le_add_right (Nat.le_of_ble_eq_true rfl) _) (inv_tG hI3).1 (fun H locs v σ107 N hBn hX107 hP => ?_)
      clear hB; have hB := hBn; clear hBn
      obtain ⟨rfl, rfl⟩ := hP
      refine va_castY hx hb hown (F.1.2.2.2.2 _ (List.mem_cons_of_mem _ (mm_8 _ (List.mem_of_getElem? (i := 3) rfl)))) (F.2.2.1.2.2 ("java/lang/Integer", "java/lang/Integer") (by decide +kernel)) (sg_rbx F hB hbx) dX14_checksum_110 ?_
      refine sg_callVr F hB (m_unbox l D cy (by exact hbx) _) (cwV 0 F.1.2.2.2.2 (mgV (mm_8 _ (List.mem_of_getElem? (i := 5) rfl)) (mm_8 _ (List.mem_of_getElem? (i := 6) rfl)) (mm_8 _ (List.mem_of_getElem? (i := 7) rfl)) (mm_7 _ (List.mem_of_getElem? (i := 30) rfl)) (mm_8 _ (List.mem_of_getElem? (i := 1) rfl))) rfl rfl rfl ⟨rfl, by decide, by decide, by decide +kernel⟩ ⟨Nat.le_of_ble_eq_true rfl, Nat.le_of_ble_eq_true rfl⟩) rfl hl.1 rfl (Nat.le_of_ble_eq_true rfl) dX14_checksum_113 (Nat.le_of_ble_eq_true rfl) (Nat.add_le_add_right (Nat.le_of_ble_eq_true rfl) _) (sg_rbx F hB hbx) (fun H locs v σ113 N hBn hX113 hP => ?_)
      clear hB; have hB := hBn; clear hBn
      obtain ⟨⟨w, rfl⟩, rfl⟩ := hP
      refine lv_i2l hx hb dX14_checksum_116 rfl ?_
      refine lv_ladd hx hb dX14_checksum_117 ?_
      refine lv_lstore_n (lv' := [(1, .long _), (3, .int _), (0, .ref _)]) hx hb dX14_checksum_118 rfl hl (by decide) rfl (fun ls hl => ?_)
      refine lv_iinc (lv' := [(3, .int _), (1, .long _), (0, .ref _)]) hx hb dX14_checksum_119 hl (k := 1) rfl rfl (by decide) rfl (fun ls hl => ?_)
      refine lv_goto (tgt := 86) hx hb dX14_checksum_122 (by decide) ?_
      have e8 : (i9 + Int32.ofInt 1).toInt = i9.toInt + 1 := m_add1 (by omega) (by omega)
      exact ih86 _ (by subst hd86; rw [e8]; omega) _ _ _ _ _ _ hB (lv_sub hl [0, 1, 2] rfl) (by rw [e8]; omega) rfl
  · refine lv_aload_n hx hb dX14_checksum_26 rfl (lv_at hl 0 rfl) ?_
    refine sg_callF (ci := 3) F hB (m_nextI l D cy hI3 hf3 (sgb_t hb18 c23) _) (va_cwF 0 F.1.2.2.2.2 (mgF (mm_5 _ (List.mem_of_getElem? (i := 12) rfl)) (mm_5 _ (List.mem_of_getElem? (i := 13) rfl)) (mm_5 _ (List.mem_of_getElem? (i := 14) rfl)) (mm_4 _ (List.mem_of_getElem? (i := 35) rfl)) (mm_5 _ (List.mem_of_getElem? (i := 1) rfl))) rfl rfl rfl F.2.2.2.1.2.2.2.2.2.2.2.1 (by decide +kernel) ⟨Nat.le_of_ble_eq_true rfl, Nat.le_of_ble_eq_true rfl⟩) rfl rfl (by decide) rfl hl.1 rfl (Nat.le_of_ble_eq_true rfl) dX14_checksum_27 (Nat.le_of_ble_eq_true rfl) (Nat.add_le_add_right (Nat.le_of_ble_eq_true rfl) _) hf3.1 (fun H locs v σ27 N hBn hX27 hP => ?_)
    clear hB; have hB := hBn; clear hBn
    obtain ⟨y27, rfl, ha27, hE27, hI27, hf27, hs27⟩ := hP
    have ty27 : sgT σ27 y27 = 16 := by
      unfold iEl at hE27
      rw [(inv_tD hI3).2] at hE27
      rw [← hs27]
      exact hE27.1
    refine va_castY hx hb hown (F.1.2.2.2.2 _ (List.mem_cons_of_mem _ (mm_4 _ (List.mem_of_getElem? (i := 2) rfl)))) (F.2.2.1.2.2 ("HubcascadeModel$Device", "HubcascadeModel$Device") (by decide +kernel)) (sg_recv (ci := 15) F.2.1 hB ty27 (by decide) rfl) dX14_checksum_32 ?_
    refine lv_astore (lv' := [(4, .ref _), (3, .ref _), (1, .long _), (0, .ref _)]) hx hb dX14_checksum_35 hl (by decide) rfl (fun ls hl => ?_)
    refine lv_ldc2 hx hb hown (F.1.2.2.2.2 _ (List.mem_cons_of_mem _ (mm_13 _ (List.mem_of_getElem? (i := 36) rfl)))) dX14_checksum_37 ?_
    refine lv_lload_n hx hb dX14_checksum_40 rfl (lv_at hl 2 rfl) ?_
    refine lv_lmul hx hb dX14_checksum_41 ?_
    refine lv_aload hx hb dX14_checksum_42 (lv_at hl 0 rfl) ?_
    refine gf_X14_53 F hB dX14_checksum_44 ty27 ?_
    refine lv_i2l hx hb dX14_checksum_47 rfl ?_
    refine lv_ladd hx hb dX14_checksum_48 ?_
    refine lv_aload hx hb dX14_checksum_49 (lv_at hl 0 rfl) ?_
    refine gf_X14_140 F hB dX14_checksum_51 ty27 ?_
    refine lv_i2l hx hb dX14_checksum_54 rfl ?_
    refine lv_ladd hx hb dX14_checksum_55 ?_
    refine lv_ldc2 hx hb hown (F.1.2.2.2.2 _ (List.mem_cons_of_mem _ (mm_13 _ (List.mem_of_getElem? (i := 37) rfl)))) dX14_checksum_56 ?_
    refine lv_aload hx hb dX14_checksum_59 (lv_at hl 0 rfl) ?_
    refine gf_X14_180 F hB dX14_checksum_61 ty27 ?_
    refine lv_i2l hx hb dX14_checksum_64 rfl ?_
    refine lv_lmul hx hb dX14_checksum_65 ?_
    refine lv_ladd hx hb dX14_checksum_66 ?_
    refine lv_lstore_n (lv' := [(1, .long _), (4, .ref _), (3, .ref _), (0, .ref _)]) hx hb dX14_checksum_67 rfl hl (by decide) rfl (fun ls hl => ?_)
    refine lv_goto (tgt := 17) hx hb dX14_checksum_68 (by decide) ?_
    exact ih17 _ (by subst hd17; have := sgb_t hb18 c23; have e9 : sgSz σ27 (kD K) = sgSz σ3 (kD K) := (by rw [← hs27, sgSz_nk (by decide), sgSz_nk (by decide)]); omega) _ _ _ _ _ _ _ hB (lv_sub hl [2, 0, 3] rfl) hI27 hf27 rfl
end MM40
