section MM35
theorem dX14_endpoint_0 : decode cX14_endpoint 0 = .ok (.aload_n 0, 1) := by decide +kernel
theorem dX14_endpoint_1 : decode cX14_endpoint 1 = .ok (.iload_n 1, 1) := by decide +kernel
theorem dX14_endpoint_2 : decode cX14_endpoint 2 = .ok (.invokevirtual 90, 3) := by decide +kernel
theorem dX14_endpoint_5 : decode cX14_endpoint 5 = .ok (.ifCond .eq 5, 3) := by decide +kernel
theorem dX14_endpoint_8 : decode cX14_endpoint 8 = .ok (.iconst 0, 1) := by decide +kernel
theorem dX14_endpoint_9 : decode cX14_endpoint 9 = .ok (.ireturn, 1) := by decide +kernel
theorem dX14_endpoint_10 : decode cX14_endpoint 10 = .ok (.aload_n 0, 1) := by decide +kernel
theorem dX14_endpoint_11 : decode cX14_endpoint 11 = .ok (.getfield 10, 3) := by decide +kernel
theorem dX14_endpoint_14 : decode cX14_endpoint 14 = .ok (.iload_n 1, 1) := by decide +kernel
theorem dX14_endpoint_15 : decode cX14_endpoint 15 = .ok (.invokevirtual 76, 3) := by decide +kernel
theorem dX14_endpoint_18 : decode cX14_endpoint 18 = .ok (.checkcast 48, 3) := by decide +kernel
theorem dX14_endpoint_21 : decode cX14_endpoint 21 = .ok (.astore 5, 2) := by decide +kernel
theorem dX14_endpoint_23 : decode cX14_endpoint 23 = .ok (.aload_n 0, 1) := by decide +kernel
theorem dX14_endpoint_24 : decode cX14_endpoint 24 = .ok (.iload_n 2, 1) := by decide +kernel
theorem dX14_endpoint_25 : decode cX14_endpoint 25 = .ok (.iconst 1, 1) := by decide +kernel
theorem dX14_endpoint_26 : decode cX14_endpoint 26 = .ok (.iconst 3, 1) := by decide +kernel
theorem dX14_endpoint_27 : decode cX14_endpoint 27 = .ok (.invokestatic 68, 3) := by decide +kernel
theorem dX14_endpoint_30 : decode cX14_endpoint 30 = .ok (.ifCond .eq 14, 3) := by decide +kernel
theorem dX14_endpoint_33 : decode cX14_endpoint 33 = .ok (.iload 4, 2) := by decide +kernel
theorem dX14_endpoint_35 : decode cX14_endpoint 35 = .ok (.iconst 1, 1) := by decide +kernel
theorem dX14_endpoint_36 : decode cX14_endpoint 36 = .ok (.bipush 8, 2) := by decide +kernel
theorem dX14_endpoint_38 : decode cX14_endpoint 38 = .ok (.invokestatic 68, 3) := by decide +kernel
theorem dX14_endpoint_41 : decode cX14_endpoint 41 = .ok (.ifCond .ne 7, 3) := by decide +kernel
theorem dX14_endpoint_44 : decode cX14_endpoint 44 = .ok (.iconst 2, 1) := by decide +kernel
theorem dX14_endpoint_45 : decode cX14_endpoint 45 = .ok (.goto 26, 3) := by decide +kernel
theorem dX14_endpoint_48 : decode cX14_endpoint 48 = .ok (.aload_n 0, 1) := by decide +kernel
theorem dX14_endpoint_49 : decode cX14_endpoint 49 = .ok (.iload_n 1, 1) := by decide +kernel
theorem dX14_endpoint_50 : decode cX14_endpoint 50 = .ok (.invokevirtual 93, 3) := by decide +kernel
theorem dX14_endpoint_53 : decode cX14_endpoint 53 = .ok (.ifCond .ne 13, 3) := by decide +kernel
theorem dX14_endpoint_56 : decode cX14_endpoint 56 = .ok (.aload 5, 2) := by decide +kernel
theorem dX14_endpoint_58 : decode cX14_endpoint 58 = .ok (.getfield 96, 3) := by decide +kernel
theorem dX14_endpoint_61 : decode cX14_endpoint 61 = .ok (.iload_n 2, 1) := by decide +kernel
theorem dX14_endpoint_62 : decode cX14_endpoint 62 = .ok (.aaload, 1) := by decide +kernel
theorem dX14_endpoint_63 : decode cX14_endpoint 63 = .ok (.ifnull 7, 3) := by decide +kernel
theorem dX14_endpoint_66 : decode cX14_endpoint 66 = .ok (.iconst 3, 1) := by decide +kernel
theorem dX14_endpoint_67 : decode cX14_endpoint 67 = .ok (.goto 4, 3) := by decide +kernel
theorem dX14_endpoint_70 : decode cX14_endpoint 70 = .ok (.iconst 0, 1) := by decide +kernel
theorem dX14_endpoint_71 : decode cX14_endpoint 71 = .ok (.putfield 61, 3) := by decide +kernel
theorem dX14_endpoint_74 : decode cX14_endpoint 74 = .ok (.aload_n 0, 1) := by decide +kernel
theorem dX14_endpoint_75 : decode cX14_endpoint 75 = .ok (.getfield 61, 3) := by decide +kernel
theorem dX14_endpoint_78 : decode cX14_endpoint 78 = .ok (.ifCond .le 5, 3) := by decide +kernel
theorem dX14_endpoint_81 : decode cX14_endpoint 81 = .ok (.iconst 0, 1) := by decide +kernel
theorem dX14_endpoint_82 : decode cX14_endpoint 82 = .ok (.ireturn, 1) := by decide +kernel
theorem dX14_endpoint_83 : decode cX14_endpoint 83 = .ok (.aload 5, 2) := by decide +kernel
theorem dX14_endpoint_85 : decode cX14_endpoint 85 = .ok (.getfield 96, 3) := by decide +kernel
theorem dX14_endpoint_88 : decode cX14_endpoint 88 = .ok (.iload_n 2, 1) := by decide +kernel
theorem dX14_endpoint_89 : decode cX14_endpoint 89 = .ok (.new 100, 3) := by decide +kernel
theorem dX14_endpoint_92 : decode cX14_endpoint 92 = .ok (.dup, 1) := by decide +kernel
theorem dX14_endpoint_93 : decode cX14_endpoint 93 = .ok (.iload_n 3, 1) := by decide +kernel
theorem dX14_endpoint_94 : decode cX14_endpoint 94 = .ok (.iload 4, 2) := by decide +kernel
theorem dX14_endpoint_96 : decode cX14_endpoint 96 = .ok (.invokespecial 102, 3) := by decide +kernel
theorem dX14_endpoint_99 : decode cX14_endpoint 99 = .ok (.aastore, 1) := by decide +kernel
theorem dX14_endpoint_100 : decode cX14_endpoint 100 = .ok (.iconst 0, 1) := by decide +kernel
theorem dX14_endpoint_101 : decode cX14_endpoint 101 = .ok (.istore 6, 2) := by decide +kernel
theorem dX14_endpoint_103 : decode cX14_endpoint 103 = .ok (.aload 5, 2) := by decide +kernel
theorem dX14_endpoint_105 : decode cX14_endpoint 105 = .ok (.getfield 96, 3) := by decide +kernel
theorem dX14_endpoint_108 : decode cX14_endpoint 108 = .ok (.astore 7, 2) := by decide +kernel
theorem dX14_endpoint_110 : decode cX14_endpoint 110 = .ok (.aload 7, 2) := by decide +kernel
theorem dX14_endpoint_112 : decode cX14_endpoint 112 = .ok (.arraylength, 1) := by decide +kernel
theorem dX14_endpoint_113 : decode cX14_endpoint 113 = .ok (.istore 8, 2) := by decide +kernel
theorem dX14_endpoint_115 : decode cX14_endpoint 115 = .ok (.iconst 0, 1) := by decide +kernel
theorem dX14_endpoint_116 : decode cX14_endpoint 116 = .ok (.istore 9, 2) := by decide +kernel
theorem dX14_endpoint_118 : decode cX14_endpoint 118 = .ok (.iload 9, 2) := by decide +kernel
theorem dX14_endpoint_120 : decode cX14_endpoint 120 = .ok (.iload 8, 2) := by decide +kernel
theorem dX14_endpoint_122 : decode cX14_endpoint 122 = .ok (.if_icmp .ge 31, 3) := by decide +kernel
theorem dX14_endpoint_125 : decode cX14_endpoint 125 = .ok (.aload 7, 2) := by decide +kernel
theorem dX14_endpoint_127 : decode cX14_endpoint 127 = .ok (.iload 9, 2) := by decide +kernel
theorem dX14_endpoint_129 : decode cX14_endpoint 129 = .ok (.aaload, 1) := by decide +kernel
theorem dX14_endpoint_130 : decode cX14_endpoint 130 = .ok (.astore 10, 2) := by decide +kernel
theorem dX14_endpoint_132 : decode cX14_endpoint 132 = .ok (.iload 6, 2) := by decide +kernel
theorem dX14_endpoint_134 : decode cX14_endpoint 134 = .ok (.aload 10, 2) := by decide +kernel
theorem dX14_endpoint_136 : decode cX14_endpoint 136 = .ok (.ifnonnull 7, 3) := by decide +kernel
theorem dX14_endpoint_139 : decode cX14_endpoint 139 = .ok (.iconst 0, 1) := by decide +kernel
theorem dX14_endpoint_140 : decode cX14_endpoint 140 = .ok (.goto 4, 3) := by decide +kernel
theorem dX14_endpoint_143 : decode cX14_endpoint 143 = .ok (.iconst 1, 1) := by decide +kernel
theorem dX14_endpoint_144 : decode cX14_endpoint 144 = .ok (.iadd, 1) := by decide +kernel
theorem dX14_endpoint_145 : decode cX14_endpoint 145 = .ok (.istore 6, 2) := by decide +kernel
theorem dX14_endpoint_147 : decode cX14_endpoint 147 = .ok (.iinc 9 1, 3) := by decide +kernel
theorem dX14_endpoint_150 : decode cX14_endpoint 150 = .ok (.goto (-32), 3) := by decide +kernel
theorem dX14_endpoint_153 : decode cX14_endpoint 153 = .ok (.iload 6, 2) := by decide +kernel
theorem dX14_endpoint_155 : decode cX14_endpoint 155 = .ok (.ireturn, 1) := by decide +kernel
set_option maxRecDepth 100000 in
set_option maxHeartbeats 4000000 in
theorem m_endpoint (l : Launch) (D : va_G) (cy : Nat → ClassId) {eda ca : Nat} {ia : Nat → Nat} {σ : SG} {K : KM} {g : GH} {n S hw : Nat} (h : Inv eda ia K g n S hw σ) (hY : nY g) (hH : nH g) (x j i3 gr : Int32) (hin : 0 ≤ i3.toInt ∧ i3.toInt ≤ 1) (sz : Nat) : sgM l D cy eda ca ia σ sz yX14_endpoint (Cond.code yX14_endpoint cX14_endpoint 11 (some .int) :: mWall) 5 96 2 8 [.ref (kA K), .int x, .int j, .int i3, .int gr] (fun v σ2 => (∃ y : Int32, v = some (.int y)) ∧ ∃ g2, (nY g2 ∧ nH g2) ∧ Inv eda ia K g2 n S hw σ2) := by
  refine sg_ofW (cc := cX14_endpoint) (maxL := 11) (ret := (some .int)) (by decide) rfl (Nat.le_of_ble_eq_true rfl) (lv := [(0, .ref (kA K)), (1, .int x), (2, .int j), (3, .int i3), (4, .int gr)]) rfl (fun p e s m below meth c ls H N hrt hnm F hB hl => ?_) sz
  have hx := F.1.1
  have hb := F.1.2.1
  have hown := F.1.2.2.2.1
  obtain ⟨z1, z2, z3⟩ := inv_sz h
  have m1 : (1 : Int32).toInt = 1 := rfl
  have m3 : (3 : Int32).toInt = 3 := rfl
  have m8 : (8 : Int32).toInt = 8 := rfl
  generalize hlo : ([] : List Loc) = locs at hB ⊢
  clear hlo
  refine lv_aload_n hx hb dX14_endpoint_0 rfl (lv_at hl 0 rfl) ?_
  refine lv_iload_n hx hb dX14_endpoint_1 rfl (lv_at hl 1 rfl) ?_
  refine sg_callV (ci := 19) F hB (m_noDevice l D cy h x _) (cwV 1 F.1.2.2.2.2 (mgV (mm_4 _ (List.mem_of_getElem? (i := 17) rfl)) (mm_4 _ (List.mem_of_getElem? (i := 18) rfl)) (mm_4 _ (List.mem_of_getElem? (i := 19) rfl)) (mm_3 _ (List.mem_of_getElem? (i := 23) rfl)) (mm_3 _ (List.mem_of_getElem? (i := 24) rfl))) rfl rfl rfl ⟨rfl, by decide, by decide, by decide +kernel⟩ ⟨Nat.le_of_ble_eq_true rfl, Nat.le_of_ble_eq_true rfl⟩) rfl rfl (by decide) rfl hl.1 rfl (Nat.le_of_ble_eq_true rfl) dX14_endpoint_2 (Nat.le_of_ble_eq_true rfl) (Nat.add_le_add_right (Nat.le_of_ble_eq_true rfl) _) (inv_A h) (fun H locs v σ2 N hBn hX2 hP => ?_)
  clear hB; have hB := hBn; clear hBn
  obtain ⟨y2, b2, rfl, rfl, hb2⟩ := hP
  have hI2 := inv_th h y2
  refine lv_if_eq (tgt := 10) hx hb dX14_endpoint_5 (by decide) (fun c5 => ?_) (fun c5 => ?_)
  · obtain ⟨hx1, hx2⟩ := Decidable.not_not.mp (sgb_f hb2 c5)
    obtain ⟨e9, f9, l9, en1, en2, en3, en4, en5, -⟩ := inv_ends hI2 (k := x.toInt.toNat) (by omega)
    refine lv_aload_n hx hb dX14_endpoint_10 rfl (lv_at hl 0 rfl) ?_
    refine gr_X14_10 F hB dX14_endpoint_11 (inv_A hI2) (inv_r1 hI2) ?_
    refine lv_iload_n hx hb dX14_endpoint_14 rfl (lv_at hl 1 rfl) ?_
    refine sg_callV (ci := 4) F hB (m_getD l D cy hI2 x (by omega) (by omega) _) (cwV 1 F.1.2.2.2.2 (mgV (mm_4 _ (List.mem_of_getElem? (i := 3) rfl)) (mm_4 _ (List.mem_of_getElem? (i := 4) rfl)) (mm_4 _ (List.mem_of_getElem? (i := 5) rfl)) (mm_0 _ (List.mem_of_getElem? (i := 35) rfl)) (mm_3 _ (List.mem_of_getElem? (i := 34) rfl))) rfl rfl rfl ⟨rfl, by decide, by decide, by decide +kernel⟩ ⟨Nat.le_of_ble_eq_true rfl, Nat.le_of_ble_eq_true rfl⟩) rfl rfl (by decide) rfl hl.1 rfl (Nat.le_of_ble_eq_true rfl) dX14_endpoint_15 (Nat.le_of_ble_eq_true rfl) (Nat.add_le_add_right (Nat.le_of_ble_eq_true rfl) _) (inv_tD hI2).1 (fun H locs v σ15 N hBn hX15 hP => ?_)
    clear hB; have hB := hBn; clear hBn
    obtain ⟨rfl, rfl⟩ := hP
    have dv15 := (inv_dv hI2 (k := (x : Int32).toInt.toNat) (by omega)).2.1
    refine va_castY hx hb hown (F.1.2.2.2.2 _ (List.mem_cons_of_mem _ (mm_4 _ (List.mem_of_getElem? (i := 2) rfl)))) (F.2.2.1.2.2 ("HubcascadeModel$Device", "HubcascadeModel$Device") (by decide +kernel)) (sg_recv (ci := 15) F.2.1 hB (by assumption) (by decide) rfl) dX14_endpoint_18 ?_
    refine lv_astore (lv' := [(5, .ref _), (0, .ref _), (1, .int _), (2, .int _), (3, .int _), (4, .int _)]) hx hb dX14_endpoint_21 hl (by decide) rfl (fun ls hl => ?_)
    refine lv_aload_n hx hb dX14_endpoint_23 rfl (lv_at hl 1 rfl) ?_
    refine lv_iload_n hx hb dX14_endpoint_24 rfl (lv_at hl 3 rfl) ?_
    refine lv_iconst (v := 1) hx hb dX14_endpoint_25 (by decide) ?_
    refine lv_iconst (v := 3) hx hb dX14_endpoint_26 (by decide) ?_
    refine sg_callS F hB (m_in l D cy j 1 3 _) (cwS 3 F.1.2.2.2.2 (mgS (mm_3 _ (List.mem_of_getElem? (i := 21) rfl)) (mm_3 _ (List.mem_of_getElem? (i := 22) rfl)) (mm_3 _ (List.mem_of_getElem? (i := 23) rfl)) (mm_1 _ (List.mem_of_getElem? (i := 19) rfl))) rfl rfl rfl ⟨rfl, by decide, by decide, by decide +kernel⟩ ⟨Nat.le_of_ble_eq_true rfl, Nat.le_of_ble_eq_true rfl⟩) rfl hl.1 rfl (Nat.le_of_ble_eq_true rfl) dX14_endpoint_27 (Nat.le_of_ble_eq_true rfl) (Nat.add_le_add_right (Nat.le_of_ble_eq_true rfl) _)  (fun H locs v σ27 N hBn hX27 hP => ?_)
    clear hB; have hB := hBn; clear hBn
    obtain ⟨b27, rfl, rfl, hb27⟩ := hP
    refine lv_if_eq (tgt := 44) hx hb dX14_endpoint_30 (by decide) (fun c30 => ?_) (fun c30 => ?_)
    · refine lv_iconst (v := 2) hx hb dX14_endpoint_44 (by decide) ?_
      refine lv_goto (tgt := 71) hx hb dX14_endpoint_45 (by decide) ?_
      refine pf_X14_61 F hB dX14_endpoint_71 (inv_A hI2) (fun H locs hBn => ?_)
      clear hB; have hB := hBn; clear hBn
      have hI71 := inv_PIc (t := 20) hB hI2 (inv_A hI2) (by unfold iCn; omega)
      refine lv_aload_n hx hb dX14_endpoint_74 rfl (lv_at hl 1 rfl) ?_
      refine gf_X14_61 F hB dX14_endpoint_75 (inv_A hI71) ?_
      rw [sgI_PI, if_pos ⟨rfl, rfl⟩]
      refine lv_if_le (tgt := 83) hx hb dX14_endpoint_78 (by decide) (fun c78 => (by first | exact absurd c78 (by decide) | exact (c78 (by decide)).elim)) (fun c78 => ?_)
      refine lv_iconst (v := 0) hx hb dX14_endpoint_81 (by decide) ?_
      exact sg_iret F hB hrt dX14_endpoint_82 (by decide) (by decide) (⟨⟨_, rfl⟩, g, ⟨hY, hH⟩, hI71⟩)
    · have hj := sgb_t hb27 c30
      rw [m1, m3] at hj
      refine lv_iload hx hb dX14_endpoint_33 (lv_at hl 5 rfl) ?_
      refine lv_iconst (v := 1) hx hb dX14_endpoint_35 (by decide) ?_
      refine lv_bipush (v := 8) hx hb dX14_endpoint_36 (by decide) ?_
      refine sg_callS F hB (m_in l D cy gr 1 8 _) (cwS 3 F.1.2.2.2.2 (mgS (mm_3 _ (List.mem_of_getElem? (i := 21) rfl)) (mm_3 _ (List.mem_of_getElem? (i := 22) rfl)) (mm_3 _ (List.mem_of_getElem? (i := 23) rfl)) (mm_1 _ (List.mem_of_getElem? (i := 19) rfl))) rfl rfl rfl ⟨rfl, by decide, by decide, by decide +kernel⟩ ⟨Nat.le_of_ble_eq_true rfl, Nat.le_of_ble_eq_true rfl⟩) rfl hl.1 rfl (Nat.le_of_ble_eq_true rfl) dX14_endpoint_38 (Nat.le_of_ble_eq_true rfl) (Nat.add_le_add_right (Nat.le_of_ble_eq_true rfl) _)  (fun H locs v σ38 N hBn hX38 hP => ?_)
      clear hB; have hB := hBn; clear hBn
      obtain ⟨b38, rfl, rfl, hb38⟩ := hP
      refine lv_if_ne (tgt := 48) hx hb dX14_endpoint_41 (by decide) (fun c41 => ?_) (fun c41 => ?_)
      · refine lv_aload_n hx hb dX14_endpoint_48 rfl (lv_at hl 1 rfl) ?_
        refine lv_iload_n hx hb dX14_endpoint_49 rfl (lv_at hl 2 rfl) ?_
        refine sg_callV (ci := 19) F hB (m_isPlugged l D cy hI2 x hx1 hx2 _) (cwV 1 F.1.2.2.2.2 (mgV (mm_4 _ (List.mem_of_getElem? (i := 20) rfl)) (mm_4 _ (List.mem_of_getElem? (i := 21) rfl)) (mm_4 _ (List.mem_of_getElem? (i := 22) rfl)) (mm_3 _ (List.mem_of_getElem? (i := 23) rfl)) (mm_4 _ (List.mem_of_getElem? (i := 6) rfl))) rfl rfl rfl ⟨rfl, by decide, by decide, by decide +kernel⟩ ⟨Nat.le_of_ble_eq_true rfl, Nat.le_of_ble_eq_true rfl⟩) rfl rfl (by decide) rfl hl.1 rfl (Nat.le_of_ble_eq_true rfl) dX14_endpoint_50 (Nat.le_of_ble_eq_true rfl) (Nat.add_le_add_right (Nat.le_of_ble_eq_true rfl) _) (inv_A hI2) (fun H locs v σ50 N hBn hX50 hP => ?_)
        clear hB; have hB := hBn; clear hBn
        obtain ⟨b50, rfl, rfl, hb50⟩ := hP
        refine lv_if_ne (tgt := 66) hx hb dX14_endpoint_53 (by decide) (fun c53 => ?_) (fun c53 => ?_)
        · refine lv_iconst (v := 3) hx hb dX14_endpoint_66 (by decide) ?_
          refine lv_goto (tgt := 71) hx hb dX14_endpoint_67 (by decide) ?_
          refine pf_X14_61 F hB dX14_endpoint_71 (inv_A hI2) (fun H locs hBn => ?_)
          clear hB; have hB := hBn; clear hBn
          have hI71 := inv_PIc (t := 20) hB hI2 (inv_A hI2) (by unfold iCn; omega)
          refine lv_aload_n hx hb dX14_endpoint_74 rfl (lv_at hl 1 rfl) ?_
          refine gf_X14_61 F hB dX14_endpoint_75 (inv_A hI71) ?_
          rw [sgI_PI, if_pos ⟨rfl, rfl⟩]
          refine lv_if_le (tgt := 83) hx hb dX14_endpoint_78 (by decide) (fun c78 => (by first | exact absurd c78 (by decide) | exact (c78 (by decide)).elim)) (fun c78 => ?_)
          refine lv_iconst (v := 0) hx hb dX14_endpoint_81 (by decide) ?_
          exact sg_iret F hB hrt dX14_endpoint_82 (by decide) (by decide) (⟨⟨_, rfl⟩, g, ⟨hY, hH⟩, hI71⟩)
        · refine lv_aload hx hb dX14_endpoint_56 (lv_at hl 0 rfl) ?_
          refine gr_X14_96 F hB dX14_endpoint_58 dv15 (by exact en1) ?_
          refine lv_iload_n hx hb dX14_endpoint_61 rfl (lv_at hl 3 rfl) ?_
          refine sg_aald 8 hx hb F.2.1 hB.1 rfl rfl dX14_endpoint_62 (by exact en4) (by omega) (m_ltN en5 (by omega)) (m_ltM en5 (by decide)) ?_
          refine sg_split (fun hz62 => ?_) (fun b62 hz62 => ?_)
          · skip
            refine lv_ifnullN (tgt := 70) hx hb dX14_endpoint_63 (by decide) ?_
            refine lv_iconst (v := 0) hx hb dX14_endpoint_70 (by decide) ?_
            refine pf_X14_61 F hB dX14_endpoint_71 (inv_A hI2) (fun H locs hBn => ?_)
            clear hB; have hB := hBn; clear hBn
            have hI71 := inv_PIc (t := 20) hB hI2 (inv_A hI2) (by unfold iCn; omega)
            refine lv_aload_n hx hb dX14_endpoint_74 rfl (lv_at hl 1 rfl) ?_
            refine gf_X14_61 F hB dX14_endpoint_75 (inv_A hI71) ?_
            rw [sgI_PI, if_pos ⟨rfl, rfl⟩]
            refine lv_if_le (tgt := 83) hx hb dX14_endpoint_78 (by decide) (fun c78 => ?_) (fun c78 => (by first | exact absurd c78 (by decide) | exact (c78 (by decide)).elim))
            refine lv_aload hx hb dX14_endpoint_83 (lv_at hl 0 rfl) ?_
            refine gr_X14_96 F hB dX14_endpoint_85 (by exact dv15) (by exact en1) ?_
            refine lv_iload_n hx hb dX14_endpoint_88 rfl (lv_at hl 3 rfl) ?_
            refine sg_new (C := RX11) (T := TX11) (N0 := 5) (ci := 16) (ty0 := tyX11) F hB (fun w h => List.mem_cons_of_mem _ (mmu_X11 w h)) tyX11_ok (F.1.2.2.2.2 _ (List.mem_cons_of_mem _ (mm_4 _ (List.mem_of_getElem? (i := 14) rfl)))) (F.1.2.2.2.2 _ (List.mem_cons_of_mem _ (mm_4 _ (List.mem_of_getElem? (i := 15) rfl)))) (F.1.2.2.2.2 _ (List.mem_cons_of_mem _ (mm_4 _ (List.mem_of_getElem? (i := 16) rfl)))) rfl (by decide) (by decide +kernel) (Nat.le_of_ble_eq_true rfl) (Nat.add_le_add_right (Nat.le_of_ble_eq_true rfl) _) dX14_endpoint_89 (fun q89 H N hq89 hs89 hBn => ?_)
            clear hB; have hB := hBn; clear hBn
            refine lv_dup hx hb dX14_endpoint_92 rfl ?_
            refine lv_iload_n hx hb dX14_endpoint_93 rfl (lv_at hl 4 rfl) ?_
            refine lv_iload hx hb dX14_endpoint_94 (lv_at hl 5 rfl) ?_
            refine sg_callI F hB (m_enI l D cy (show sgT (sgNw _ q89 17 0) q89 = 17 from by rw [sgNw_T, if_pos rfl]) i3 gr hin _) (cwI 2 F.1.2.2.2.2 (mgN (mm_1 _ (List.mem_of_getElem? (i := 2) rfl))) rfl rfl rfl (F.1.2.2.2.2 _ (List.mem_cons_of_mem _ (mm_4 _ (List.mem_of_getElem? (i := 16) rfl)))) (F.1.2.2.2.2 _ (List.mem_cons_of_mem _ (mm_4 _ (List.mem_of_getElem? (i := 23) rfl)))) (F.1.2.2.2.2 _ (List.mem_cons_of_mem _ (mm_4 _ (List.mem_of_getElem? (i := 24) rfl)))) rfl ⟨by decide, by decide, by decide +kernel⟩ ⟨Nat.le_of_ble_eq_true rfl, Nat.le_of_ble_eq_true rfl⟩) rfl hl.1 rfl (Nat.le_of_ble_eq_true rfl) dX14_endpoint_96 (Nat.le_of_ble_eq_true rfl) (Nat.add_le_add_right (Nat.le_of_ble_eq_true rfl) _)  (fun H locs v σ96 N hBn hX96 hP => ?_)
            clear hB; have hB := hBn; clear hBn
            obtain ⟨rfl, l96, hl96, rfl⟩ := hP
            have hg := sgb_t hb38 c41
            rw [m1, m8] at hg
            obtain ⟨hI96, hO96, tx96⟩ := inv_enN hI71 hq89 (by exact hl96) hg.1 hg.2 (by exact sg_eda F hB) e9 j.toInt.toNat
            have s4 : sgT σ e9 = 108 := en4
            have s16 : sgT σ (gDv g x.toInt.toNat) = 16 := dv15
            have o96 := hO96 e9 (by show sgT σ e9 ≠ 0; rw [s4]; decide)
            have te96 := o96.1.trans (show _ = 108 from s4)
            have ne96 := o96.2.1.trans (show _ = 4 from en5)
            have hz96 := (o96.2.2 j.toInt.toNat).2.trans (show _ = none from hz62)
            have od96 := hO96 (gDv g x.toInt.toNat) (by show sgT σ _ ≠ 0; rw [s16]; decide)
            have td96 := od96.1.trans (show _ = 16 from s16)
            have r96 := (od96.2.2 13).2.trans (show _ = some e9 from en1)
            have nde : (gDv g x.toInt.toNat) ≠ e9 := fun z => by rw [z, s4] at s16; exact absurd s16 (by decide)
            have nh96 : nH (gE g q89 l96 e9 j.toInt.toNat) := nH_E hH (nH_ep hI71 (k := x.toInt.toNat) (by omega) (iSt_th.trans (Classical.not_not.mp (sgb_f hb50 c53))) (by exact en1)) (inv_hd hI71 (by exact en4) (by decide)) (inv_hd hI71 (by exact hq89) (by decide))
            have hI99 := inv_es hI96 te96 hz96 tx96 (if_pos rfl) (if_pos rfl)
            refine sg_aast 8 (ci := 16) hx hb F.2.1 hB.1 rfl rfl rfl (by decide) dX14_endpoint_99 (by exact te96) (by exact tx96) (by omega) (m_ltN ne96 (by omega)) (m_ltM ne96 (by decide)) (fun H locs hs1 => ?_)
            have hBn := sgB_w hB hs1 (fun _ => rfl) (fun _ => rfl) (Nat.le_of_eq (sgPot_R (fun z9 => absurd ((Eq.symm (by exact te96)).trans z9) (by decide))))
            clear hB; have hB := hBn; clear hBn
            refine lv_iconst (v := 0) hx hb dX14_endpoint_100 (by decide) ?_
            refine lv_istore (lv' := [(6, .int _), (5, .ref _), (0, .ref _), (1, .int _), (2, .int _), (3, .int _), (4, .int _)]) hx hb dX14_endpoint_101 hl (by decide) rfl (fun ls hl => ?_)
            refine lv_aload hx hb dX14_endpoint_103 (lv_at hl 1 rfl) ?_
            refine gr_X14_96 F hB dX14_endpoint_105 (by exact td96) (show (if (gDv g x.toInt.toNat) = e9 ∧ 13 = j.toInt.toNat then some q89 else sgR _ (gDv g x.toInt.toNat) 13) = some e9 from by rw [if_neg (fun z => nde z.1)]; exact r96) ?_
            refine lv_astore (lv' := [(7, .ref _), (6, .int _), (5, .ref _), (0, .ref _), (1, .int _), (2, .int _), (3, .int _), (4, .int _)]) hx hb dX14_endpoint_108 hl (by decide) rfl (fun ls hl => ?_)
            refine lv_aload hx hb dX14_endpoint_110 (lv_at hl 0 rfl) ?_
            refine sg_alen 8 hx hb F.2.1 hB.1 rfl dX14_endpoint_112 (by exact te96) ?_
            refine lv_istore (lv' := [(8, .int _), (7, .ref _), (6, .int _), (5, .ref _), (0, .ref _), (1, .int _), (2, .int _), (3, .int _), (4, .int _)]) hx hb dX14_endpoint_113 hl (by decide) rfl (fun ls hl => ?_)
            refine lv_iconst (v := 0) hx hb dX14_endpoint_115 (by decide) ?_
            refine lv_istore (lv' := [(9, .int _), (8, .int _), (7, .ref _), (6, .int _), (5, .ref _), (0, .ref _), (1, .int _), (2, .int _), (3, .int _), (4, .int _)]) hx hb dX14_endpoint_116 hl (by decide) rfl (fun ls hl => ?_)
            have key118 : ∃ (σ9 : SG) (i9 c6 m9 : Int32), sgB D cy s σ σ9 H locs N 8 ∧ lv_has ls 11 [(9, .int i9), (8, .int m9), (7, .ref e9), (6, .int c6), (0, .ref (kA K))] ∧ Inv eda ia K (gE g q89 l96 e9 j.toInt.toNat) n S hw σ9 ∧ (sgT σ9 e9 = 108 ∧ sgN σ9 e9 = 4) ∧ m9.toInt = 4 ∧ (0 ≤ i9.toInt ∧ i9.toInt ≤ 4) := ⟨_, _, _, _, hB, (lv_sub hl [0, 1, 2, 3, 5] rfl), by exact hI99, ⟨by exact te96, by exact ne96⟩, (by exact (congrArg (fun z => (nI z).toInt) ne96).trans rfl), ⟨by decide, by decide⟩⟩
            clear hB hl hs1
            obtain ⟨σ9, i9, c6, m9, hB, hl, hI9, ht9, hm9, hi9⟩ := key118
            obtain ⟨d118, hd118⟩ : ∃ d : Nat, d = 4 - i9.toInt.toNat := ⟨_, rfl⟩
            induction d118 using Nat.strongRecOn generalizing H locs ls N σ9 i9 c6 m9
            rename_i d118 ih118
            refine lv_iload hx hb dX14_endpoint_118 (lv_at hl 0 rfl) ?_
            refine lv_iload hx hb dX14_endpoint_120 (lv_at hl 1 rfl) ?_
            refine lv_icmp_ge (tgt := 153) hx hb dX14_endpoint_122 (by decide) (fun c122 => ?_) (fun c122 => ?_)
            · refine lv_iload hx hb dX14_endpoint_153 (lv_at hl 3 rfl) ?_
              exact sg_iret F hB hrt dX14_endpoint_155 (by decide) (by decide) (⟨⟨_, rfl⟩, _, ⟨(by exact hY), nh96⟩, hI9⟩)
            · have hi4 := i_nle c122
              rw [hm9] at hi4
              refine lv_aload hx hb dX14_endpoint_125 (lv_at hl 2 rfl) ?_
              refine lv_iload hx hb dX14_endpoint_127 (lv_at hl 0 rfl) ?_
              refine sg_aald 8 hx hb F.2.1 hB.1 rfl rfl dX14_endpoint_129 ht9.1 (by omega) (m_ltN ht9.2 (by omega)) (m_ltM ht9.2 (by decide)) ?_
              refine sg_split (fun hz129 => ?_) (fun b129 hz129 => ?_)
              · skip
                refine lv_astoreN (lv' := [(10, .null), (9, .int _), (8, .int _), (7, .ref _), (6, .int _), (0, .ref _)]) hx hb dX14_endpoint_130 hl (by decide) rfl (fun ls hl => ?_)
                refine lv_iload hx hb dX14_endpoint_132 (lv_at hl 4 rfl) ?_
                refine lv_aloadN hx hb dX14_endpoint_134 (lv_at hl 0 rfl) ?_
                refine lv_ifnonnullN hx hb dX14_endpoint_136 ?_
                refine lv_iconst (v := 0) hx hb dX14_endpoint_139 (by decide) ?_
                refine lv_goto (tgt := 144) hx hb dX14_endpoint_140 (by decide) ?_
                refine lv_iadd hx hb dX14_endpoint_144 ?_
                refine lv_istore (lv' := [(6, .int _), (10, .null), (9, .int _), (8, .int _), (7, .ref _), (0, .ref _)]) hx hb dX14_endpoint_145 hl (by decide) rfl (fun ls hl => ?_)
                refine lv_iinc (lv' := [(9, .int _), (6, .int _), (10, .null), (8, .int _), (7, .ref _), (0, .ref _)]) hx hb dX14_endpoint_147 hl (k := 2) rfl rfl (by decide) rfl (fun ls hl => ?_)
                refine lv_goto (tgt := 118) hx hb dX14_endpoint_150 (by decide) ?_
                have hi3 := i_nle c122
                rw [hm9] at hi3
                have e8 : (i9 + Int32.ofInt 1).toInt = i9.toInt + 1 := m_add1 (by omega) (by omega)
                exact ih118 _ (by subst hd118; rw [e8]; omega) _ _ _ _ _ _ _ _ hB (lv_sub hl [0, 3, 4, 1, 5] rfl) hI9 ht9 hm9 ⟨by rw [e8]; omega, by rw [e8]; omega⟩ rfl
              · skip
                refine lv_astore (lv' := [(10, .ref _), (9, .int _), (8, .int _), (7, .ref _), (6, .int _), (0, .ref _)]) hx hb dX14_endpoint_130 hl (by decide) rfl (fun ls hl => ?_)
                refine lv_iload hx hb dX14_endpoint_132 (lv_at hl 4 rfl) ?_
                refine lv_aload hx hb dX14_endpoint_134 (lv_at hl 0 rfl) ?_
                refine lv_ifnonnull (tgt := 143) hx hb dX14_endpoint_136 (by decide) ?_
                refine lv_iconst (v := 1) hx hb dX14_endpoint_143 (by decide) ?_
                refine lv_iadd hx hb dX14_endpoint_144 ?_
                refine lv_istore (lv' := [(6, .int _), (10, .ref _), (9, .int _), (8, .int _), (7, .ref _), (0, .ref _)]) hx hb dX14_endpoint_145 hl (by decide) rfl (fun ls hl => ?_)
                refine lv_iinc (lv' := [(9, .int _), (6, .int _), (10, .ref _), (8, .int _), (7, .ref _), (0, .ref _)]) hx hb dX14_endpoint_147 hl (k := 2) rfl rfl (by decide) rfl (fun ls hl => ?_)
                refine lv_goto (tgt := 118) hx hb dX14_endpoint_150 (by decide) ?_
                have hi3 := i_nle c122
                rw [hm9] at hi3
                have e8 : (i9 + Int32.ofInt 1).toInt = i9.toInt + 1 := m_add1 (by omega) (by omega)
                exact ih118 _ (by subst hd118; rw [e8]; omega) _ _ _ _ _ _ _ _ hB (lv_sub hl [0, 3, 4, 1, 5] rfl) hI9 ht9 hm9 ⟨by rw [e8]; omega, by rw [e8]; omega⟩ rfl
          · skip
            refine lv_ifnull hx hb dX14_endpoint_63 ?_
            refine lv_iconst (v := 3) hx hb dX14_endpoint_66 (by decide) ?_
            refine lv_goto (tgt := 71) hx hb dX14_endpoint_67 (by decide) ?_
            refine pf_X14_61 F hB dX14_endpoint_71 (inv_A hI2) (fun H locs hBn => ?_)
            clear hB; have hB := hBn; clear hBn
            have hI71 := inv_PIc (t := 20) hB hI2 (inv_A hI2) (by unfold iCn; omega)
            refine lv_aload_n hx hb dX14_endpoint_74 rfl (lv_at hl 1 rfl) ?_
            refine gf_X14_61 F hB dX14_endpoint_75 (inv_A hI71) ?_
            rw [sgI_PI, if_pos ⟨rfl, rfl⟩]
            refine lv_if_le (tgt := 83) hx hb dX14_endpoint_78 (by decide) (fun c78 => (by first | exact absurd c78 (by decide) | exact (c78 (by decide)).elim)) (fun c78 => ?_)
            refine lv_iconst (v := 0) hx hb dX14_endpoint_81 (by decide) ?_
            exact sg_iret F hB hrt dX14_endpoint_82 (by decide) (by decide) (⟨⟨_, rfl⟩, g, ⟨hY, hH⟩, hI71⟩)
      · refine lv_iconst (v := 2) hx hb dX14_endpoint_44 (by decide) ?_
        refine lv_goto (tgt := 71) hx hb dX14_endpoint_45 (by decide) ?_
        refine pf_X14_61 F hB dX14_endpoint_71 (inv_A hI2) (fun H locs hBn => ?_)
        clear hB; have hB := hBn; clear hBn
        have hI71 := inv_PIc (t := 20) hB hI2 (inv_A hI2) (by unfold iCn; omega)
        refine lv_aload_n hx hb dX14_endpoint_74 rfl (lv_at hl 1 rfl) ?_
        refine gf_X14_61 F hB dX14_endpoint_75 (inv_A hI71) ?_
        rw [sgI_PI, if_pos ⟨rfl, rfl⟩]
        refine lv_if_le (tgt := 83) hx hb dX14_endpoint_78 (by decide) (fun c78 => (by first | exact absurd c78 (by decide) | exact (c78 (by decide)).elim)) (fun c78 => ?_)
        refine lv_iconst (v := 0) hx hb dX14_endpoint_81 (by decide) ?_
        exact sg_iret F hB hrt dX14_endpoint_82 (by decide) (by decide) (⟨⟨_, rfl⟩, g, ⟨hY, hH⟩, hI71⟩)
  · refine lv_iconst (v := 0) hx hb dX14_endpoint_8 (by decide) ?_
    exact sg_iret F hB hrt dX14_endpoint_9 (by decide) (by decide) (⟨⟨_, rfl⟩, g, ⟨hY, hH⟩, hI2⟩)
end MM35
