section MM32F
theorem dX14_frame_0 : decode cX14_frame 0 = .ok (.aload_n 0, 1) := by decide +kernel
theorem dX14_frame_1 : decode cX14_frame 1 = .ok (.iconst 0, 1) := by decide +kernel
theorem dX14_frame_2 : decode cX14_frame 2 = .ok (.putfield 61, 3) := by decide +kernel
theorem dX14_frame_5 : decode cX14_frame 5 = .ok (.aload_n 0, 1) := by decide +kernel
theorem dX14_frame_6 : decode cX14_frame 6 = .ok (.dup, 1) := by decide +kernel
theorem dX14_frame_7 : decode cX14_frame 7 = .ok (.getfield 205, 3) := by decide +kernel
theorem dX14_frame_10 : decode cX14_frame 10 = .ok (.iconst 1, 1) := by decide +kernel
theorem dX14_frame_11 : decode cX14_frame 11 = .ok (.iadd, 1) := by decide +kernel
theorem dX14_frame_12 : decode cX14_frame 12 = .ok (.putfield 205, 3) := by decide +kernel
theorem dX14_frame_15 : decode cX14_frame 15 = .ok (.aload_n 0, 1) := by decide +kernel
theorem dX14_frame_16 : decode cX14_frame 16 = .ok (.bipush 100, 2) := by decide +kernel
theorem dX14_frame_18 : decode cX14_frame 18 = .ok (.putfield 42, 3) := by decide +kernel
theorem dX14_frame_21 : decode cX14_frame 21 = .ok (.iconst 0, 1) := by decide +kernel
theorem dX14_frame_22 : decode cX14_frame 22 = .ok (.istore_n 1, 1) := by decide +kernel
theorem dX14_frame_23 : decode cX14_frame 23 = .ok (.iload_n 1, 1) := by decide +kernel
theorem dX14_frame_24 : decode cX14_frame 24 = .ok (.bipush 16, 2) := by decide +kernel
theorem dX14_frame_26 : decode cX14_frame 26 = .ok (.if_icmp .ge 17, 3) := by decide +kernel
theorem dX14_frame_29 : decode cX14_frame 29 = .ok (.aload_n 0, 1) := by decide +kernel
theorem dX14_frame_30 : decode cX14_frame 30 = .ok (.getfield 45, 3) := by decide +kernel
theorem dX14_frame_33 : decode cX14_frame 33 = .ok (.iload_n 1, 1) := by decide +kernel
theorem dX14_frame_34 : decode cX14_frame 34 = .ok (.bipush 60, 2) := by decide +kernel
theorem dX14_frame_36 : decode cX14_frame 36 = .ok (.iastore, 1) := by decide +kernel
theorem dX14_frame_37 : decode cX14_frame 37 = .ok (.iinc 1 1, 3) := by decide +kernel
theorem dX14_frame_40 : decode cX14_frame 40 = .ok (.goto (-17), 3) := by decide +kernel
theorem dX14_frame_43 : decode cX14_frame 43 = .ok (.iconst 1, 1) := by decide +kernel
theorem dX14_frame_44 : decode cX14_frame 44 = .ok (.istore_n 1, 1) := by decide +kernel
theorem dX14_frame_45 : decode cX14_frame 45 = .ok (.iload_n 1, 1) := by decide +kernel
theorem dX14_frame_46 : decode cX14_frame 46 = .ok (.aload_n 0, 1) := by decide +kernel
theorem dX14_frame_47 : decode cX14_frame 47 = .ok (.getfield 10, 3) := by decide +kernel
theorem dX14_frame_50 : decode cX14_frame 50 = .ok (.invokevirtual 64, 3) := by decide +kernel
theorem dX14_frame_53 : decode cX14_frame 53 = .ok (.if_icmp .ge 54, 3) := by decide +kernel
theorem dX14_frame_56 : decode cX14_frame 56 = .ok (.aload_n 0, 1) := by decide +kernel
theorem dX14_frame_57 : decode cX14_frame 57 = .ok (.getfield 10, 3) := by decide +kernel
theorem dX14_frame_60 : decode cX14_frame 60 = .ok (.iload_n 1, 1) := by decide +kernel
theorem dX14_frame_61 : decode cX14_frame 61 = .ok (.invokevirtual 76, 3) := by decide +kernel
theorem dX14_frame_64 : decode cX14_frame 64 = .ok (.checkcast 48, 3) := by decide +kernel
theorem dX14_frame_67 : decode cX14_frame 67 = .ok (.astore_n 2, 1) := by decide +kernel
theorem dX14_frame_68 : decode cX14_frame 68 = .ok (.aload_n 2, 1) := by decide +kernel
theorem dX14_frame_69 : decode cX14_frame 69 = .ok (.getfield 53, 3) := by decide +kernel
theorem dX14_frame_72 : decode cX14_frame 72 = .ok (.bipush 99, 2) := by decide +kernel
theorem dX14_frame_74 : decode cX14_frame 74 = .ok (.if_icmp .ne 27, 3) := by decide +kernel
theorem dX14_frame_77 : decode cX14_frame 77 = .ok (.aload_n 2, 1) := by decide +kernel
theorem dX14_frame_78 : decode cX14_frame 78 = .ok (.getfield 159, 3) := by decide +kernel
theorem dX14_frame_81 : decode cX14_frame 81 = .ok (.ifCond .ne 20, 3) := by decide +kernel
theorem dX14_frame_84 : decode cX14_frame 84 = .ok (.aload_n 2, 1) := by decide +kernel
theorem dX14_frame_85 : decode cX14_frame 85 = .ok (.getfield 196, 3) := by decide +kernel
theorem dX14_frame_88 : decode cX14_frame 88 = .ok (.aload_n 0, 1) := by decide +kernel
theorem dX14_frame_89 : decode cX14_frame 89 = .ok (.aload_n 2, 1) := by decide +kernel
theorem dX14_frame_90 : decode cX14_frame 90 = .ok (.invokevirtual 189, 3) := by decide +kernel
theorem dX14_frame_93 : decode cX14_frame 93 = .ok (.if_icmp .le 8, 3) := by decide +kernel
theorem dX14_frame_96 : decode cX14_frame 96 = .ok (.aload_n 0, 1) := by decide +kernel
theorem dX14_frame_97 : decode cX14_frame 97 = .ok (.iload_n 1, 1) := by decide +kernel
theorem dX14_frame_98 : decode cX14_frame 98 = .ok (.invokevirtual 362, 3) := by decide +kernel
theorem dX14_frame_101 : decode cX14_frame 101 = .ok (.iinc 1 1, 3) := by decide +kernel
theorem dX14_frame_104 : decode cX14_frame 104 = .ok (.goto (-59), 3) := by decide +kernel
theorem dX14_frame_107 : decode cX14_frame 107 = .ok (.iconst 0, 1) := by decide +kernel
theorem dX14_frame_108 : decode cX14_frame 108 = .ok (.istore_n 1, 1) := by decide +kernel
theorem dX14_frame_109 : decode cX14_frame 109 = .ok (.iconst 0, 1) := by decide +kernel
theorem dX14_frame_110 : decode cX14_frame 110 = .ok (.istore_n 2, 1) := by decide +kernel
theorem dX14_frame_111 : decode cX14_frame 111 = .ok (.iload_n 2, 1) := by decide +kernel
theorem dX14_frame_112 : decode cX14_frame 112 = .ok (.bipush 12, 2) := by decide +kernel
theorem dX14_frame_114 : decode cX14_frame 114 = .ok (.if_icmp .ge 71, 3) := by decide +kernel
theorem dX14_frame_117 : decode cX14_frame 117 = .ok (.aload_n 0, 1) := by decide +kernel
theorem dX14_frame_118 : decode cX14_frame 118 = .ok (.getfield 18, 3) := by decide +kernel
theorem dX14_frame_121 : decode cX14_frame 121 = .ok (.iload_n 2, 1) := by decide +kernel
theorem dX14_frame_122 : decode cX14_frame 122 = .ok (.aaload, 1) := by decide +kernel
theorem dX14_frame_123 : decode cX14_frame 123 = .ok (.astore_n 3, 1) := by decide +kernel
theorem dX14_frame_124 : decode cX14_frame 124 = .ok (.aload_n 3, 1) := by decide +kernel
theorem dX14_frame_125 : decode cX14_frame 125 = .ok (.ifnull 30, 3) := by decide +kernel
theorem dX14_frame_128 : decode cX14_frame 128 = .ok (.aload_n 3, 1) := by decide +kernel
theorem dX14_frame_129 : decode cX14_frame 129 = .ok (.invokevirtual 226, 3) := by decide +kernel
theorem dX14_frame_132 : decode cX14_frame 132 = .ok (.ifCond .eq 23, 3) := by decide +kernel
theorem dX14_frame_135 : decode cX14_frame 135 = .ok (.aload_n 0, 1) := by decide +kernel
theorem dX14_frame_136 : decode cX14_frame 136 = .ok (.getfield 205, 3) := by decide +kernel
theorem dX14_frame_139 : decode cX14_frame 139 = .ok (.aload_n 3, 1) := by decide +kernel
theorem dX14_frame_140 : decode cX14_frame 140 = .ok (.getfield 229, 3) := by decide +kernel
theorem dX14_frame_143 : decode cX14_frame 143 = .ok (.irem, 1) := by decide +kernel
theorem dX14_frame_144 : decode cX14_frame 144 = .ok (.aload_n 3, 1) := by decide +kernel
theorem dX14_frame_145 : decode cX14_frame 145 = .ok (.getfield 232, 3) := by decide +kernel
theorem dX14_frame_148 : decode cX14_frame 148 = .ok (.if_icmp .ne 7, 3) := by decide +kernel
theorem dX14_frame_151 : decode cX14_frame 151 = .ok (.iconst 1, 1) := by decide +kernel
theorem dX14_frame_152 : decode cX14_frame 152 = .ok (.goto 4, 3) := by decide +kernel
theorem dX14_frame_155 : decode cX14_frame 155 = .ok (.iconst 0, 1) := by decide +kernel
theorem dX14_frame_156 : decode cX14_frame 156 = .ok (.istore 4, 2) := by decide +kernel
theorem dX14_frame_158 : decode cX14_frame 158 = .ok (.iload_n 1, 1) := by decide +kernel
theorem dX14_frame_159 : decode cX14_frame 159 = .ok (.iload 4, 2) := by decide +kernel
theorem dX14_frame_161 : decode cX14_frame 161 = .ok (.ifCond .eq 15, 3) := by decide +kernel
theorem dX14_frame_164 : decode cX14_frame 164 = .ok (.aload_n 0, 1) := by decide +kernel
theorem dX14_frame_165 : decode cX14_frame 165 = .ok (.iload_n 2, 1) := by decide +kernel
theorem dX14_frame_166 : decode cX14_frame 166 = .ok (.invokevirtual 397, 3) := by decide +kernel
theorem dX14_frame_169 : decode cX14_frame 169 = .ok (.ifCond .le 7, 3) := by decide +kernel
theorem dX14_frame_172 : decode cX14_frame 172 = .ok (.iconst 1, 1) := by decide +kernel
theorem dX14_frame_173 : decode cX14_frame 173 = .ok (.goto 4, 3) := by decide +kernel
theorem dX14_frame_176 : decode cX14_frame 176 = .ok (.iconst 0, 1) := by decide +kernel
theorem dX14_frame_177 : decode cX14_frame 177 = .ok (.iadd, 1) := by decide +kernel
theorem dX14_frame_178 : decode cX14_frame 178 = .ok (.istore_n 1, 1) := by decide +kernel
theorem dX14_frame_179 : decode cX14_frame 179 = .ok (.iinc 2 1, 3) := by decide +kernel
theorem dX14_frame_182 : decode cX14_frame 182 = .ok (.goto (-71), 3) := by decide +kernel
theorem dX14_frame_185 : decode cX14_frame 185 = .ok (.iload_n 1, 1) := by decide +kernel
theorem dX14_frame_186 : decode cX14_frame 186 = .ok (.aload_n 0, 1) := by decide +kernel
theorem dX14_frame_187 : decode cX14_frame 187 = .ok (.invokevirtual 400, 3) := by decide +kernel
theorem dX14_frame_190 : decode cX14_frame 190 = .ok (.iadd, 1) := by decide +kernel
theorem dX14_frame_191 : decode cX14_frame 191 = .ok (.ireturn, 1) := by decide +kernel
set_option maxRecDepth 100000 in
set_option maxHeartbeats 4000000 in
theorem m_frame (l : Launch) (D : va_G) (cy : Nat → ClassId) {eda ca : Nat} {ia : Nat → Nat} {σ : SG} {K : KM} {g : GH} {n S hw : Nat} (h : Inv eda ia K g n S hw σ) (hY : nY g) (hS : S + 100 ≤ 60000) (sz : Nat) : sgM l D cy eda ca ia σ sz yX14_frame (Cond.code yX14_frame cX14_frame 5 (some .int) :: mWall) 14 350 813 6906 [.ref (kA K)] (fun v σ2 => ∃ (y : Int32) (hw2 : Nat), v = some (.int y) ∧ Inv eda ia K g n (S + 100) hw2 σ2) := by
  refine sg_ofW (cc := cX14_frame) (maxL := 5) (ret := (some .int)) (by decide) rfl (Nat.le_of_ble_eq_true rfl) (lv := [(0, .ref (kA K))]) rfl (fun p e s m below meth c ls H N hrt hnm F hB hl => ?_) sz
  have hx := F.1.1
  have hb := F.1.2.1
  have hown := F.1.2.2.2.1
  have tA := inv_A h
  obtain ⟨z1, z2, z3⟩ := inv_sz h
  have hfr := (inv_M h).2.2.2.2.2.2.2
  have m12 : (12 : Int32).toInt = 12 := rfl
  have m16 : (16 : Int32).toInt = 16 := rfl
  have m1 : (1 : Int32).toInt = 1 := rfl
  generalize hlo : ([] : List Loc) = locs at hB ⊢
  clear hlo
  refine lv_aload_n hx hb dX14_frame_0 rfl (lv_at hl 0 rfl) ?_
  refine lv_iconst (v := 0) hx hb dX14_frame_1 (by decide) ?_
  refine pf_X14_61 F hB dX14_frame_2 (inv_A h) (fun H locs hBn => ?_)
  clear hB; have hB := hBn; clear hBn
  have hI2 := inv_PIc (t := 20) hB h (inv_A h) (by unfold iCn; omega)
  refine lv_aload_n hx hb dX14_frame_5 rfl (lv_at hl 0 rfl) ?_
  refine lv_dup hx hb dX14_frame_6 rfl ?_
  refine gf_X14_205 F hB dX14_frame_7 (inv_A hI2) ?_
  refine lv_iconst (v := 1) hx hb dX14_frame_10 (by decide) ?_
  refine lv_iadd hx hb dX14_frame_11 ?_
  refine pf_X14_205 F hB dX14_frame_12 (inv_A hI2) (fun H locs hBn => ?_)
  clear hB; have hB := hBn; clear hBn
  refine lv_aload_n hx hb dX14_frame_15 rfl (lv_at hl 0 rfl) ?_
  refine lv_bipush (v := 100) hx hb dX14_frame_16 (by decide) ?_
  refine pf_X14_42 F hB dX14_frame_18 (by exact tA) (fun H locs hBn => ?_)
  clear hB; have hB := hBn; clear hBn
  have hI18 := inv_frB hB hI2 (by first | exact m_add1 (by omega) (by omega) | (rw [sgI_nk (by decide)]; exact m_add1 (by omega) (by omega)) | (simp only [sgI_nk (show 9 ≠ 0 by decide)]; exact m_add1 (by omega) (by omega))) hS
  refine lv_iconst (v := 0) hx hb dX14_frame_21 (by decide) ?_
  refine lv_istore_n (lv' := [(1, .int _), (0, .ref _)]) hx hb dX14_frame_22 rfl hl (by decide) rfl (fun ls hl => ?_)
  have key23 : ∃ (σ3 : SG) (i1 : Int32), sgB D cy s σ σ3 H locs N 0 ∧ lv_has ls 5 [(1, .int i1), (0, .ref (kA K))] ∧ Inv eda ia K g n (S + 100) 100 σ3 ∧ (0 ≤ i1.toInt ∧ i1.toInt ≤ 16) := ⟨_, _, hB, (lv_sub hl [0, 1] rfl), hI18, ⟨by decide, by decide⟩⟩
  clear hB hl
  obtain ⟨σ3, i1, hB, hl, hI3, hi1⟩ := key23
  obtain ⟨d23, hd23⟩ : ∃ d : Nat, d = 16 - i1.toInt.toNat := ⟨_, rfl⟩
  induction d23 using Nat.strongRecOn generalizing H locs ls N σ3 i1
  rename_i d23 ih23
  refine lv_iload_n hx hb dX14_frame_23 rfl (lv_at hl 0 rfl) ?_
  refine lv_bipush (v := 16) hx hb dX14_frame_24 (by decide) ?_
  refine lv_icmp_ge (tgt := 43) hx hb dX14_frame_26 (by decide) (fun c26 => ?_) (fun c26 => ?_)
  · obtain ⟨kc, hkc⟩ : ∃ kc : Nat, kc = 0 := ⟨_, rfl⟩
    refine W.widen (k := kc) (n := N) (by omega) (Nat.le_refl _) ?_
    refine lv_iconst (v := 1) hx hb dX14_frame_43 (by decide) ?_
    refine lv_istore_n (lv' := [(1, .int _), (0, .ref _)]) hx hb dX14_frame_44 rfl hl (by decide) rfl (fun ls hl => ?_)
    have key45 : ∃ (σ4 : SG) (k1 : Int32) (nc : Nat), sgB D cy s σ σ4 H locs N nc ∧ lv_has ls 5 [(1, .int k1), (0, .ref (kA K))] ∧ Inv eda ia K g n (S + 100) 100 σ4 ∧ (1 ≤ k1.toInt ∧ k1.toInt ≤ n) ∧ (kc + 13 ≤ 13 * k1.toInt.toNat ∧ nc + 124 ≤ 124 * k1.toInt.toNat) := ⟨_, _, 0, hB, (lv_sub hl [0, 1] rfl), hI3, ⟨by decide, by rw [m1]; omega⟩, ⟨by rw [m1]; omega, by rw [m1]; omega⟩⟩
    clear hB hl hkc
    obtain ⟨σ4, k1, nc, hB, hl, hI4, hk1, hkn⟩ := key45
    obtain ⟨d45, hd45⟩ : ∃ d : Nat, d = n - k1.toInt.toNat := ⟨_, rfl⟩
    induction d45 using Nat.strongRecOn generalizing H locs ls N σ4 k1 nc kc
    rename_i d45 ih45
    obtain ⟨z4, -, -⟩ := inv_sz hI4
    refine lv_iload_n hx hb dX14_frame_45 rfl (lv_at hl 0 rfl) ?_
    refine lv_aload_n hx hb dX14_frame_46 rfl (lv_at hl 1 rfl) ?_
    refine gr_X14_10 F hB dX14_frame_47 (inv_A hI4) (inv_r1 hI4) ?_
    refine sg_callV (ci := 4) F hB (m_size l D cy (by exact (inv_tD hI4).1) _) (cwV 0 F.1.2.2.2.2 (mgV (mm_3 _ (List.mem_of_getElem? (i := 18) rfl)) (mm_3 _ (List.mem_of_getElem? (i := 19) rfl)) (mm_3 _ (List.mem_of_getElem? (i := 20) rfl)) (mm_0 _ (List.mem_of_getElem? (i := 35) rfl)) (mm_3 _ (List.mem_of_getElem? (i := 16) rfl))) rfl rfl rfl ⟨rfl, by decide, by decide, by decide +kernel⟩ ⟨Nat.le_of_ble_eq_true rfl, Nat.le_of_ble_eq_true rfl⟩) rfl rfl (by decide) rfl hl.1 rfl (Nat.le_of_ble_eq_true rfl) dX14_frame_50 (by show _ ≤ 813; omega) (Nat.add_le_add_right (by omega) _) (inv_tD hI4).1 (fun H locs v σ50 N hBn hX50 hP => ?_)
    clear hB; have hB := hBn; clear hBn
    obtain ⟨rfl, rfl⟩ := hP
    refine lv_icmp_ge (tgt := 107) hx hb dX14_frame_53 (by decide) (fun c53 => ?_) (fun c53 => ?_)
    · obtain ⟨kd, hkd⟩ : ∃ kd : Nat, kd = 195 := ⟨_, rfl⟩
      refine W.widen (k := kd) (n := N) (show kc ≤ kd from by omega) (Nat.le_refl _) ?_
      have hBn := sgB_up (n2 := 1860) hB (show nc ≤ 1860 from by omega)
      clear hB; have hB := hBn; clear hBn
      refine lv_iconst (v := 0) hx hb dX14_frame_107 (by decide) ?_
      refine lv_istore_n (lv' := [(1, .int _), (0, .ref _)]) hx hb dX14_frame_108 rfl hl (by decide) rfl (fun ls hl => ?_)
      refine lv_iconst (v := 0) hx hb dX14_frame_109 (by decide) ?_
      refine lv_istore_n (lv' := [(2, .int _), (1, .int _), (0, .ref _)]) hx hb dX14_frame_110 rfl hl (by decide) rfl (fun ls hl => ?_)
      have key111 : ∃ (σ5 : SG) (h5 nd : Nat) (b1 i2 : Int32), sgB D cy s σ σ5 H locs N nd ∧ lv_has ls 5 [(2, .int i2), (1, .int b1), (0, .ref (kA K))] ∧ Inv eda ia K g n (S + 100) h5 σ5 ∧ h5 ≤ 100 ∧ (0 ≤ i2.toInt ∧ i2.toInt ≤ 12) ∧ (kd + 6 * h5 ≤ 795 ∧ nd + 49 * h5 ≤ 6760) := ⟨_, 100, 1860, _, _, hB, (lv_sub hl [0, 1, 2] rfl), hI4, Nat.le_refl _, ⟨by decide, by decide⟩, ⟨by omega, by omega⟩⟩
      clear hB hl hkd
      obtain ⟨σ5, h5, nd, b1, i2, hB, hl, hI5, hh5, hi2, hkm⟩ := key111
      obtain ⟨d111, hd111⟩ : ∃ d : Nat, d = 12 - i2.toInt.toNat := ⟨_, rfl⟩
      induction d111 using Nat.strongRecOn generalizing H locs ls N σ5 h5 nd b1 i2 kd
      rename_i d111 ih111
      refine lv_iload_n hx hb dX14_frame_111 rfl (lv_at hl 0 rfl) ?_
      refine lv_bipush (v := 12) hx hb dX14_frame_112 (by decide) ?_
      refine lv_icmp_ge (tgt := 185) hx hb dX14_frame_114 (by decide) (fun c114 => ?_) (fun c114 => ?_)
      · refine lv_iload_n hx hb dX14_frame_185 rfl (lv_at hl 1 rfl) ?_
        refine lv_aload_n hx hb dX14_frame_186 rfl (lv_at hl 2 rfl) ?_
        refine sg_callV (ci := 19) F hB (m_bulk l D cy hI5 hY _) (cwV 0 F.1.2.2.2.2 (mgV (mm_13 _ (List.mem_of_getElem? (i := 6) rfl)) (mm_13 _ (List.mem_of_getElem? (i := 7) rfl)) (mm_13 _ (List.mem_of_getElem? (i := 8) rfl)) (mm_3 _ (List.mem_of_getElem? (i := 23) rfl)) (mm_13 _ (List.mem_of_getElem? (i := 5) rfl))) rfl rfl rfl ⟨rfl, by decide, by decide, by decide +kernel⟩ ⟨Nat.le_of_ble_eq_true rfl, Nat.le_of_ble_eq_true rfl⟩) rfl rfl (by decide) rfl hl.1 rfl (Nat.le_of_ble_eq_true rfl) dX14_frame_187 (by show _ ≤ 813; omega) (Nat.add_le_add_right (by omega) _) (inv_A hI5) (fun H locs v σ187 N hBn hX187 hP => ?_)
        clear hB; have hB := hBn; clear hBn
        obtain ⟨y187, h187, rfl, hI187, hh187⟩ := hP
        refine W.widen (k := 813) (n := N) (show _ ≤ 813 from by omega) (Nat.le_refl _) ?_
        have hBn := sgB_up (n2 := 6906) hB (by omega)
        clear hB; have hB := hBn; clear hBn
        refine lv_iadd hx hb dX14_frame_190 ?_
        exact sg_iret F hB hrt dX14_frame_191 (by omega) (by omega) (⟨_, h187, rfl, hI187⟩)
      · have hi4 := i_nle c114
        rw [m12] at hi4
        have hq : 0 ≤ i2.toInt ∧ i2.toInt ≤ 11 := ⟨hi2.1, by omega⟩
        refine lv_aload_n hx hb dX14_frame_117 rfl (lv_at hl 2 rfl) ?_
        refine gr_X14_18 F hB dX14_frame_118 (inv_A hI5) (inv_r2 hI5) ?_
        refine lv_iload_n hx hb dX14_frame_121 rfl (lv_at hl 0 rfl) ?_
        refine sg_aald 9 hx hb F.2.1 hB.1 rfl rfl dX14_frame_122 (inv_tP hI5).1 (by omega) (m_ltN (n := 12) (inv_tP hI5).2 (by omega)) (m_ltM (inv_tP hI5).2 (by decide)) ?_
        refine sg_split (fun hz122 => ?_) (fun b122 hz122 => ?_)
        · skip
          refine lv_astore_nN (lv' := [(3, .null), (2, .int _), (1, .int _), (0, .ref _)]) hx hb dX14_frame_123 rfl hl (by decide) rfl (fun ls hl => ?_)
          refine lv_aload_nN hx hb dX14_frame_124 rfl (lv_at hl 0 rfl) ?_
          refine lv_ifnullN (tgt := 155) hx hb dX14_frame_125 (by decide) ?_
          refine lv_iconst (v := 0) hx hb dX14_frame_155 (by decide) ?_
          refine lv_istore (lv' := [(4, .int _), (3, .null), (2, .int _), (1, .int _), (0, .ref _)]) hx hb dX14_frame_156 hl (by decide) rfl (fun ls hl => ?_)
          refine lv_iload_n hx hb dX14_frame_158 rfl (lv_at hl 3 rfl) ?_
          refine lv_iload hx hb dX14_frame_159 (lv_at hl 0 rfl) ?_
          refine lv_if_eq (tgt := 176) hx hb dX14_frame_161 (by decide) (fun c161 => ?_) (fun c161 => (by first | exact absurd c161 (by decide) | exact (c161 (by decide)).elim))
          refine lv_iconst (v := 0) hx hb dX14_frame_176 (by decide) ?_
          refine lv_iadd hx hb dX14_frame_177 ?_
          refine lv_istore_n (lv' := [(1, .int _), (4, .int _), (3, .null), (2, .int _), (0, .ref _)]) hx hb dX14_frame_178 rfl hl (by decide) rfl (fun ls hl => ?_)
          refine lv_iinc (lv' := [(2, .int _), (1, .int _), (4, .int _), (3, .null), (0, .ref _)]) hx hb dX14_frame_179 hl (k := 3) rfl rfl (by decide) rfl (fun ls hl => ?_)
          refine lv_goto (tgt := 111) hx hb dX14_frame_182 (by decide) ?_
          have hi3 := i_nle c114
          rw [m12] at hi3
          have e9 : (i2 + Int32.ofInt 1).toInt = i2.toInt + 1 := m_add1 (by omega) (by omega)
          exact ih111 _ (by subst hd111; rw [e9]; omega) _ _ _ _ _ _ _ _ _ _ hB (lv_sub hl [0, 1, 4] rfl) hI5 (by omega) ⟨by rw [e9]; omega, by rw [e9]; omega⟩ ⟨(by first | omega | (simp only [Nat.add_eq] at *; omega)), (by first | omega | (simp only [Nat.add_eq] at *; omega))⟩ rfl
        · skip
          have tp := inv_pp hI5 (j := i2.toInt.toNat) (by omega) hz122
          obtain ⟨e2, x2, ⟨pn1, pn2, pn3, pn4, pn5⟩, -⟩ := inv_pe hI5 tp
          refine lv_astore_n (lv' := [(3, .ref _), (2, .int _), (1, .int _), (0, .ref _)]) hx hb dX14_frame_123 rfl hl (by decide) rfl (fun ls hl => ?_)
          refine lv_aload_n hx hb dX14_frame_124 rfl (lv_at hl 0 rfl) ?_
          refine lv_ifnull hx hb dX14_frame_125 ?_
          refine lv_aload_n hx hb dX14_frame_128 rfl (lv_at hl 0 rfl) ?_
          refine sg_callV (ci := 17) F hB (m_isPer l D cy tp _) (cwV 0 F.1.2.2.2.2 (mgV (mm_8 _ (List.mem_of_getElem? (i := 12) rfl)) (mm_8 _ (List.mem_of_getElem? (i := 13) rfl)) (mm_8 _ (List.mem_of_getElem? (i := 14) rfl)) (mm_8 _ (List.mem_of_getElem? (i := 15) rfl)) (mm_1 _ (List.mem_of_getElem? (i := 14) rfl))) rfl rfl rfl ⟨rfl, by decide, by decide, by decide +kernel⟩ ⟨Nat.le_of_ble_eq_true rfl, Nat.le_of_ble_eq_true rfl⟩) rfl rfl (by decide) rfl hl.1 rfl (Nat.le_of_ble_eq_true rfl) dX14_frame_129 (by show _ ≤ 813; omega) (Nat.add_le_add_right (by omega) _) tp (fun H locs v σ129 N hBn hX129 hP => ?_)
          clear hB; have hB := hBn; clear hBn
          obtain ⟨b129, rfl, rfl, hb129⟩ := hP
          refine lv_if_eq (tgt := 155) hx hb dX14_frame_132 (by decide) (fun c132 => ?_) (fun c132 => ?_)
          · refine lv_iconst (v := 0) hx hb dX14_frame_155 (by decide) ?_
            refine lv_istore (lv' := [(4, .int _), (3, .ref _), (2, .int _), (1, .int _), (0, .ref _)]) hx hb dX14_frame_156 hl (by decide) rfl (fun ls hl => ?_)
            refine lv_iload_n hx hb dX14_frame_158 rfl (lv_at hl 3 rfl) ?_
            refine lv_iload hx hb dX14_frame_159 (lv_at hl 0 rfl) ?_
            refine lv_if_eq (tgt := 176) hx hb dX14_frame_161 (by decide) (fun c161 => ?_) (fun c161 => (by first | exact absurd c161 (by decide) | exact (c161 (by decide)).elim))
            refine lv_iconst (v := 0) hx hb dX14_frame_176 (by decide) ?_
            refine lv_iadd hx hb dX14_frame_177 ?_
            refine lv_istore_n (lv' := [(1, .int _), (4, .int _), (3, .ref _), (2, .int _), (0, .ref _)]) hx hb dX14_frame_178 rfl hl (by decide) rfl (fun ls hl => ?_)
            refine lv_iinc (lv' := [(2, .int _), (1, .int _), (4, .int _), (3, .ref _), (0, .ref _)]) hx hb dX14_frame_179 hl (k := 3) rfl rfl (by decide) rfl (fun ls hl => ?_)
            refine lv_goto (tgt := 111) hx hb dX14_frame_182 (by decide) ?_
            have hi3 := i_nle c114
            rw [m12] at hi3
            have e9 : (i2 + Int32.ofInt 1).toInt = i2.toInt + 1 := m_add1 (by omega) (by omega)
            exact ih111 _ (by subst hd111; rw [e9]; omega) _ _ _ _ _ _ _ _ _ _ hB (lv_sub hl [0, 1, 4] rfl) hI5 (by omega) ⟨by rw [e9]; omega, by rw [e9]; omega⟩ ⟨(by first | omega | (simp only [Nat.add_eq] at *; omega)), (by first | omega | (simp only [Nat.add_eq] at *; omega))⟩ rfl
          · have hiv := m_iv (pn5.resolve_left (sgb_t hb129 c132))
            refine lv_aload_n hx hb dX14_frame_135 rfl (lv_at hl 3 rfl) ?_
            refine gf_X14_205 F hB dX14_frame_136 (inv_A hI5) ?_
            refine lv_aload_n hx hb dX14_frame_139 rfl (lv_at hl 0 rfl) ?_
            refine gf_X14_229 F hB dX14_frame_140 tp ?_
            refine lv_irem hx hb dX14_frame_143 hiv.1 ?_
            refine lv_aload_n hx hb dX14_frame_144 rfl (lv_at hl 0 rfl) ?_
            refine gf_X14_232 F hB dX14_frame_145 tp ?_
            refine lv_icmp_ne (tgt := 155) hx hb dX14_frame_148 (by decide) (fun c148 => ?_) (fun c148 => ?_)
            · refine lv_iconst (v := 0) hx hb dX14_frame_155 (by decide) ?_
              refine lv_istore (lv' := [(4, .int _), (3, .ref _), (2, .int _), (1, .int _), (0, .ref _)]) hx hb dX14_frame_156 hl (by decide) rfl (fun ls hl => ?_)
              refine lv_iload_n hx hb dX14_frame_158 rfl (lv_at hl 3 rfl) ?_
              refine lv_iload hx hb dX14_frame_159 (lv_at hl 0 rfl) ?_
              refine lv_if_eq (tgt := 176) hx hb dX14_frame_161 (by decide) (fun c161 => ?_) (fun c161 => (by first | exact absurd c161 (by decide) | exact (c161 (by decide)).elim))
              refine lv_iconst (v := 0) hx hb dX14_frame_176 (by decide) ?_
              refine lv_iadd hx hb dX14_frame_177 ?_
              refine lv_istore_n (lv' := [(1, .int _), (4, .int _), (3, .ref _), (2, .int _), (0, .ref _)]) hx hb dX14_frame_178 rfl hl (by decide) rfl (fun ls hl => ?_)
              refine lv_iinc (lv' := [(2, .int _), (1, .int _), (4, .int _), (3, .ref _), (0, .ref _)]) hx hb dX14_frame_179 hl (k := 3) rfl rfl (by decide) rfl (fun ls hl => ?_)
              refine lv_goto (tgt := 111) hx hb dX14_frame_182 (by decide) ?_
              have hi3 := i_nle c114
              rw [m12] at hi3
              have e9 : (i2 + Int32.ofInt 1).toInt = i2.toInt + 1 := m_add1 (by omega) (by omega)
              exact ih111 _ (by subst hd111; rw [e9]; omega) _ _ _ _ _ _ _ _ _ _ hB (lv_sub hl [0, 1, 4] rfl) hI5 (by omega) ⟨by rw [e9]; omega, by rw [e9]; omega⟩ ⟨(by first | omega | (simp only [Nat.add_eq] at *; omega)), (by first | omega | (simp only [Nat.add_eq] at *; omega))⟩ rfl
            · refine lv_iconst (v := 1) hx hb dX14_frame_151 (by decide) ?_
              refine lv_goto (tgt := 156) hx hb dX14_frame_152 (by decide) ?_
              refine lv_istore (lv' := [(4, .int _), (3, .ref _), (2, .int _), (1, .int _), (0, .ref _)]) hx hb dX14_frame_156 hl (by decide) rfl (fun ls hl => ?_)
              refine lv_iload_n hx hb dX14_frame_158 rfl (lv_at hl 3 rfl) ?_
              refine lv_iload hx hb dX14_frame_159 (lv_at hl 0 rfl) ?_
              refine lv_if_eq (tgt := 176) hx hb dX14_frame_161 (by decide) (fun c161 => (by first | exact absurd c161 (by decide) | exact (c161 (by decide)).elim)) (fun c161 => ?_)
              refine lv_aload_n hx hb dX14_frame_164 rfl (lv_at hl 4 rfl) ?_
              refine lv_iload_n hx hb dX14_frame_165 rfl (lv_at hl 2 rfl) ?_
              refine sg_callVd (ci := 19) F hB (m_does l D cy hI5 hY i2 hq.1 hq.2 _) (cwV 1 F.1.2.2.2.2 (mgV (mm_13 _ (List.mem_of_getElem? (i := 2) rfl)) (mm_13 _ (List.mem_of_getElem? (i := 3) rfl)) (mm_13 _ (List.mem_of_getElem? (i := 4) rfl)) (mm_3 _ (List.mem_of_getElem? (i := 23) rfl)) (mm_13 _ (List.mem_of_getElem? (i := 1) rfl))) rfl rfl rfl ⟨rfl, by decide, by decide, by decide +kernel⟩ ⟨Nat.le_of_ble_eq_true rfl, Nat.le_of_ble_eq_true rfl⟩) rfl rfl (by decide) rfl hl.1 rfl (Nat.le_of_ble_eq_true rfl) dX14_frame_166 (by show _ ≤ 813; omega) (Nat.add_le_add_right (by omega) _) (inv_A hI5) m_doesF (fun H locs N hB hP => ?_) (fun H locs w166 σ166 N hw166 hB hP => ?_)
              · skip
                have hBn := hB
                clear hB; have hB := hBn; clear hBn
                refine lv_if_le (tgt := 176) hx hb dX14_frame_169 (by decide) (fun c169 => ?_) (fun c169 => (by first | exact absurd c169 (by decide) | exact (c169 (by decide)).elim))
                refine lv_iconst (v := 0) hx hb dX14_frame_176 (by decide) ?_
                refine lv_iadd hx hb dX14_frame_177 ?_
                refine lv_istore_n (lv' := [(1, .int _), (4, .int _), (3, .ref _), (2, .int _), (0, .ref _)]) hx hb dX14_frame_178 rfl hl (by decide) rfl (fun ls hl => ?_)
                refine lv_iinc (lv' := [(2, .int _), (1, .int _), (4, .int _), (3, .ref _), (0, .ref _)]) hx hb dX14_frame_179 hl (k := 3) rfl rfl (by decide) rfl (fun ls hl => ?_)
                refine lv_goto (tgt := 111) hx hb dX14_frame_182 (by decide) ?_
                have hi3 := i_nle c114
                rw [m12] at hi3
                have e9 : (i2 + Int32.ofInt 1).toInt = i2.toInt + 1 := m_add1 (by omega) (by omega)
                exact ih111 _ (by subst hd111; rw [e9]; omega) _ _ _ _ _ _ _ _ _ _ hB (lv_sub hl [0, 1, 4] rfl) hI5 (by omega) ⟨by rw [e9]; omega, by rw [e9]; omega⟩ ⟨(by first | omega | (simp only [Nat.add_eq] at *; omega)), (by first | omega | (simp only [Nat.add_eq] at *; omega))⟩ rfl
              · skip
                have hBn := hB
                clear hB; have hB := hBn; clear hBn
                obtain ⟨h166, hI166, hc166, hc166b⟩ := m_doesN hw166 hP
                refine lv_if_le (tgt := 176) hx hb dX14_frame_169 (by decide) (fun c169 => (m_pos hc166 c169).elim) (fun c169 => ?_)
                refine lv_iconst (v := 1) hx hb dX14_frame_172 (by decide) ?_
                refine lv_goto (tgt := 177) hx hb dX14_frame_173 (by decide) ?_
                refine lv_iadd hx hb dX14_frame_177 ?_
                refine lv_istore_n (lv' := [(1, .int _), (4, .int _), (3, .ref _), (2, .int _), (0, .ref _)]) hx hb dX14_frame_178 rfl hl (by decide) rfl (fun ls hl => ?_)
                refine lv_iinc (lv' := [(2, .int _), (1, .int _), (4, .int _), (3, .ref _), (0, .ref _)]) hx hb dX14_frame_179 hl (k := 3) rfl rfl (by decide) rfl (fun ls hl => ?_)
                refine lv_goto (tgt := 111) hx hb dX14_frame_182 (by decide) ?_
                have hi3 := i_nle c114
                rw [m12] at hi3
                have e9 : (i2 + Int32.ofInt 1).toInt = i2.toInt + 1 := m_add1 (by omega) (by omega)
                exact ih111 _ (by subst hd111; rw [e9]; omega) _ _ _ _ _ _ _ _ _ _ hB (lv_sub hl [0, 1, 4] rfl) hI166 (by omega) ⟨by rw [e9]; omega, by rw [e9]; omega⟩ ⟨(by first | omega | (simp only [Nat.add_eq] at *; omega)), (by first | omega | (simp only [Nat.add_eq] at *; omega))⟩ rfl
    · have hi4 : 1 ≤ k1.toInt ∧ k1.toInt < n := ⟨hk1.1, by have q := i_nle c53; rw [z4] at q; exact q⟩
      refine lv_aload_n hx hb dX14_frame_56 rfl (lv_at hl 1 rfl) ?_
      refine gr_X14_10 F hB dX14_frame_57 (inv_A hI4) (inv_r1 hI4) ?_
      refine lv_iload_n hx hb dX14_frame_60 rfl (lv_at hl 0 rfl) ?_
      refine sg_callV (ci := 4) F hB (m_getD l D cy hI4 k1 (by omega) (by omega) _) (cwV 1 F.1.2.2.2.2 (mgV (mm_4 _ (List.mem_of_getElem? (i := 3) rfl)) (mm_4 _ (List.mem_of_getElem? (i := 4) rfl)) (mm_4 _ (List.mem_of_getElem? (i := 5) rfl)) (mm_0 _ (List.mem_of_getElem? (i := 35) rfl)) (mm_3 _ (List.mem_of_getElem? (i := 34) rfl))) rfl rfl rfl ⟨rfl, by decide, by decide, by decide +kernel⟩ ⟨Nat.le_of_ble_eq_true rfl, Nat.le_of_ble_eq_true rfl⟩) rfl rfl (by decide) rfl hl.1 rfl (Nat.le_of_ble_eq_true rfl) dX14_frame_61 (by show _ ≤ 813; omega) (Nat.add_le_add_right (by omega) _) (inv_tD hI4).1 (fun H locs v σ61 N hBn hX61 hP => ?_)
      clear hB; have hB := hBn; clear hBn
      obtain ⟨rfl, rfl⟩ := hP
      have dv61 := (inv_dv hI4 (k := (k1 : Int32).toInt.toNat) (by omega)).2.1
      refine va_castY hx hb hown (F.1.2.2.2.2 _ (List.mem_cons_of_mem _ (mm_4 _ (List.mem_of_getElem? (i := 2) rfl)))) (F.2.2.1.2.2 ("HubcascadeModel$Device", "HubcascadeModel$Device") (by decide +kernel)) (sg_recv (ci := 15) F.2.1 hB (by assumption) (by decide) rfl) dX14_frame_64 ?_
      refine lv_astore_n (lv' := [(2, .ref _), (1, .int _), (0, .ref _)]) hx hb dX14_frame_67 rfl hl (by decide) rfl (fun ls hl => ?_)
      refine lv_aload_n hx hb dX14_frame_68 rfl (lv_at hl 0 rfl) ?_
      refine gf_X14_53 F hB dX14_frame_69 dv61 ?_
      refine lv_bipush (v := 99) hx hb dX14_frame_72 (by decide) ?_
      refine lv_icmp_ne (tgt := 101) hx hb dX14_frame_74 (by decide) (fun c74 => ?_) (fun c74 => ?_)
      · refine lv_iinc (lv' := [(1, .int _), (2, .ref _), (0, .ref _)]) hx hb dX14_frame_101 hl (k := 1) rfl rfl (by decide) rfl (fun ls hl => ?_)
        refine lv_goto (tgt := 45) hx hb dX14_frame_104 (by decide) ?_
        have hi3 := i_nle c53
        rw [z4] at hi3
        have e9 : (k1 + Int32.ofInt 1).toInt = k1.toInt + 1 := m_add1 (by omega) (by omega)
        exact ih45 _ (by subst hd45; rw [e9]; omega) _ _ _ _ _ _ _ _ hB (lv_sub hl [0, 2] rfl) hI4 ⟨by rw [e9]; omega, by rw [e9]; omega⟩ ⟨(by rw [e9]; first | omega | (simp only [Nat.add_eq] at *; omega)), (by rw [e9]; first | omega | (simp only [Nat.add_eq] at *; omega))⟩ rfl
      · have h99 : iSt g σ4 k1.toInt.toNat = 99 := c74
        have hnu : ¬ iSt g σ4 k1.toInt.toNat = 117 := fun z => by rw [h99] at z; exact absurd z (by decide)
        have hup := m_hub hI4 hY (x := k1) hi4.1 hi4.2 hnu
        refine lv_aload_n hx hb dX14_frame_77 rfl (lv_at hl 0 rfl) ?_
        refine gf_X14_159 F hB dX14_frame_78 dv61 ?_
        refine lv_if_ne (tgt := 101) hx hb dX14_frame_81 (by decide) (fun c81 => ?_) (fun c81 => ?_)
        · refine lv_iinc (lv' := [(1, .int _), (2, .ref _), (0, .ref _)]) hx hb dX14_frame_101 hl (k := 1) rfl rfl (by decide) rfl (fun ls hl => ?_)
          refine lv_goto (tgt := 45) hx hb dX14_frame_104 (by decide) ?_
          have hi3 := i_nle c53
          rw [z4] at hi3
          have e9 : (k1 + Int32.ofInt 1).toInt = k1.toInt + 1 := m_add1 (by omega) (by omega)
          exact ih45 _ (by subst hd45; rw [e9]; omega) _ _ _ _ _ _ _ _ hB (lv_sub hl [0, 2] rfl) hI4 ⟨by rw [e9]; omega, by rw [e9]; omega⟩ ⟨(by rw [e9]; first | omega | (simp only [Nat.add_eq] at *; omega)), (by rw [e9]; first | omega | (simp only [Nat.add_eq] at *; omega))⟩ rfl
        · refine lv_aload_n hx hb dX14_frame_84 rfl (lv_at hl 0 rfl) ?_
          refine gf_X14_196 F hB dX14_frame_85 dv61 ?_
          refine lv_aload_n hx hb dX14_frame_88 rfl (lv_at hl 2 rfl) ?_
          refine lv_aload_n hx hb dX14_frame_89 rfl (lv_at hl 0 rfl) ?_
          refine sg_callV (ci := 19) F hB (m_given l D cy hI4 dv61 hup.1 hup.2 _) (cwV 1 F.1.2.2.2.2 (mgV (mm_6 _ (List.mem_of_getElem? (i := 37) rfl)) (mm_6 _ (List.mem_of_getElem? (i := 38) rfl)) (mm_6 _ (List.mem_of_getElem? (i := 39) rfl)) (mm_3 _ (List.mem_of_getElem? (i := 23) rfl)) (mm_6 _ (List.mem_of_getElem? (i := 22) rfl))) rfl rfl rfl ⟨rfl, by decide, by decide, by decide +kernel⟩ ⟨Nat.le_of_ble_eq_true rfl, Nat.le_of_ble_eq_true rfl⟩) rfl rfl (by decide) rfl hl.1 rfl (Nat.le_of_ble_eq_true rfl) dX14_frame_90 (by show _ ≤ 813; omega) (Nat.add_le_add_right (by omega) _) (inv_A hI4) (fun H locs v σ90 N hBn hX90 hP => ?_)
          clear hB; have hB := hBn; clear hBn
          obtain ⟨⟨y90, rfl⟩, rfl⟩ := hP
          refine lv_icmp_le (tgt := 101) hx hb dX14_frame_93 (by decide) (fun c93 => ?_) (fun c93 => ?_)
          · refine lv_iinc (lv' := [(1, .int _), (2, .ref _), (0, .ref _)]) hx hb dX14_frame_101 hl (k := 1) rfl rfl (by decide) rfl (fun ls hl => ?_)
            refine lv_goto (tgt := 45) hx hb dX14_frame_104 (by decide) ?_
            have hi3 := i_nle c53
            rw [z4] at hi3
            have e9 : (k1 + Int32.ofInt 1).toInt = k1.toInt + 1 := m_add1 (by omega) (by omega)
            exact ih45 _ (by subst hd45; rw [e9]; omega) _ _ _ _ _ _ _ _ hB (lv_sub hl [0, 2] rfl) hI4 ⟨by rw [e9]; omega, by rw [e9]; omega⟩ ⟨(by rw [e9]; first | omega | (simp only [Nat.add_eq] at *; omega)), (by rw [e9]; first | omega | (simp only [Nat.add_eq] at *; omega))⟩ rfl
          · refine lv_aload_n hx hb dX14_frame_96 rfl (lv_at hl 2 rfl) ?_
            refine lv_iload_n hx hb dX14_frame_97 rfl (lv_at hl 1 rfl) ?_
            refine sg_callV (ci := 19) F hB (m_shut l D cy hI4 hY k1 hi4.1 hi4.2 hnu _) (cwV 1 F.1.2.2.2.2 (mgV (mm_12 _ (List.mem_of_getElem? (i := 1) rfl)) (mm_12 _ (List.mem_of_getElem? (i := 2) rfl)) (mm_12 _ (List.mem_of_getElem? (i := 3) rfl)) (mm_3 _ (List.mem_of_getElem? (i := 23) rfl)) (mm_11 _ (List.mem_of_getElem? (i := 39) rfl))) rfl rfl rfl ⟨rfl, by decide, by decide, by decide +kernel⟩ ⟨Nat.le_of_ble_eq_true rfl, Nat.le_of_ble_eq_true rfl⟩) rfl rfl (by decide) rfl hl.1 rfl (Nat.le_of_ble_eq_true rfl) dX14_frame_98 (by show _ ≤ 813; omega) (Nat.add_le_add_right (by omega) _) (inv_A hI4) (fun H locs v σ98 N hBn hX98 hP => ?_)
            clear hB; have hB := hBn; clear hBn
            obtain ⟨rfl, hI98⟩ := hP
            refine lv_iinc (lv' := [(1, .int _), (2, .ref _), (0, .ref _)]) hx hb dX14_frame_101 hl (k := 1) rfl rfl (by decide) rfl (fun ls hl => ?_)
            refine lv_goto (tgt := 45) hx hb dX14_frame_104 (by decide) ?_
            have hi3 := i_nle c53
            rw [z4] at hi3
            have e9 : (k1 + Int32.ofInt 1).toInt = k1.toInt + 1 := m_add1 (by omega) (by omega)
            exact ih45 _ (by subst hd45; rw [e9]; omega) _ _ _ _ _ _ _ _ hB (lv_sub hl [0, 2] rfl) hI98 ⟨by rw [e9]; omega, by rw [e9]; omega⟩ ⟨(by rw [e9]; first | omega | (simp only [Nat.add_eq] at *; omega)), (by rw [e9]; first | omega | (simp only [Nat.add_eq] at *; omega))⟩ rfl
  · have hi2 := i_nle c26
    rw [m16] at hi2
    refine lv_aload_n hx hb dX14_frame_29 rfl (lv_at hl 1 rfl) ?_
    refine gr_X14_45 F hB dX14_frame_30 (inv_A hI3) (inv_r12 hI3) ?_
    refine lv_iload_n hx hb dX14_frame_33 rfl (lv_at hl 0 rfl) ?_
    refine lv_bipush (v := 60) hx hb dX14_frame_34 (by decide) ?_
    refine sg_iast hx hb F.2.1 hB.1 dX14_frame_36 (inv_tH hI3).1 (by omega) (m_ltN (n := 16) (inv_tH hI3).2 (by omega)) (m_ltM (inv_tH hI3).2 (by decide)) (fun H locs hs1 => ?_)
    have hBn := sgB_w hB hs1 (fun _ => rfl) (fun _ => rfl) (Nat.le_of_eq (sgPot_I (Or.inl (by rw [show sgT _ _ = _ from (inv_tH hI3).1]; decide))))
    clear hB; have hB := hBn; clear hBn
    have hI36 := inv_PIc (t := 100) hB hI3 (inv_tH hI3).1 (by unfold iCn; omega)
    refine lv_iinc (lv' := [(1, .int _), (0, .ref _)]) hx hb dX14_frame_37 hl (k := 0) rfl rfl (by decide) rfl (fun ls hl => ?_)
    refine lv_goto (tgt := 23) hx hb dX14_frame_40 (by decide) ?_
    have hi3 := i_nle c26
    rw [m16] at hi3
    have e9 : (i1 + Int32.ofInt 1).toInt = i1.toInt + 1 := m_add1 (by omega) (by omega)
    exact ih23 _ (by subst hd23; rw [e9]; omega) _ _ _ _ _ _ hB (lv_sub hl [0, 1] rfl) hI36 ⟨by rw [e9]; omega, by rw [e9]; omega⟩ rfl
end MM32F
