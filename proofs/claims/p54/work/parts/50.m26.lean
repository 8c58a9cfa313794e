section MM26
theorem m_hub {eda n S hw : Nat} {ia : Nat → Nat} {K : KM} {g : GH} {σ : SG} (h : Inv eda ia K g n S hw σ) (hY : nY g) {x : Int32} (h1 : 1 ≤ x.toInt) (h2 : x.toInt < n) (hu : ¬ iSt g σ x.toInt.toNat = 117) : 0 ≤ (sgI σ (gDv g x.toInt.toNat) 7).toInt ∧ (sgI σ (gDv g x.toInt.toNat) 7).toInt < n := by
  obtain ⟨q1, q2, -⟩ := inv_up h hY (k := x.toInt.toNat) (by omega) (by omega) hu
  exact ⟨q1, q2⟩
theorem dX14_look_0 : decode cX14_look 0 = .ok (.iconst (-1), 1) := by decide +kernel
theorem dX14_look_1 : decode cX14_look 1 = .ok (.istore_n 1, 1) := by decide +kernel
theorem dX14_look_2 : decode cX14_look 2 = .ok (.iconst 1, 1) := by decide +kernel
theorem dX14_look_3 : decode cX14_look 3 = .ok (.istore_n 2, 1) := by decide +kernel
theorem dX14_look_4 : decode cX14_look 4 = .ok (.iload_n 2, 1) := by decide +kernel
theorem dX14_look_5 : decode cX14_look 5 = .ok (.aload_n 0, 1) := by decide +kernel
theorem dX14_look_6 : decode cX14_look 6 = .ok (.getfield 10, 3) := by decide +kernel
theorem dX14_look_9 : decode cX14_look 9 = .ok (.invokevirtual 64, 3) := by decide +kernel
theorem dX14_look_12 : decode cX14_look 12 = .ok (.if_icmp .ge 88, 3) := by decide +kernel
theorem dX14_look_15 : decode cX14_look 15 = .ok (.aload_n 0, 1) := by decide +kernel
theorem dX14_look_16 : decode cX14_look 16 = .ok (.getfield 10, 3) := by decide +kernel
theorem dX14_look_19 : decode cX14_look 19 = .ok (.iload_n 2, 1) := by decide +kernel
theorem dX14_look_20 : decode cX14_look 20 = .ok (.invokevirtual 76, 3) := by decide +kernel
theorem dX14_look_23 : decode cX14_look 23 = .ok (.checkcast 48, 3) := by decide +kernel
theorem dX14_look_26 : decode cX14_look 26 = .ok (.astore_n 3, 1) := by decide +kernel
theorem dX14_look_27 : decode cX14_look 27 = .ok (.aload_n 3, 1) := by decide +kernel
theorem dX14_look_28 : decode cX14_look 28 = .ok (.getfield 53, 3) := by decide +kernel
theorem dX14_look_31 : decode cX14_look 31 = .ok (.bipush 110, 2) := by decide +kernel
theorem dX14_look_33 : decode cX14_look 33 = .ok (.if_icmp .ne 29, 3) := by decide +kernel
theorem dX14_look_36 : decode cX14_look 36 = .ok (.aload_n 0, 1) := by decide +kernel
theorem dX14_look_37 : decode cX14_look 37 = .ok (.getfield 10, 3) := by decide +kernel
theorem dX14_look_40 : decode cX14_look 40 = .ok (.aload_n 3, 1) := by decide +kernel
theorem dX14_look_41 : decode cX14_look 41 = .ok (.getfield 80, 3) := by decide +kernel
theorem dX14_look_44 : decode cX14_look 44 = .ok (.invokevirtual 76, 3) := by decide +kernel
theorem dX14_look_47 : decode cX14_look 47 = .ok (.checkcast 48, 3) := by decide +kernel
theorem dX14_look_50 : decode cX14_look 50 = .ok (.getfield 53, 3) := by decide +kernel
theorem dX14_look_53 : decode cX14_look 53 = .ok (.bipush 99, 2) := by decide +kernel
theorem dX14_look_55 : decode cX14_look 55 = .ok (.if_icmp .ne 7, 3) := by decide +kernel
theorem dX14_look_58 : decode cX14_look 58 = .ok (.iconst 1, 1) := by decide +kernel
theorem dX14_look_59 : decode cX14_look 59 = .ok (.goto 4, 3) := by decide +kernel
theorem dX14_look_62 : decode cX14_look 62 = .ok (.iconst 0, 1) := by decide +kernel
theorem dX14_look_63 : decode cX14_look 63 = .ok (.istore 4, 2) := by decide +kernel
theorem dX14_look_65 : decode cX14_look 65 = .ok (.iload 4, 2) := by decide +kernel
theorem dX14_look_67 : decode cX14_look 67 = .ok (.ifCond .eq 25, 3) := by decide +kernel
theorem dX14_look_70 : decode cX14_look 70 = .ok (.iload_n 1, 1) := by decide +kernel
theorem dX14_look_71 : decode cX14_look 71 = .ok (.iconst (-1), 1) := by decide +kernel
theorem dX14_look_72 : decode cX14_look 72 = .ok (.if_icmp .eq 16, 3) := by decide +kernel
theorem dX14_look_75 : decode cX14_look 75 = .ok (.aload_n 0, 1) := by decide +kernel
theorem dX14_look_76 : decode cX14_look 76 = .ok (.iload_n 2, 1) := by decide +kernel
theorem dX14_look_77 : decode cX14_look 77 = .ok (.invokevirtual 125, 3) := by decide +kernel
theorem dX14_look_80 : decode cX14_look 80 = .ok (.aload_n 0, 1) := by decide +kernel
theorem dX14_look_81 : decode cX14_look 81 = .ok (.iload_n 1, 1) := by decide +kernel
theorem dX14_look_82 : decode cX14_look 82 = .ok (.invokevirtual 125, 3) := by decide +kernel
theorem dX14_look_85 : decode cX14_look 85 = .ok (.if_icmp .ge 7, 3) := by decide +kernel
theorem dX14_look_88 : decode cX14_look 88 = .ok (.iload_n 2, 1) := by decide +kernel
theorem dX14_look_89 : decode cX14_look 89 = .ok (.goto 4, 3) := by decide +kernel
theorem dX14_look_92 : decode cX14_look 92 = .ok (.iload_n 1, 1) := by decide +kernel
theorem dX14_look_93 : decode cX14_look 93 = .ok (.istore_n 1, 1) := by decide +kernel
theorem dX14_look_94 : decode cX14_look 94 = .ok (.iinc 2 1, 3) := by decide +kernel
theorem dX14_look_97 : decode cX14_look 97 = .ok (.goto (-93), 3) := by decide +kernel
theorem dX14_look_100 : decode cX14_look 100 = .ok (.iload_n 1, 1) := by decide +kernel
theorem dX14_look_101 : decode cX14_look 101 = .ok (.iconst (-1), 1) := by decide +kernel
theorem dX14_look_102 : decode cX14_look 102 = .ok (.if_icmp .ne 9, 3) := by decide +kernel
theorem dX14_look_105 : decode cX14_look 105 = .ok (.aload_n 0, 1) := by decide +kernel
theorem dX14_look_106 : decode cX14_look 106 = .ok (.iconst 1, 1) := by decide +kernel
theorem dX14_look_107 : decode cX14_look 107 = .ok (.invokevirtual 173, 3) := by decide +kernel
theorem dX14_look_110 : decode cX14_look 110 = .ok (.ireturn, 1) := by decide +kernel
theorem dX14_look_111 : decode cX14_look 111 = .ok (.aload_n 0, 1) := by decide +kernel
theorem dX14_look_112 : decode cX14_look 112 = .ok (.iconst 0, 1) := by decide +kernel
theorem dX14_look_113 : decode cX14_look 113 = .ok (.putfield 61, 3) := by decide +kernel
theorem dX14_look_116 : decode cX14_look 116 = .ok (.aload_n 0, 1) := by decide +kernel
theorem dX14_look_117 : decode cX14_look 117 = .ok (.getfield 10, 3) := by decide +kernel
theorem dX14_look_120 : decode cX14_look 120 = .ok (.iload_n 1, 1) := by decide +kernel
theorem dX14_look_121 : decode cX14_look 121 = .ok (.invokevirtual 76, 3) := by decide +kernel
theorem dX14_look_124 : decode cX14_look 124 = .ok (.checkcast 48, 3) := by decide +kernel
theorem dX14_look_127 : decode cX14_look 127 = .ok (.astore_n 2, 1) := by decide +kernel
theorem dX14_look_128 : decode cX14_look 128 = .ok (.aload_n 0, 1) := by decide +kernel
theorem dX14_look_129 : decode cX14_look 129 = .ok (.aload_n 2, 1) := by decide +kernel
theorem dX14_look_130 : decode cX14_look 130 = .ok (.invokevirtual 176, 3) := by decide +kernel
theorem dX14_look_133 : decode cX14_look 133 = .ok (.ifCond .ne 28, 3) := by decide +kernel
theorem dX14_look_136 : decode cX14_look 136 = .ok (.aload_n 2, 1) := by decide +kernel
theorem dX14_look_137 : decode cX14_look 137 = .ok (.bipush 120, 2) := by decide +kernel
theorem dX14_look_139 : decode cX14_look 139 = .ok (.putfield 53, 3) := by decide +kernel
theorem dX14_look_142 : decode cX14_look 142 = .ok (.aload_n 2, 1) := by decide +kernel
theorem dX14_look_143 : decode cX14_look 143 = .ok (.dup, 1) := by decide +kernel
theorem dX14_look_144 : decode cX14_look 144 = .ok (.getfield 180, 3) := by decide +kernel
theorem dX14_look_147 : decode cX14_look 147 = .ok (.iconst 1, 1) := by decide +kernel
theorem dX14_look_148 : decode cX14_look 148 = .ok (.iadd, 1) := by decide +kernel
theorem dX14_look_149 : decode cX14_look 149 = .ok (.putfield 180, 3) := by decide +kernel
theorem dX14_look_152 : decode cX14_look 152 = .ok (.aload_n 0, 1) := by decide +kernel
theorem dX14_look_153 : decode cX14_look 153 = .ok (.iload_n 1, 1) := by decide +kernel
theorem dX14_look_154 : decode cX14_look 154 = .ok (.iconst 0, 1) := by decide +kernel
theorem dX14_look_155 : decode cX14_look 155 = .ok (.invokevirtual 152, 3) := by decide +kernel
theorem dX14_look_158 : decode cX14_look 158 = .ok (.istore_n 3, 1) := by decide +kernel
theorem dX14_look_159 : decode cX14_look 159 = .ok (.iload_n 1, 1) := by decide +kernel
theorem dX14_look_160 : decode cX14_look 160 = .ok (.ireturn, 1) := by decide +kernel
theorem dX14_look_161 : decode cX14_look 161 = .ok (.aload_n 2, 1) := by decide +kernel
theorem dX14_look_162 : decode cX14_look 162 = .ok (.aload_n 0, 1) := by decide +kernel
theorem dX14_look_163 : decode cX14_look 163 = .ok (.invokevirtual 183, 3) := by decide +kernel
theorem dX14_look_166 : decode cX14_look 166 = .ok (.putfield 140, 3) := by decide +kernel
theorem dX14_look_169 : decode cX14_look 169 = .ok (.aload_n 2, 1) := by decide +kernel
theorem dX14_look_170 : decode cX14_look 170 = .ok (.getfield 159, 3) := by decide +kernel
theorem dX14_look_173 : decode cX14_look 173 = .ok (.ifCond .ne 24, 3) := by decide +kernel
theorem dX14_look_176 : decode cX14_look 176 = .ok (.aload_n 2, 1) := by decide +kernel
theorem dX14_look_177 : decode cX14_look 177 = .ok (.getfield 186, 3) := by decide +kernel
theorem dX14_look_180 : decode cX14_look 180 = .ok (.aload_n 0, 1) := by decide +kernel
theorem dX14_look_181 : decode cX14_look 181 = .ok (.aload_n 2, 1) := by decide +kernel
theorem dX14_look_182 : decode cX14_look 182 = .ok (.invokevirtual 189, 3) := by decide +kernel
theorem dX14_look_185 : decode cX14_look 185 = .ok (.if_icmp .le 12, 3) := by decide +kernel
theorem dX14_look_188 : decode cX14_look 188 = .ok (.aload_n 2, 1) := by decide +kernel
theorem dX14_look_189 : decode cX14_look 189 = .ok (.bipush 112, 2) := by decide +kernel
theorem dX14_look_191 : decode cX14_look 191 = .ok (.putfield 53, 3) := by decide +kernel
theorem dX14_look_194 : decode cX14_look 194 = .ok (.goto 18, 3) := by decide +kernel
theorem dX14_look_197 : decode cX14_look 197 = .ok (.aload_n 2, 1) := by decide +kernel
theorem dX14_look_198 : decode cX14_look 198 = .ok (.bipush 99, 2) := by decide +kernel
theorem dX14_look_200 : decode cX14_look 200 = .ok (.putfield 53, 3) := by decide +kernel
theorem dX14_look_203 : decode cX14_look 203 = .ok (.aload_n 2, 1) := by decide +kernel
theorem dX14_look_204 : decode cX14_look 204 = .ok (.aload_n 0, 1) := by decide +kernel
theorem dX14_look_205 : decode cX14_look 205 = .ok (.aload_n 2, 1) := by decide +kernel
theorem dX14_look_206 : decode cX14_look 206 = .ok (.invokevirtual 193, 3) := by decide +kernel
theorem dX14_look_209 : decode cX14_look 209 = .ok (.putfield 143, 3) := by decide +kernel
theorem dX14_look_212 : decode cX14_look 212 = .ok (.iload_n 1, 1) := by decide +kernel
theorem dX14_look_213 : decode cX14_look 213 = .ok (.ireturn, 1) := by decide +kernel
set_option maxRecDepth 100000 in
set_option maxHeartbeats 4000000 in
theorem m_look (l : Launch) (D : va_G) (cy : Nat → ClassId) {eda ca : Nat} {ia : Nat → Nat} {σ : SG} {K : KM} {g : GH} {n S hw : Nat} (h : Inv eda ia K g n S hw σ) (hY : nY g) (sz : Nat) : sgM l D cy eda ca ia σ sz yX14_look (Cond.code yX14_look cX14_look 5 (some .int) :: mWall) 10 244 17 124 [.ref (kA K)] (fun v σ2 => (∃ y : Int32, v = some (.int y)) ∧ Inv eda ia K g n S hw σ2) := by
  refine sg_ofW (cc := cX14_look) (maxL := 5) (ret := (some .int)) (by decide) rfl (Nat.le_of_ble_eq_true rfl) (lv := [(0, .ref (kA K))]) rfl (fun p e s m below meth c ls H N hrt hnm F hB hl => ?_) sz
  have hx := F.1.1
  have hb := F.1.2.1
  have hown := F.1.2.2.2.1
  obtain ⟨z1, z2, z3⟩ := inv_sz h
  generalize hlo : ([] : List Loc) = locs at hB ⊢
  clear hlo
  refine lv_iconst (v := (-1)) hx hb dX14_look_0 (by decide) ?_
  refine lv_istore_n (lv' := [(1, .int _), (0, .ref _)]) hx hb dX14_look_1 rfl hl (by decide) rfl (fun ls hl => ?_)
  refine lv_iconst (v := 1) hx hb dX14_look_2 (by decide) ?_
  refine lv_istore_n (lv' := [(2, .int _), (1, .int _), (0, .ref _)]) hx hb dX14_look_3 rfl hl (by decide) rfl (fun ls hl => ?_)
  have key4 : ∃ (b9 k9 : Int32), sgB D cy s σ σ H locs N 0 ∧ lv_has ls 5 [(2, .int k9), (1, .int b9), (0, .ref (kA K))] ∧ (1 ≤ k9.toInt ∧ k9.toInt ≤ n) ∧ (b9 = -1 ∨ ((1 ≤ b9.toInt ∧ b9.toInt < n) ∧ iSt g σ b9.toInt.toNat = 110)) := ⟨_, _, hB, (lv_sub hl [0, 1, 2] rfl), ⟨by decide, by have : (1 : Int32).toInt = 1 := rfl; omega⟩, Or.inl rfl⟩
  clear hB hl
  obtain ⟨b9, k9, hB, hl, hk9, hb9⟩ := key4
  obtain ⟨d4, hd4⟩ : ∃ d : Nat, d = n - k9.toInt.toNat := ⟨_, rfl⟩
  induction d4 using Nat.strongRecOn generalizing H locs ls N b9 k9
  rename_i d4 ih4
  refine lv_iload_n hx hb dX14_look_4 rfl (lv_at hl 0 rfl) ?_
  refine lv_aload_n hx hb dX14_look_5 rfl (lv_at hl 2 rfl) ?_
  refine gr_X14_10 F hB dX14_look_6 (inv_A h) (inv_r1 h) ?_
  refine sg_callV (ci := 4) F hB (m_size l D cy (by exact (inv_tD h).1) _) (cwV 0 F.1.2.2.2.2 (mgV (mm_3 _ (List.mem_of_getElem? (i := 18) rfl)) (mm_3 _ (List.mem_of_getElem? (i := 19) rfl)) (mm_3 _ (List.mem_of_getElem? (i := 20) rfl)) (mm_0 _ (List.mem_of_getElem? (i := 35) rfl)) (mm_3 _ (List.mem_of_getElem? (i := 16) rfl))) rfl rfl rfl ⟨rfl, by decide, by decide, by decide +kernel⟩ ⟨Nat.le_of_ble_eq_true rfl, Nat.le_of_ble_eq_true rfl⟩) rfl rfl (by decide) rfl hl.1 rfl (Nat.le_of_ble_eq_true rfl) dX14_look_9 (Nat.le_of_ble_eq_true rfl) (Nat.add_le_add_right (Nat.le_of_ble_eq_true rfl) _) (inv_tD h).1 (fun H locs v σ9 N hBn hX9 hP => ?_)
  clear hB; have hB := hBn; clear hBn
  obtain ⟨rfl, rfl⟩ := hP
  refine lv_icmp_ge (tgt := 100) hx hb dX14_look_12 (by decide) (fun c12 => ?_) (fun c12 => ?_)
  · refine lv_iload_n hx hb dX14_look_100 rfl (lv_at hl 1 rfl) ?_
    refine lv_iconst (v := (-1)) hx hb dX14_look_101 (by decide) ?_
    refine lv_icmp_ne (tgt := 111) hx hb dX14_look_102 (by decide) (fun c102 => ?_) (fun c102 => ?_)
    · obtain ⟨⟨hb0, hb1⟩, hb2⟩ := hb9.resolve_left c102
      have hk3 : b9.toInt.toNat < n := by omega
      have hk4 : 1 ≤ b9.toInt.toNat := by omega
      refine lv_aload_n hx hb dX14_look_111 rfl (lv_at hl 2 rfl) ?_
      refine lv_iconst (v := 0) hx hb dX14_look_112 (by decide) ?_
      refine pf_X14_61 F hB dX14_look_113 (inv_A h) (fun H locs hBn => ?_)
      clear hB; have hB := hBn; clear hBn
      have hI113 := inv_PIc (t := 20) hB h (inv_A h) (by unfold iCn; omega)
      refine lv_aload_n hx hb dX14_look_116 rfl (lv_at hl 2 rfl) ?_
      refine gr_X14_10 F hB dX14_look_117 (inv_A hI113) (inv_r1 hI113) ?_
      refine lv_iload_n hx hb dX14_look_120 rfl (lv_at hl 1 rfl) ?_
      refine sg_callV (ci := 4) F hB (m_getD l D cy hI113 b9 (by omega) (by omega) _) (cwV 1 F.1.2.2.2.2 (mgV (mm_4 _ (List.mem_of_getElem? (i := 3) rfl)) (mm_4 _ (List.mem_of_getElem? (i := 4) rfl)) (mm_4 _ (List.mem_of_getElem? (i := 5) rfl)) (mm_0 _ (List.mem_of_getElem? (i := 35) rfl)) (mm_3 _ (List.mem_of_getElem? (i := 34) rfl))) rfl rfl rfl ⟨rfl, by decide, by decide, by decide +kernel⟩ ⟨Nat.le_of_ble_eq_true rfl, Nat.le_of_ble_eq_true rfl⟩) rfl rfl (by decide) rfl hl.1 rfl (Nat.le_of_ble_eq_true rfl) dX14_look_121 (Nat.le_of_ble_eq_true rfl) (Nat.add_le_add_right (Nat.le_of_ble_eq_true rfl) _) (inv_tD hI113).1 (fun H locs v σ121 N hBn hX121 hP => ?_)
      clear hB; have hB := hBn; clear hBn
      obtain ⟨rfl, rfl⟩ := hP
      have dv121 := (inv_dv hI113 (k := (b9 : Int32).toInt.toNat) (by omega)).2.1
      refine va_castY hx hb hown (F.1.2.2.2.2 _ (List.mem_cons_of_mem _ (mm_4 _ (List.mem_of_getElem? (i := 2) rfl)))) (F.2.2.1.2.2 ("HubcascadeModel$Device", "HubcascadeModel$Device") (by decide +kernel)) (sg_recv (ci := 15) F.2.1 hB (by assumption) (by decide) rfl) dX14_look_124 ?_
      refine lv_astore_n (lv' := [(2, .ref _), (1, .int _), (0, .ref _)]) hx hb dX14_look_127 rfl hl (by decide) rfl (fun ls hl => ?_)
      obtain ⟨e3, f3, lf3a, -, -, lf3, -, -, -, -, lf8, lf9⟩ := inv_ends hI113 (k := b9.toInt.toNat) hk3
      refine lv_aload_n hx hb dX14_look_128 rfl (lv_at hl 2 rfl) ?_
      refine lv_aload_n hx hb dX14_look_129 rfl (lv_at hl 0 rfl) ?_
      refine sg_callV (ci := 19) F hB (m_controls l D cy hI113 dv121 lf3 lf8 lf9 _) (cwV 1 F.1.2.2.2.2 (mgV (mm_6 _ (List.mem_of_getElem? (i := 31) rfl)) (mm_6 _ (List.mem_of_getElem? (i := 32) rfl)) (mm_6 _ (List.mem_of_getElem? (i := 33) rfl)) (mm_3 _ (List.mem_of_getElem? (i := 23) rfl)) (mm_6 _ (List.mem_of_getElem? (i := 23) rfl))) rfl rfl rfl ⟨rfl, by decide, by decide, by decide +kernel⟩ ⟨Nat.le_of_ble_eq_true rfl, Nat.le_of_ble_eq_true rfl⟩) rfl rfl (by decide) rfl hl.1 rfl (Nat.le_of_ble_eq_true rfl) dX14_look_130 (Nat.le_of_ble_eq_true rfl) (Nat.add_le_add_right (Nat.le_of_ble_eq_true rfl) _) (inv_A hI113) (fun H locs v σ130 N hBn hX130 hP => ?_)
      clear hB; have hB := hBn; clear hBn
      obtain ⟨b130, rfl, hb130, hI130, hd130⟩ := hP
      have s130 := dFr_st hI113 hd130 hk3
      have t130 : sgT σ130 (gDv g b9.toInt.toNat) = 16 := tFr_T hd130.1 dv121 (by decide)
      have u130 : iSt g σ130 b9.toInt.toNat = 110 := s130.1.trans (iSt_th.trans hb2)
      refine lv_if_ne (tgt := 161) hx hb dX14_look_133 (by decide) (fun c133 => ?_) (fun c133 => ?_)
      · refine lv_aload_n hx hb dX14_look_161 rfl (lv_at hl 0 rfl) ?_
        refine lv_aload_n hx hb dX14_look_162 rfl (lv_at hl 2 rfl) ?_
        refine sg_callV (ci := 19) F hB (m_freeAddr l D cy hI130 _) (cwV 0 F.1.2.2.2.2 (mgV (mm_6 _ (List.mem_of_getElem? (i := 34) rfl)) (mm_6 _ (List.mem_of_getElem? (i := 35) rfl)) (mm_6 _ (List.mem_of_getElem? (i := 36) rfl)) (mm_3 _ (List.mem_of_getElem? (i := 23) rfl)) (mm_6 _ (List.mem_of_getElem? (i := 25) rfl))) rfl rfl rfl ⟨rfl, by decide, by decide, by decide +kernel⟩ ⟨Nat.le_of_ble_eq_true rfl, Nat.le_of_ble_eq_true rfl⟩) rfl rfl (by decide) rfl hl.1 rfl (Nat.le_of_ble_eq_true rfl) dX14_look_163 (Nat.le_of_ble_eq_true rfl) (Nat.add_le_add_right (Nat.le_of_ble_eq_true rfl) _) (inv_A hI130) (fun H locs v σ163 N hBn hX163 hP => ?_)
        clear hB; have hB := hBn; clear hBn
        obtain ⟨⟨y163, rfl⟩, hI163, hd163⟩ := hP
        have s163 := dFr_st hI130 hd163 hk3
        have t163 : sgT σ163 (gDv g b9.toInt.toNat) = 16 := tFr_T hd163.1 t130 (by decide)
        have u163 : iSt g σ163 b9.toInt.toNat = 110 := s163.1.trans u130
        refine pf_X14_140 F hB dX14_look_166 t163 (fun H locs hBn => ?_)
        clear hB; have hB := hBn; clear hBn
        have hI166 := inv_PIc (t := 16) hB hI163 t163 (by unfold iCn; omega)
        have u166 : iSt g (sgPI σ163 (gDv g b9.toInt.toNat) 9 y163) b9.toInt.toNat = 110 := (sgI_nk (by decide)).trans u163
        have n166 : ¬ iSt g (sgPI σ163 (gDv g b9.toInt.toNat) 9 y163) b9.toInt.toNat = 117 := fun z => by rw [u166] at z; exact absurd z (by decide)
        have hh := m_hub hI166 hY hb0 hb1 n166
        refine lv_aload_n hx hb dX14_look_169 rfl (lv_at hl 0 rfl) ?_
        refine gf_X14_159 F hB dX14_look_170 (by exact t163) ?_
        refine lv_if_ne (tgt := 197) hx hb dX14_look_173 (by decide) (fun c173 => ?_) (fun c173 => ?_)
        · refine lv_aload_n hx hb dX14_look_197 rfl (lv_at hl 0 rfl) ?_
          refine lv_bipush (v := 99) hx hb dX14_look_198 (by decide) ?_
          refine pf_X14_53 F hB dX14_look_200 (by exact t163) ⟨by decide, by decide⟩ (fun H locs hBn => ?_)
          clear hB; have hB := hBn; clear hBn
          have hI200 := inv_st (v := 99) hI166 hk4 hk3 (by decide) n166
          refine lv_aload_n hx hb dX14_look_203 rfl (lv_at hl 0 rfl) ?_
          refine lv_aload_n hx hb dX14_look_204 rfl (lv_at hl 2 rfl) ?_
          refine lv_aload_n hx hb dX14_look_205 rfl (lv_at hl 0 rfl) ?_
          refine sg_callV (ci := 19) F hB (m_driverFor l D cy hI200 (by exact t163) _) (cwV 1 F.1.2.2.2.2 (mgV (mm_7 _ (List.mem_of_getElem? (i := 0) rfl)) (mm_7 _ (List.mem_of_getElem? (i := 1) rfl)) (mm_7 _ (List.mem_of_getElem? (i := 2) rfl)) (mm_3 _ (List.mem_of_getElem? (i := 23) rfl)) (mm_6 _ (List.mem_of_getElem? (i := 27) rfl))) rfl rfl rfl ⟨rfl, by decide, by decide, by decide +kernel⟩ ⟨Nat.le_of_ble_eq_true rfl, Nat.le_of_ble_eq_true rfl⟩) rfl rfl (by decide) rfl hl.1 rfl (Nat.le_of_ble_eq_true rfl) dX14_look_206 (Nat.le_of_ble_eq_true rfl) (Nat.add_le_add_right (Nat.le_of_ble_eq_true rfl) _) (inv_A hI200) (fun H locs v σ206 N hBn hX206 hP => ?_)
          clear hB; have hB := hBn; clear hBn
          obtain ⟨⟨y206, rfl⟩, rfl⟩ := hP
          refine pf_X14_143 F hB dX14_look_209 (by exact t163) (fun H locs hBn => ?_)
          clear hB; have hB := hBn; clear hBn
          have hI209 := inv_PIc (t := 16) hB hI200 (by exact t163) (by unfold iCn; omega)
          refine lv_iload_n hx hb dX14_look_212 rfl (lv_at hl 1 rfl) ?_
          exact sg_iret F hB hrt dX14_look_213 (by decide) (by decide) (⟨⟨_, rfl⟩, hI209⟩)
        · refine lv_aload_n hx hb dX14_look_176 rfl (lv_at hl 0 rfl) ?_
          refine gf_X14_186 F hB dX14_look_177 (by exact t163) ?_
          refine lv_aload_n hx hb dX14_look_180 rfl (lv_at hl 2 rfl) ?_
          refine lv_aload_n hx hb dX14_look_181 rfl (lv_at hl 0 rfl) ?_
          refine sg_callV (ci := 19) F hB (m_given l D cy hI166 (by exact t163) hh.1 hh.2 _) (cwV 1 F.1.2.2.2.2 (mgV (mm_6 _ (List.mem_of_getElem? (i := 37) rfl)) (mm_6 _ (List.mem_of_getElem? (i := 38) rfl)) (mm_6 _ (List.mem_of_getElem? (i := 39) rfl)) (mm_3 _ (List.mem_of_getElem? (i := 23) rfl)) (mm_6 _ (List.mem_of_getElem? (i := 22) rfl))) rfl rfl rfl ⟨rfl, by decide, by decide, by decide +kernel⟩ ⟨Nat.le_of_ble_eq_true rfl, Nat.le_of_ble_eq_true rfl⟩) rfl rfl (by decide) rfl hl.1 rfl (Nat.le_of_ble_eq_true rfl) dX14_look_182 (Nat.le_of_ble_eq_true rfl) (Nat.add_le_add_right (Nat.le_of_ble_eq_true rfl) _) (inv_A hI166) (fun H locs v σ182 N hBn hX182 hP => ?_)
          clear hB; have hB := hBn; clear hBn
          obtain ⟨⟨y182, rfl⟩, rfl⟩ := hP
          refine lv_icmp_le (tgt := 197) hx hb dX14_look_185 (by decide) (fun c185 => ?_) (fun c185 => ?_)
          · refine lv_aload_n hx hb dX14_look_197 rfl (lv_at hl 0 rfl) ?_
            refine lv_bipush (v := 99) hx hb dX14_look_198 (by decide) ?_
            refine pf_X14_53 F hB dX14_look_200 (by exact t163) ⟨by decide, by decide⟩ (fun H locs hBn => ?_)
            clear hB; have hB := hBn; clear hBn
            have hI200 := inv_st (v := 99) hI166 hk4 hk3 (by decide) n166
            refine lv_aload_n hx hb dX14_look_203 rfl (lv_at hl 0 rfl) ?_
            refine lv_aload_n hx hb dX14_look_204 rfl (lv_at hl 2 rfl) ?_
            refine lv_aload_n hx hb dX14_look_205 rfl (lv_at hl 0 rfl) ?_
            refine sg_callV (ci := 19) F hB (m_driverFor l D cy hI200 (by exact t163) _) (cwV 1 F.1.2.2.2.2 (mgV (mm_7 _ (List.mem_of_getElem? (i := 0) rfl)) (mm_7 _ (List.mem_of_getElem? (i := 1) rfl)) (mm_7 _ (List.mem_of_getElem? (i := 2) rfl)) (mm_3 _ (List.mem_of_getElem? (i := 23) rfl)) (mm_6 _ (List.mem_of_getElem? (i := 27) rfl))) rfl rfl rfl ⟨rfl, by decide, by decide, by decide +kernel⟩ ⟨Nat.le_of_ble_eq_true rfl, Nat.le_of_ble_eq_true rfl⟩) rfl rfl (by decide) rfl hl.1 rfl (Nat.le_of_ble_eq_true rfl) dX14_look_206 (Nat.le_of_ble_eq_true rfl) (Nat.add_le_add_right (Nat.le_of_ble_eq_true rfl) _) (inv_A hI200) (fun H locs v σ206 N hBn hX206 hP => ?_)
            clear hB; have hB := hBn; clear hBn
            obtain ⟨⟨y206, rfl⟩, rfl⟩ := hP
            refine pf_X14_143 F hB dX14_look_209 (by exact t163) (fun H locs hBn => ?_)
            clear hB; have hB := hBn; clear hBn
            have hI209 := inv_PIc (t := 16) hB hI200 (by exact t163) (by unfold iCn; omega)
            refine lv_iload_n hx hb dX14_look_212 rfl (lv_at hl 1 rfl) ?_
            exact sg_iret F hB hrt dX14_look_213 (by decide) (by decide) (⟨⟨_, rfl⟩, hI209⟩)
          · refine lv_aload_n hx hb dX14_look_188 rfl (lv_at hl 0 rfl) ?_
            refine lv_bipush (v := 112) hx hb dX14_look_189 (by decide) ?_
            refine pf_X14_53 F hB dX14_look_191 (by exact t163) ⟨by decide, by decide⟩ (fun H locs hBn => ?_)
            clear hB; have hB := hBn; clear hBn
            have hI191 := inv_st (v := 112) hI166 hk4 hk3 (by decide) n166
            refine lv_goto (tgt := 212) hx hb dX14_look_194 (by decide) ?_
            refine lv_iload_n hx hb dX14_look_212 rfl (lv_at hl 1 rfl) ?_
            exact sg_iret F hB hrt dX14_look_213 (by decide) (by decide) (⟨⟨_, rfl⟩, hI191⟩)
      · refine lv_aload_n hx hb dX14_look_136 rfl (lv_at hl 0 rfl) ?_
        refine lv_bipush (v := 120) hx hb dX14_look_137 (by decide) ?_
        refine pf_X14_53 F hB dX14_look_139 t130 ⟨by decide, by decide⟩ (fun H locs hBn => ?_)
        clear hB; have hB := hBn; clear hBn
        have hI139 := inv_st (v := 120) hI130 hk4 hk3 (by decide) (fun z => by rw [u130] at z; exact absurd z (by decide))
        refine lv_aload_n hx hb dX14_look_142 rfl (lv_at hl 0 rfl) ?_
        refine lv_dup hx hb dX14_look_143 rfl ?_
        refine gf_X14_180 F hB dX14_look_144 (by exact t130) ?_
        refine lv_iconst (v := 1) hx hb dX14_look_147 (by decide) ?_
        refine lv_iadd hx hb dX14_look_148 ?_
        refine pf_X14_180 F hB dX14_look_149 (by exact t130) (fun H locs hBn => ?_)
        clear hB; have hB := hBn; clear hBn
        have hI149 := inv_PIc (t := 16) hB hI139 (by exact t130) (by unfold iCn; omega)
        refine lv_aload_n hx hb dX14_look_152 rfl (lv_at hl 2 rfl) ?_
        refine lv_iload_n hx hb dX14_look_153 rfl (lv_at hl 1 rfl) ?_
        refine lv_iconst (v := 0) hx hb dX14_look_154 (by decide) ?_
        refine sg_callV (ci := 19) F hB (m_unplugs l D cy hI149 hY b9 0 hb0 hb1 _) (cwV 2 F.1.2.2.2.2 (mgV (mm_6 _ (List.mem_of_getElem? (i := 9) rfl)) (mm_6 _ (List.mem_of_getElem? (i := 10) rfl)) (mm_6 _ (List.mem_of_getElem? (i := 11) rfl)) (mm_3 _ (List.mem_of_getElem? (i := 23) rfl)) (mm_6 _ (List.mem_of_getElem? (i := 4) rfl))) rfl rfl rfl ⟨rfl, by decide, by decide, by decide +kernel⟩ ⟨Nat.le_of_ble_eq_true rfl, Nat.le_of_ble_eq_true rfl⟩) rfl rfl (by decide) rfl hl.1 rfl (Nat.le_of_ble_eq_true rfl) dX14_look_155 (Nat.le_of_ble_eq_true rfl) (Nat.add_le_add_right (Nat.le_of_ble_eq_true rfl) _) (inv_A hI149) (fun H locs v σ155 N hBn hX155 hP => ?_)
        clear hB; have hB := hBn; clear hBn
        obtain ⟨⟨w155, rfl⟩, hI155⟩ := hP
        refine lv_istore_n (lv' := [(3, .int _), (2, .ref _), (1, .int _), (0, .ref _)]) hx hb dX14_look_158 rfl hl (by decide) rfl (fun ls hl => ?_)
        refine lv_iload_n hx hb dX14_look_159 rfl (lv_at hl 2 rfl) ?_
        exact sg_iret F hB hrt dX14_look_160 (by decide) (by decide) (⟨⟨_, rfl⟩, hI155⟩)
    · refine lv_aload_n hx hb dX14_look_105 rfl (lv_at hl 2 rfl) ?_
      refine lv_iconst (v := 1) hx hb dX14_look_106 (by decide) ?_
      refine sg_callV (ci := 19) F hB (m_raises l D cy (inv_A h) 1 _) (cwV 1 F.1.2.2.2.2 (mgV (mm_6 _ (List.mem_of_getElem? (i := 28) rfl)) (mm_6 _ (List.mem_of_getElem? (i := 29) rfl)) (mm_6 _ (List.mem_of_getElem? (i := 30) rfl)) (mm_3 _ (List.mem_of_getElem? (i := 23) rfl)) (mm_3 _ (List.mem_of_getElem? (i := 15) rfl))) rfl rfl rfl ⟨rfl, by decide, by decide, by decide +kernel⟩ ⟨Nat.le_of_ble_eq_true rfl, Nat.le_of_ble_eq_true rfl⟩) rfl rfl (by decide) rfl hl.1 rfl (Nat.le_of_ble_eq_true rfl) dX14_look_107 (Nat.le_of_ble_eq_true rfl) (Nat.add_le_add_right (Nat.le_of_ble_eq_true rfl) _) (inv_A h) (fun H locs v σ107 N hBn hX107 hP => ?_)
      clear hB; have hB := hBn; clear hBn
      obtain ⟨rfl, rfl⟩ := hP
      have hI107 := inv_th h 1
      exact sg_iret F hB hrt dX14_look_110 (by decide) (by decide) (⟨⟨_, rfl⟩, hI107⟩)
  · have hi4 := i_nle c12
    rw [z1] at hi4
    have hk91 := hk9.1
    refine lv_aload_n hx hb dX14_look_15 rfl (lv_at hl 2 rfl) ?_
    refine gr_X14_10 F hB dX14_look_16 (inv_A h) (inv_r1 h) ?_
    refine lv_iload_n hx hb dX14_look_19 rfl (lv_at hl 0 rfl) ?_
    refine sg_callV (ci := 4) F hB (m_getD l D cy h k9 (by omega) (by omega) _) (cwV 1 F.1.2.2.2.2 (mgV (mm_4 _ (List.mem_of_getElem? (i := 3) rfl)) (mm_4 _ (List.mem_of_getElem? (i := 4) rfl)) (mm_4 _ (List.mem_of_getElem? (i := 5) rfl)) (mm_0 _ (List.mem_of_getElem? (i := 35) rfl)) (mm_3 _ (List.mem_of_getElem? (i := 34) rfl))) rfl rfl rfl ⟨rfl, by decide, by decide, by decide +kernel⟩ ⟨Nat.le_of_ble_eq_true rfl, Nat.le_of_ble_eq_true rfl⟩) rfl rfl (by decide) rfl hl.1 rfl (Nat.le_of_ble_eq_true rfl) dX14_look_20 (Nat.le_of_ble_eq_true rfl) (Nat.add_le_add_right (Nat.le_of_ble_eq_true rfl) _) (inv_tD h).1 (fun H locs v σ20 N hBn hX20 hP => ?_)
    clear hB; have hB := hBn; clear hBn
    obtain ⟨rfl, rfl⟩ := hP
    have dv20 := (inv_dv h (k := (k9 : Int32).toInt.toNat) (by omega)).2.1
    refine va_castY hx hb hown (F.1.2.2.2.2 _ (List.mem_cons_of_mem _ (mm_4 _ (List.mem_of_getElem? (i := 2) rfl)))) (F.2.2.1.2.2 ("HubcascadeModel$Device", "HubcascadeModel$Device") (by decide +kernel)) (sg_recv (ci := 15) F.2.1 hB (by assumption) (by decide) rfl) dX14_look_23 ?_
    refine lv_astore_n (lv' := [(3, .ref _), (2, .int _), (1, .int _), (0, .ref _)]) hx hb dX14_look_26 rfl hl (by decide) rfl (fun ls hl => ?_)
    refine lv_aload_n hx hb dX14_look_27 rfl (lv_at hl 0 rfl) ?_
    refine gf_X14_53 F hB dX14_look_28 dv20 ?_
    refine lv_bipush (v := 110) hx hb dX14_look_31 (by decide) ?_
    refine lv_icmp_ne (tgt := 62) hx hb dX14_look_33 (by decide) (fun c33 => ?_) (fun c33 => ?_)
    · refine lv_iconst (v := 0) hx hb dX14_look_62 (by decide) ?_
      refine lv_istore (lv' := [(4, .int _), (3, .ref _), (2, .int _), (1, .int _), (0, .ref _)]) hx hb dX14_look_63 hl (by decide) rfl (fun ls hl => ?_)
      refine lv_iload hx hb dX14_look_65 (lv_at hl 0 rfl) ?_
      refine lv_if_eq (tgt := 92) hx hb dX14_look_67 (by decide) (fun c67 => ?_) (fun c67 => (by first | exact absurd c67 (by decide) | exact (c67 (by decide)).elim))
      refine lv_iload_n hx hb dX14_look_92 rfl (lv_at hl 3 rfl) ?_
      refine lv_istore_n (lv' := [(1, .int _), (4, .int _), (3, .ref _), (2, .int _), (0, .ref _)]) hx hb dX14_look_93 rfl hl (by decide) rfl (fun ls hl => ?_)
      refine lv_iinc (lv' := [(2, .int _), (1, .int _), (4, .int _), (3, .ref _), (0, .ref _)]) hx hb dX14_look_94 hl (k := 3) rfl rfl (by decide) rfl (fun ls hl => ?_)
      refine lv_goto (tgt := 4) hx hb dX14_look_97 (by decide) ?_
      have hi3 := i_nle c12
      rw [z1] at hi3
      have e9 : (k9 + Int32.ofInt 1).toInt = k9.toInt + 1 := m_add1 (by omega) (by omega)
      exact ih4 _ (by subst hd4; rw [e9]; omega) _ _ _ _ _ _ hB (lv_sub hl [0, 1, 4] rfl) ⟨by rw [e9]; omega, by rw [e9]; omega⟩ (by first | with_reducible exact hb9 | exact Or.inr ⟨⟨hk9.1, hi3⟩, c33⟩) rfl
    · have hup := m_hub h hY (x := k9) (by omega) (by omega) (fun z => by have c33 : iSt g σ k9.toInt.toNat = 110 := c33; rw [c33] at z; exact absurd z (by decide))
      refine lv_aload_n hx hb dX14_look_36 rfl (lv_at hl 3 rfl) ?_
      refine gr_X14_10 F hB dX14_look_37 (inv_A h) (inv_r1 h) ?_
      refine lv_aload_n hx hb dX14_look_40 rfl (lv_at hl 0 rfl) ?_
      refine gf_X14_80 F hB dX14_look_41 dv20 ?_
      refine sg_callV (ci := 4) F hB (m_getD l D cy h (sgI σ (gDv g k9.toInt.toNat) 7) (by omega) (by omega) _) (cwV 1 F.1.2.2.2.2 (mgV (mm_4 _ (List.mem_of_getElem? (i := 3) rfl)) (mm_4 _ (List.mem_of_getElem? (i := 4) rfl)) (mm_4 _ (List.mem_of_getElem? (i := 5) rfl)) (mm_0 _ (List.mem_of_getElem? (i := 35) rfl)) (mm_3 _ (List.mem_of_getElem? (i := 34) rfl))) rfl rfl rfl ⟨rfl, by decide, by decide, by decide +kernel⟩ ⟨Nat.le_of_ble_eq_true rfl, Nat.le_of_ble_eq_true rfl⟩) rfl rfl (by decide) rfl hl.1 rfl (Nat.le_of_ble_eq_true rfl) dX14_look_44 (Nat.le_of_ble_eq_true rfl) (Nat.add_le_add_right (Nat.le_of_ble_eq_true rfl) _) (inv_tD h).1 (fun H locs v σ44 N hBn hX44 hP => ?_)
      clear hB; have hB := hBn; clear hBn
      obtain ⟨rfl, rfl⟩ := hP
      have dv44 := (inv_dv h (k := ((sgI σ (gDv g k9.toInt.toNat) 7) : Int32).toInt.toNat) (by omega)).2.1
      refine va_castY hx hb hown (F.1.2.2.2.2 _ (List.mem_cons_of_mem _ (mm_4 _ (List.mem_of_getElem? (i := 2) rfl)))) (F.2.2.1.2.2 ("HubcascadeModel$Device", "HubcascadeModel$Device") (by decide +kernel)) (sg_recv (ci := 15) F.2.1 hB (by assumption) (by decide) rfl) dX14_look_47 ?_
      refine gf_X14_53 F hB dX14_look_50 dv44 ?_
      refine lv_bipush (v := 99) hx hb dX14_look_53 (by decide) ?_
      refine lv_icmp_ne (tgt := 62) hx hb dX14_look_55 (by decide) (fun c55 => ?_) (fun c55 => ?_)
      · refine lv_iconst (v := 0) hx hb dX14_look_62 (by decide) ?_
        refine lv_istore (lv' := [(4, .int _), (3, .ref _), (2, .int _), (1, .int _), (0, .ref _)]) hx hb dX14_look_63 hl (by decide) rfl (fun ls hl => ?_)
        refine lv_iload hx hb dX14_look_65 (lv_at hl 0 rfl) ?_
        refine lv_if_eq (tgt := 92) hx hb dX14_look_67 (by decide) (fun c67 => ?_) (fun c67 => (by first | exact absurd c67 (by decide) | exact (c67 (by decide)).elim))
        refine lv_iload_n hx hb dX14_look_92 rfl (lv_at hl 3 rfl) ?_
        refine lv_istore_n (lv' := [(1, .int _), (4, .int _), (3, .ref _), (2, .int _), (0, .ref _)]) hx hb dX14_look_93 rfl hl (by decide) rfl (fun ls hl => ?_)
        refine lv_iinc (lv' := [(2, .int _), (1, .int _), (4, .int _), (3, .ref _), (0, .ref _)]) hx hb dX14_look_94 hl (k := 3) rfl rfl (by decide) rfl (fun ls hl => ?_)
        refine lv_goto (tgt := 4) hx hb dX14_look_97 (by decide) ?_
        have hi3 := i_nle c12
        rw [z1] at hi3
        have e9 : (k9 + Int32.ofInt 1).toInt = k9.toInt + 1 := m_add1 (by omega) (by omega)
        exact ih4 _ (by subst hd4; rw [e9]; omega) _ _ _ _ _ _ hB (lv_sub hl [0, 1, 4] rfl) ⟨by rw [e9]; omega, by rw [e9]; omega⟩ (by first | with_reducible exact hb9 | exact Or.inr ⟨⟨hk9.1, hi3⟩, c33⟩) rfl
      · refine lv_iconst (v := 1) hx hb dX14_look_58 (by decide) ?_
        refine lv_goto (tgt := 63) hx hb dX14_look_59 (by decide) ?_
        refine lv_istore (lv' := [(4, .int _), (3, .ref _), (2, .int _), (1, .int _), (0, .ref _)]) hx hb dX14_look_63 hl (by decide) rfl (fun ls hl => ?_)
        refine lv_iload hx hb dX14_look_65 (lv_at hl 0 rfl) ?_
        refine lv_if_eq (tgt := 92) hx hb dX14_look_67 (by decide) (fun c67 => (by first | exact absurd c67 (by decide) | exact (c67 (by decide)).elim)) (fun c67 => ?_)
        refine lv_iload_n hx hb dX14_look_70 rfl (lv_at hl 3 rfl) ?_
        refine lv_iconst (v := (-1)) hx hb dX14_look_71 (by decide) ?_
        refine lv_icmp_eq (tgt := 88) hx hb dX14_look_72 (by decide) (fun c72 => ?_) (fun c72 => ?_)
        · refine lv_iload_n hx hb dX14_look_88 rfl (lv_at hl 2 rfl) ?_
          refine lv_goto (tgt := 93) hx hb dX14_look_89 (by decide) ?_
          refine lv_istore_n (lv' := [(1, .int _), (4, .int _), (3, .ref _), (2, .int _), (0, .ref _)]) hx hb dX14_look_93 rfl hl (by decide) rfl (fun ls hl => ?_)
          refine lv_iinc (lv' := [(2, .int _), (1, .int _), (4, .int _), (3, .ref _), (0, .ref _)]) hx hb dX14_look_94 hl (k := 3) rfl rfl (by decide) rfl (fun ls hl => ?_)
          refine lv_goto (tgt := 4) hx hb dX14_look_97 (by decide) ?_
          have hi3 := i_nle c12
          rw [z1] at hi3
          have e9 : (k9 + Int32.ofInt 1).toInt = k9.toInt + 1 := m_add1 (by omega) (by omega)
          exact ih4 _ (by subst hd4; rw [e9]; omega) _ _ _ _ _ _ hB (lv_sub hl [0, 1, 4] rfl) ⟨by rw [e9]; omega, by rw [e9]; omega⟩ (by first | with_reducible exact hb9 | exact Or.inr ⟨⟨hk9.1, hi3⟩, c33⟩) rfl
        · have hb91 := (hb9.resolve_left c72).1
          refine lv_aload_n hx hb dX14_look_75 rfl (lv_at hl 4 rfl) ?_
          refine lv_iload_n hx hb dX14_look_76 rfl (lv_at hl 2 rfl) ?_
          refine sg_callV (ci := 19) F hB (m_depth l D cy h k9 (by omega) (by omega) _) (cwV 1 F.1.2.2.2.2 (mgV (mm_5 _ (List.mem_of_getElem? (i := 15) rfl)) (mm_5 _ (List.mem_of_getElem? (i := 16) rfl)) (mm_5 _ (List.mem_of_getElem? (i := 17) rfl)) (mm_3 _ (List.mem_of_getElem? (i := 23) rfl)) (mm_4 _ (List.mem_of_getElem? (i := 1) rfl))) rfl rfl rfl ⟨rfl, by decide, by decide, by decide +kernel⟩ ⟨Nat.le_of_ble_eq_true rfl, Nat.le_of_ble_eq_true rfl⟩) rfl rfl (by decide) rfl hl.1 rfl (Nat.le_of_ble_eq_true rfl) dX14_look_77 (Nat.le_of_ble_eq_true rfl) (Nat.add_le_add_right (Nat.le_of_ble_eq_true rfl) _) (inv_A h) (fun H locs v σ77 N hBn hX77 hP => ?_)
          clear hB; have hB := hBn; clear hBn
          obtain ⟨⟨y77, rfl⟩, rfl⟩ := hP
          refine lv_aload_n hx hb dX14_look_80 rfl (lv_at hl 4 rfl) ?_
          refine lv_iload_n hx hb dX14_look_81 rfl (lv_at hl 3 rfl) ?_
          refine sg_callV (ci := 19) F hB (m_depth l D cy h b9 (by omega) (by omega) _) (cwV 1 F.1.2.2.2.2 (mgV (mm_5 _ (List.mem_of_getElem? (i := 15) rfl)) (mm_5 _ (List.mem_of_getElem? (i := 16) rfl)) (mm_5 _ (List.mem_of_getElem? (i := 17) rfl)) (mm_3 _ (List.mem_of_getElem? (i := 23) rfl)) (mm_4 _ (List.mem_of_getElem? (i := 1) rfl))) rfl rfl rfl ⟨rfl, by decide, by decide, by decide +kernel⟩ ⟨Nat.le_of_ble_eq_true rfl, Nat.le_of_ble_eq_true rfl⟩) rfl rfl (by decide) rfl hl.1 rfl (Nat.le_of_ble_eq_true rfl) dX14_look_82 (Nat.le_of_ble_eq_true rfl) (Nat.add_le_add_right (Nat.le_of_ble_eq_true rfl) _) (inv_A h) (fun H locs v σ82 N hBn hX82 hP => ?_)
          clear hB; have hB := hBn; clear hBn
          obtain ⟨⟨y82, rfl⟩, rfl⟩ := hP
          refine lv_icmp_ge (tgt := 92) hx hb dX14_look_85 (by decide) (fun c85 => ?_) (fun c85 => ?_)
          · refine lv_iload_n hx hb dX14_look_92 rfl (lv_at hl 3 rfl) ?_
            refine lv_istore_n (lv' := [(1, .int _), (4, .int _), (3, .ref _), (2, .int _), (0, .ref _)]) hx hb dX14_look_93 rfl hl (by decide) rfl (fun ls hl => ?_)
            refine lv_iinc (lv' := [(2, .int _), (1, .int _), (4, .int _), (3, .ref _), (0, .ref _)]) hx hb dX14_look_94 hl (k := 3) rfl rfl (by decide) rfl (fun ls hl => ?_)
            refine lv_goto (tgt := 4) hx hb dX14_look_97 (by decide) ?_
            have hi3 := i_nle c12
            rw [z1] at hi3
            have e9 : (k9 + Int32.ofInt 1).toInt = k9.toInt + 1 := m_add1 (by omega) (by omega)
            exact ih4 _ (by subst hd4; rw [e9]; omega) _ _ _ _ _ _ hB (lv_sub hl [0, 1, 4] rfl) ⟨by rw [e9]; omega, by rw [e9]; omega⟩ (by first | with_reducible exact hb9 | exact Or.inr ⟨⟨hk9.1, hi3⟩, c33⟩) rfl
          · refine lv_iload_n hx hb dX14_look_88 rfl (lv_at hl 2 rfl) ?_
            refine lv_goto (tgt := 93) hx hb dX14_look_89 (by decide) ?_
            refine lv_istore_n (lv' := [(1, .int _), (4, .int _), (3, .ref _), (2, .int _), (0, .ref _)]) hx hb dX14_look_93 rfl hl (by decide) rfl (fun ls hl => ?_)
            refine lv_iinc (lv' := [(2, .int _), (1, .int _), (4, .int _), (3, .ref _), (0, .ref _)]) hx hb dX14_look_94 hl (k := 3) rfl rfl (by decide) rfl (fun ls hl => ?_)
            refine lv_goto (tgt := 4) hx hb dX14_look_97 (by decide) ?_
            have hi3 := i_nle c12
            rw [z1] at hi3
            have e9 : (k9 + Int32.ofInt 1).toInt = k9.toInt + 1 := m_add1 (by omega) (by omega)
            exact ih4 _ (by subst hd4; rw [e9]; omega) _ _ _ _ _ _ hB (lv_sub hl [0, 1, 4] rfl) ⟨by rw [e9]; omega, by rw [e9]; omega⟩ (by first | with_reducible exact hb9 | exact Or.inr ⟨⟨hk9.1, hi3⟩, c33⟩) rfl
theorem dX14_reservedIn_0 : decode cX14_reservedIn 0 = .ok (.iconst 0, 1) := by decide +kernel
theorem dX14_reservedIn_1 : decode cX14_reservedIn 1 = .ok (.istore_n 3, 1) := by decide +kernel
theorem dX14_reservedIn_2 : decode cX14_reservedIn 2 = .ok (.aload_n 0, 1) := by decide +kernel
theorem dX14_reservedIn_3 : decode cX14_reservedIn 3 = .ok (.getfield 18, 3) := by decide +kernel
theorem dX14_reservedIn_6 : decode cX14_reservedIn 6 = .ok (.astore 4, 2) := by decide +kernel
theorem dX14_reservedIn_8 : decode cX14_reservedIn 8 = .ok (.aload 4, 2) := by decide +kernel
theorem dX14_reservedIn_10 : decode cX14_reservedIn 10 = .ok (.arraylength, 1) := by decide +kernel
theorem dX14_reservedIn_11 : decode cX14_reservedIn 11 = .ok (.istore 5, 2) := by decide +kernel
theorem dX14_reservedIn_13 : decode cX14_reservedIn 13 = .ok (.iconst 0, 1) := by decide +kernel
theorem dX14_reservedIn_14 : decode cX14_reservedIn 14 = .ok (.istore 6, 2) := by decide +kernel
theorem dX14_reservedIn_16 : decode cX14_reservedIn 16 = .ok (.iload 6, 2) := by decide +kernel
theorem dX14_reservedIn_18 : decode cX14_reservedIn 18 = .ok (.iload 5, 2) := by decide +kernel
theorem dX14_reservedIn_20 : decode cX14_reservedIn 20 = .ok (.if_icmp .ge 147, 3) := by decide +kernel
theorem dX14_reservedIn_23 : decode cX14_reservedIn 23 = .ok (.aload 4, 2) := by decide +kernel
theorem dX14_reservedIn_25 : decode cX14_reservedIn 25 = .ok (.iload 6, 2) := by decide +kernel
theorem dX14_reservedIn_27 : decode cX14_reservedIn 27 = .ok (.aaload, 1) := by decide +kernel
theorem dX14_reservedIn_28 : decode cX14_reservedIn 28 = .ok (.astore 7, 2) := by decide +kernel
theorem dX14_reservedIn_30 : decode cX14_reservedIn 30 = .ok (.aload 7, 2) := by decide +kernel
theorem dX14_reservedIn_32 : decode cX14_reservedIn 32 = .ok (.ifnull 129, 3) := by decide +kernel
theorem dX14_reservedIn_35 : decode cX14_reservedIn 35 = .ok (.aload 7, 2) := by decide +kernel
theorem dX14_reservedIn_37 : decode cX14_reservedIn 37 = .ok (.invokevirtual 226, 3) := by decide +kernel
theorem dX14_reservedIn_40 : decode cX14_reservedIn 40 = .ok (.ifCond .eq 121, 3) := by decide +kernel
theorem dX14_reservedIn_43 : decode cX14_reservedIn 43 = .ok (.iload_n 1, 1) := by decide +kernel
theorem dX14_reservedIn_44 : decode cX14_reservedIn 44 = .ok (.aload 7, 2) := by decide +kernel
theorem dX14_reservedIn_46 : decode cX14_reservedIn 46 = .ok (.getfield 229, 3) := by decide +kernel
theorem dX14_reservedIn_49 : decode cX14_reservedIn 49 = .ok (.irem, 1) := by decide +kernel
theorem dX14_reservedIn_50 : decode cX14_reservedIn 50 = .ok (.aload 7, 2) := by decide +kernel
theorem dX14_reservedIn_52 : decode cX14_reservedIn 52 = .ok (.getfield 232, 3) := by decide +kernel
theorem dX14_reservedIn_55 : decode cX14_reservedIn 55 = .ok (.if_icmp .ne 106, 3) := by decide +kernel
theorem dX14_reservedIn_58 : decode cX14_reservedIn 58 = .ok (.aload_n 0, 1) := by decide +kernel
theorem dX14_reservedIn_59 : decode cX14_reservedIn 59 = .ok (.getfield 10, 3) := by decide +kernel
theorem dX14_reservedIn_62 : decode cX14_reservedIn 62 = .ok (.aload 7, 2) := by decide +kernel
theorem dX14_reservedIn_64 : decode cX14_reservedIn 64 = .ok (.getfield 133, 3) := by decide +kernel
theorem dX14_reservedIn_67 : decode cX14_reservedIn 67 = .ok (.invokevirtual 76, 3) := by decide +kernel
theorem dX14_reservedIn_70 : decode cX14_reservedIn 70 = .ok (.checkcast 48, 3) := by decide +kernel
theorem dX14_reservedIn_73 : decode cX14_reservedIn 73 = .ok (.getfield 96, 3) := by decide +kernel
theorem dX14_reservedIn_76 : decode cX14_reservedIn 76 = .ok (.aload 7, 2) := by decide +kernel
theorem dX14_reservedIn_78 : decode cX14_reservedIn 78 = .ok (.getfield 235, 3) := by decide +kernel
theorem dX14_reservedIn_81 : decode cX14_reservedIn 81 = .ok (.aaload, 1) := by decide +kernel
theorem dX14_reservedIn_82 : decode cX14_reservedIn 82 = .ok (.getfield 238, 3) := by decide +kernel
theorem dX14_reservedIn_85 : decode cX14_reservedIn 85 = .ok (.istore 8, 2) := by decide +kernel
theorem dX14_reservedIn_87 : decode cX14_reservedIn 87 = .ok (.iload_n 2, 1) := by decide +kernel
theorem dX14_reservedIn_88 : decode cX14_reservedIn 88 = .ok (.iconst (-1), 1) := by decide +kernel
theorem dX14_reservedIn_89 : decode cX14_reservedIn 89 = .ok (.if_icmp .eq 33, 3) := by decide +kernel
theorem dX14_reservedIn_92 : decode cX14_reservedIn 92 = .ok (.aload_n 0, 1) := by decide +kernel
theorem dX14_reservedIn_93 : decode cX14_reservedIn 93 = .ok (.aload 7, 2) := by decide +kernel
theorem dX14_reservedIn_95 : decode cX14_reservedIn 95 = .ok (.getfield 133, 3) := by decide +kernel
theorem dX14_reservedIn_98 : decode cX14_reservedIn 98 = .ok (.iconst 1, 1) := by decide +kernel
theorem dX14_reservedIn_99 : decode cX14_reservedIn 99 = .ok (.invokevirtual 241, 3) := by decide +kernel
theorem dX14_reservedIn_102 : decode cX14_reservedIn 102 = .ok (.ifCond .le 20, 3) := by decide +kernel
theorem dX14_reservedIn_105 : decode cX14_reservedIn 105 = .ok (.aload_n 0, 1) := by decide +kernel
theorem dX14_reservedIn_106 : decode cX14_reservedIn 106 = .ok (.aload 7, 2) := by decide +kernel
theorem dX14_reservedIn_108 : decode cX14_reservedIn 108 = .ok (.getfield 133, 3) := by decide +kernel
theorem dX14_reservedIn_111 : decode cX14_reservedIn 111 = .ok (.invokevirtual 156, 3) := by decide +kernel
theorem dX14_reservedIn_114 : decode cX14_reservedIn 114 = .ok (.iload_n 2, 1) := by decide +kernel
theorem dX14_reservedIn_115 : decode cX14_reservedIn 115 = .ok (.if_icmp .ne 7, 3) := by decide +kernel
theorem dX14_reservedIn_118 : decode cX14_reservedIn 118 = .ok (.iconst 1, 1) := by decide +kernel
theorem dX14_reservedIn_119 : decode cX14_reservedIn 119 = .ok (.goto 4, 3) := by decide +kernel
theorem dX14_reservedIn_122 : decode cX14_reservedIn 122 = .ok (.iconst 0, 1) := by decide +kernel
theorem dX14_reservedIn_123 : decode cX14_reservedIn 123 = .ok (.istore 9, 2) := by decide +kernel
theorem dX14_reservedIn_125 : decode cX14_reservedIn 125 = .ok (.iload_n 3, 1) := by decide +kernel
theorem dX14_reservedIn_126 : decode cX14_reservedIn 126 = .ok (.iload_n 2, 1) := by decide +kernel
theorem dX14_reservedIn_127 : decode cX14_reservedIn 127 = .ok (.iconst (-1), 1) := by decide +kernel
theorem dX14_reservedIn_128 : decode cX14_reservedIn 128 = .ok (.if_icmp .ne 11, 3) := by decide +kernel
theorem dX14_reservedIn_131 : decode cX14_reservedIn 131 = .ok (.iload 8, 2) := by decide +kernel
theorem dX14_reservedIn_133 : decode cX14_reservedIn 133 = .ok (.invokestatic 245, 3) := by decide +kernel
theorem dX14_reservedIn_136 : decode cX14_reservedIn 136 = .ok (.goto 23, 3) := by decide +kernel
theorem dX14_reservedIn_139 : decode cX14_reservedIn 139 = .ok (.iload 9, 2) := by decide +kernel
theorem dX14_reservedIn_141 : decode cX14_reservedIn 141 = .ok (.ifCond .eq 17, 3) := by decide +kernel
theorem dX14_reservedIn_144 : decode cX14_reservedIn 144 = .ok (.aload_n 0, 1) := by decide +kernel
theorem dX14_reservedIn_145 : decode cX14_reservedIn 145 = .ok (.aload 7, 2) := by decide +kernel
theorem dX14_reservedIn_147 : decode cX14_reservedIn 147 = .ok (.getfield 133, 3) := by decide +kernel
theorem dX14_reservedIn_150 : decode cX14_reservedIn 150 = .ok (.iload 8, 2) := by decide +kernel
theorem dX14_reservedIn_152 : decode cX14_reservedIn 152 = .ok (.invokevirtual 241, 3) := by decide +kernel
theorem dX14_reservedIn_155 : decode cX14_reservedIn 155 = .ok (.goto 4, 3) := by decide +kernel
theorem dX14_reservedIn_158 : decode cX14_reservedIn 158 = .ok (.iconst 0, 1) := by decide +kernel
theorem dX14_reservedIn_159 : decode cX14_reservedIn 159 = .ok (.iadd, 1) := by decide +kernel
theorem dX14_reservedIn_160 : decode cX14_reservedIn 160 = .ok (.istore_n 3, 1) := by decide +kernel
theorem dX14_reservedIn_161 : decode cX14_reservedIn 161 = .ok (.iinc 6 1, 3) := by decide +kernel
theorem dX14_reservedIn_164 : decode cX14_reservedIn 164 = .ok (.goto (-148), 3) := by decide +kernel
theorem dX14_reservedIn_167 : decode cX14_reservedIn 167 = .ok (.iload_n 3, 1) := by decide +kernel
theorem dX14_reservedIn_168 : decode cX14_reservedIn 168 = .ok (.ireturn, 1) := by decide +kernel
set_option maxRecDepth 100000 in
set_option maxHeartbeats 4000000 in
theorem m_resIn (l : Launch) (D : va_G) (cy : Nat → ClassId) {eda ca : Nat} {ia : Nat → Nat} {σ : SG} {K : KM} {g : GH} {n S hw : Nat} (h : Inv eda ia K g n S hw σ) (hY : nY g) (x y : Int32) (sz : Nat) : sgM l D cy eda ca ia σ sz yX14_reservedIn (Cond.code yX14_reservedIn cX14_reservedIn 10 (some .int) :: mWall) 5 111 0 0 [.ref (kA K), .int x, .int y] (fun v σ2 => (∃ y : Int32, v = some (.int y)) ∧ σ = σ2) := by
  refine sg_ofW (cc := cX14_reservedIn) (maxL := 10) (ret := (some .int)) (by decide) rfl (Nat.le_of_ble_eq_true rfl) (lv := [(0, .ref (kA K)), (1, .int x), (2, .int y)]) rfl (fun p e s m below meth c ls H N hrt hnm F hB hl => ?_) sz
  have hx := F.1.1
  have hb := F.1.2.1
  have hown := F.1.2.2.2.1
  have m12 : (nI (sgN σ (kP K))).toInt = 12 := by rw [(inv_tP h).2]; rfl
  generalize hlo : ([] : List Loc) = locs at hB ⊢
  clear hlo
  refine lv_iconst (v := 0) hx hb dX14_reservedIn_0 (by decide) ?_
  refine lv_istore_n (lv' := [(3, .int _), (0, .ref _), (1, .int _), (2, .int _)]) hx hb dX14_reservedIn_1 rfl hl (by decide) rfl (fun ls hl => ?_)
  refine lv_aload_n hx hb dX14_reservedIn_2 rfl (lv_at hl 1 rfl) ?_
  refine gr_X14_18 F hB dX14_reservedIn_3 (inv_A h) (inv_r2 h) ?_
  refine lv_astore (lv' := [(4, .ref _), (3, .int _), (0, .ref _), (1, .int _), (2, .int _)]) hx hb dX14_reservedIn_6 hl (by decide) rfl (fun ls hl => ?_)
  refine lv_aload hx hb dX14_reservedIn_8 (lv_at hl 0 rfl) ?_
  refine sg_alen 9 hx hb F.2.1 hB.1 rfl dX14_reservedIn_10 (inv_tP h).1 ?_
  refine lv_istore (lv' := [(5, .int _), (4, .ref _), (3, .int _), (0, .ref _), (1, .int _), (2, .int _)]) hx hb dX14_reservedIn_11 hl (by decide) rfl (fun ls hl => ?_)
  refine lv_iconst (v := 0) hx hb dX14_reservedIn_13 (by decide) ?_
  refine lv_istore (lv' := [(6, .int _), (5, .int _), (4, .ref _), (3, .int _), (0, .ref _), (1, .int _), (2, .int _)]) hx hb dX14_reservedIn_14 hl (by decide) rfl (fun ls hl => ?_)
  have key16 : ∃ (i9 s9 : Int32), sgB D cy s σ σ H locs N 0 ∧ lv_has ls 10 [(6, .int i9), (5, .int (nI (sgN σ (kP K)))), (4, .ref (kP K)), (3, .int s9), (2, .int y), (1, .int x), (0, .ref (kA K))] ∧ (0 ≤ i9.toInt ∧ i9.toInt ≤ 12) := ⟨_, _, hB, (lv_sub hl [0, 1, 2, 3, 6, 5, 4] rfl), ⟨by decide, by decide⟩⟩
  clear hB hl
  obtain ⟨i9, s9, hB, hl, hi⟩ := key16
  obtain ⟨d16, hd16⟩ : ∃ d : Nat, d = 12 - i9.toInt.toNat := ⟨_, rfl⟩
  induction d16 using Nat.strongRecOn generalizing H locs ls N i9 s9
  rename_i d16 ih16
  refine lv_iload hx hb dX14_reservedIn_16 (lv_at hl 0 rfl) ?_
  refine lv_iload hx hb dX14_reservedIn_18 (lv_at hl 1 rfl) ?_
  refine lv_icmp_ge (tgt := 167) hx hb dX14_reservedIn_20 (by decide) (fun c20 => ?_) (fun c20 => ?_)
  · refine lv_iload_n hx hb dX14_reservedIn_167 rfl (lv_at hl 3 rfl) ?_
    exact sg_iret F hB hrt dX14_reservedIn_168 (by decide) (by decide) (⟨⟨_, rfl⟩, rfl⟩)
  · have hi4 := i_nle c20
    rw [m12] at hi4
    refine lv_aload hx hb dX14_reservedIn_23 (lv_at hl 2 rfl) ?_
    refine lv_iload hx hb dX14_reservedIn_25 (lv_at hl 0 rfl) ?_
    refine sg_aald 9 hx hb F.2.1 hB.1 rfl rfl dX14_reservedIn_27 (inv_tP h).1 (by omega) (m_ltN (n := 12) (inv_tP h).2 (by omega)) (m_ltM (inv_tP h).2 (by decide)) ?_
    refine sg_split (fun hz27 => ?_) (fun b27 hz27 => ?_)
    · skip
      refine lv_astoreN (lv' := [(7, .null), (6, .int _), (5, .int _), (4, .ref _), (3, .int _), (2, .int _), (1, .int _), (0, .ref _)]) hx hb dX14_reservedIn_28 hl (by decide) rfl (fun ls hl => ?_)
      refine lv_aloadN hx hb dX14_reservedIn_30 (lv_at hl 0 rfl) ?_
      refine lv_ifnullN (tgt := 161) hx hb dX14_reservedIn_32 (by decide) ?_
      refine lv_iinc (lv' := [(6, .int _), (7, .null), (5, .int _), (4, .ref _), (3, .int _), (2, .int _), (1, .int _), (0, .ref _)]) hx hb dX14_reservedIn_161 hl (k := 1) rfl rfl (by decide) rfl (fun ls hl => ?_)
      refine lv_goto (tgt := 16) hx hb dX14_reservedIn_164 (by decide) ?_
      have hi3 := i_nle c20
      rw [m12] at hi3
      have e9 : (i9 + Int32.ofInt 1).toInt = i9.toInt + 1 := m_add1 (by omega) (by omega)
      exact ih16 _ (by subst hd16; rw [e9]; omega) _ _ _ _ _ _ hB (lv_sub hl [0, 2, 3, 4, 5, 6, 7] rfl) ⟨by rw [e9]; omega, by rw [e9]; omega⟩ rfl
    · skip
      have tp := inv_pp h (j := i9.toInt.toNat) (by omega) hz27
      obtain ⟨e2, x2, ⟨pn1, pn2, pn3, pn4, pn5⟩, en1, en4, ee, en6, en7⟩ := inv_pe h tp
      refine lv_astore (lv' := [(7, .ref _), (6, .int _), (5, .int _), (4, .ref _), (3, .int _), (2, .int _), (1, .int _), (0, .ref _)]) hx hb dX14_reservedIn_28 hl (by decide) rfl (fun ls hl => ?_)
      refine lv_aload hx hb dX14_reservedIn_30 (lv_at hl 0 rfl) ?_
      refine lv_ifnull hx hb dX14_reservedIn_32 ?_
      refine lv_aload hx hb dX14_reservedIn_35 (lv_at hl 0 rfl) ?_
      refine sg_callV (ci := 17) F hB (m_isPer l D cy tp _) (cwV 0 F.1.2.2.2.2 (mgV (mm_8 _ (List.mem_of_getElem? (i := 12) rfl)) (mm_8 _ (List.mem_of_getElem? (i := 13) rfl)) (mm_8 _ (List.mem_of_getElem? (i := 14) rfl)) (mm_8 _ (List.mem_of_getElem? (i := 15) rfl)) (mm_1 _ (List.mem_of_getElem? (i := 14) rfl))) rfl rfl rfl ⟨rfl, by decide, by decide, by decide +kernel⟩ ⟨Nat.le_of_ble_eq_true rfl, Nat.le_of_ble_eq_true rfl⟩) rfl rfl (by decide) rfl hl.1 rfl (Nat.le_of_ble_eq_true rfl) dX14_reservedIn_37 (Nat.le_of_ble_eq_true rfl) (Nat.add_le_add_right (Nat.le_of_ble_eq_true rfl) _) tp (fun H locs v σ37 N hBn hX37 hP => ?_)
      clear hB; have hB := hBn; clear hBn
      obtain ⟨b37, rfl, rfl, hb37⟩ := hP
      refine lv_if_eq (tgt := 161) hx hb dX14_reservedIn_40 (by decide) (fun c40 => ?_) (fun c40 => ?_)
      · refine lv_iinc (lv' := [(6, .int _), (7, .ref _), (5, .int _), (4, .ref _), (3, .int _), (2, .int _), (1, .int _), (0, .ref _)]) hx hb dX14_reservedIn_161 hl (k := 1) rfl rfl (by decide) rfl (fun ls hl => ?_)
        refine lv_goto (tgt := 16) hx hb dX14_reservedIn_164 (by decide) ?_
        have hi3 := i_nle c20
        rw [m12] at hi3
        have e9 : (i9 + Int32.ofInt 1).toInt = i9.toInt + 1 := m_add1 (by omega) (by omega)
        exact ih16 _ (by subst hd16; rw [e9]; omega) _ _ _ _ _ _ hB (lv_sub hl [0, 2, 3, 4, 5, 6, 7] rfl) ⟨by rw [e9]; omega, by rw [e9]; omega⟩ rfl
      · have hiv := m_iv (pn5.resolve_left (sgb_t hb37 c40))
        refine lv_iload_n hx hb dX14_reservedIn_43 rfl (lv_at hl 6 rfl) ?_
        refine lv_aload hx hb dX14_reservedIn_44 (lv_at hl 0 rfl) ?_
        refine gf_X14_229 F hB dX14_reservedIn_46 tp ?_
        refine lv_irem hx hb dX14_reservedIn_49 hiv.1 ?_
        refine lv_aload hx hb dX14_reservedIn_50 (lv_at hl 0 rfl) ?_
        refine gf_X14_232 F hB dX14_reservedIn_52 tp ?_
        refine lv_icmp_ne (tgt := 161) hx hb dX14_reservedIn_55 (by decide) (fun c55 => ?_) (fun c55 => ?_)
        · refine lv_iinc (lv' := [(6, .int _), (7, .ref _), (5, .int _), (4, .ref _), (3, .int _), (2, .int _), (1, .int _), (0, .ref _)]) hx hb dX14_reservedIn_161 hl (k := 1) rfl rfl (by decide) rfl (fun ls hl => ?_)
          refine lv_goto (tgt := 16) hx hb dX14_reservedIn_164 (by decide) ?_
          have hi3 := i_nle c20
          rw [m12] at hi3
          have e9 : (i9 + Int32.ofInt 1).toInt = i9.toInt + 1 := m_add1 (by omega) (by omega)
          exact ih16 _ (by subst hd16; rw [e9]; omega) _ _ _ _ _ _ hB (lv_sub hl [0, 2, 3, 4, 5, 6, 7] rfl) ⟨by rw [e9]; omega, by rw [e9]; omega⟩ rfl
        · refine lv_aload_n hx hb dX14_reservedIn_58 rfl (lv_at hl 7 rfl) ?_
          refine gr_X14_10 F hB dX14_reservedIn_59 (inv_A h) (inv_r1 h) ?_
          refine lv_aload hx hb dX14_reservedIn_62 (lv_at hl 0 rfl) ?_
          refine gf_X14_133 F hB dX14_reservedIn_64 tp ?_
          refine sg_callV (ci := 4) F hB (m_getD l D cy h (sgI σ b27 0) (by omega) (by omega) _) (cwV 1 F.1.2.2.2.2 (mgV (mm_4 _ (List.mem_of_getElem? (i := 3) rfl)) (mm_4 _ (List.mem_of_getElem? (i := 4) rfl)) (mm_4 _ (List.mem_of_getElem? (i := 5) rfl)) (mm_0 _ (List.mem_of_getElem? (i := 35) rfl)) (mm_3 _ (List.mem_of_getElem? (i := 34) rfl))) rfl rfl rfl ⟨rfl, by decide, by decide, by decide +kernel⟩ ⟨Nat.le_of_ble_eq_true rfl, Nat.le_of_ble_eq_true rfl⟩) rfl rfl (by decide) rfl hl.1 rfl (Nat.le_of_ble_eq_true rfl) dX14_reservedIn_67 (Nat.le_of_ble_eq_true rfl) (Nat.add_le_add_right (Nat.le_of_ble_eq_true rfl) _) (inv_tD h).1 (fun H locs v σ67 N hBn hX67 hP => ?_)
          clear hB; have hB := hBn; clear hBn
          obtain ⟨rfl, rfl⟩ := hP
          have dv67 := (inv_dv h (k := ((sgI σ b27 0) : Int32).toInt.toNat) (by omega)).2.1
          refine va_castY hx hb hown (F.1.2.2.2.2 _ (List.mem_cons_of_mem _ (mm_4 _ (List.mem_of_getElem? (i := 2) rfl)))) (F.2.2.1.2.2 ("HubcascadeModel$Device", "HubcascadeModel$Device") (by decide +kernel)) (sg_recv (ci := 15) F.2.1 hB (by assumption) (by decide) rfl) dX14_reservedIn_70 ?_
          refine gr_X14_96 F hB dX14_reservedIn_73 (by assumption) en1 ?_
          refine lv_aload hx hb dX14_reservedIn_76 (lv_at hl 0 rfl) ?_
          refine gf_X14_235 F hB dX14_reservedIn_78 tp ?_
          refine sg_aaldR 8 hx hb F.2.1 hB.1 rfl rfl dX14_reservedIn_81 en4 (by omega) (m_ltN ee (by omega)) (m_ltM ee (by decide)) en6 ?_
          refine gf_X14_238 F hB dX14_reservedIn_82 en7 ?_
          refine lv_istore (lv' := [(8, .int _), (7, .ref _), (6, .int _), (5, .int _), (4, .ref _), (3, .int _), (2, .int _), (1, .int _), (0, .ref _)]) hx hb dX14_reservedIn_85 hl (by decide) rfl (fun ls hl => ?_)
          refine lv_iload_n hx hb dX14_reservedIn_87 rfl (lv_at hl 6 rfl) ?_
          refine lv_iconst (v := (-1)) hx hb dX14_reservedIn_88 (by decide) ?_
          refine lv_icmp_eq (tgt := 122) hx hb dX14_reservedIn_89 (by decide) (fun c89 => ?_) (fun c89 => ?_)
          · refine lv_iconst (v := 0) hx hb dX14_reservedIn_122 (by decide) ?_
            refine lv_istore (lv' := [(9, .int _), (8, .int _), (7, .ref _), (6, .int _), (5, .int _), (4, .ref _), (3, .int _), (2, .int _), (1, .int _), (0, .ref _)]) hx hb dX14_reservedIn_123 hl (by decide) rfl (fun ls hl => ?_)
            refine lv_iload_n hx hb dX14_reservedIn_125 rfl (lv_at hl 6 rfl) ?_
            refine lv_iload_n hx hb dX14_reservedIn_126 rfl (lv_at hl 7 rfl) ?_
            refine lv_iconst (v := (-1)) hx hb dX14_reservedIn_127 (by decide) ?_
            refine lv_icmp_ne (tgt := 139) hx hb dX14_reservedIn_128 (by decide) (fun c128 => ?_) (fun c128 => ?_)
            · refine lv_iload hx hb dX14_reservedIn_139 (lv_at hl 0 rfl) ?_
              refine lv_if_eq (tgt := 158) hx hb dX14_reservedIn_141 (by decide) (fun c141 => ?_) (fun c141 => (by first | exact absurd c141 (by decide) | exact (c141 (by decide)).elim))
              refine lv_iconst (v := 0) hx hb dX14_reservedIn_158 (by decide) ?_
              refine lv_iadd hx hb dX14_reservedIn_159 ?_
              refine lv_istore_n (lv' := [(3, .int _), (9, .int _), (8, .int _), (7, .ref _), (6, .int _), (5, .int _), (4, .ref _), (2, .int _), (1, .int _), (0, .ref _)]) hx hb dX14_reservedIn_160 rfl hl (by decide) rfl (fun ls hl => ?_)
              refine lv_iinc (lv' := [(6, .int _), (3, .int _), (9, .int _), (8, .int _), (7, .ref _), (5, .int _), (4, .ref _), (2, .int _), (1, .int _), (0, .ref _)]) hx hb dX14_reservedIn_161 hl (k := 4) rfl rfl (by decide) rfl (fun ls hl => ?_)
              refine lv_goto (tgt := 16) hx hb dX14_reservedIn_164 (by decide) ?_
              have hi3 := i_nle c20
              rw [m12] at hi3
              have e9 : (i9 + Int32.ofInt 1).toInt = i9.toInt + 1 := m_add1 (by omega) (by omega)
              exact ih16 _ (by subst hd16; rw [e9]; omega) _ _ _ _ _ _ hB (lv_sub hl [0, 5, 6, 1, 7, 8, 9] rfl) ⟨by rw [e9]; omega, by rw [e9]; omega⟩ rfl
            · refine lv_iload hx hb dX14_reservedIn_131 (lv_at hl 1 rfl) ?_
              refine sg_callS F hB (m_hostCost l D cy _ _) (cwS 1 F.1.2.2.2.2 (mgS (mm_8 _ (List.mem_of_getElem? (i := 19) rfl)) (mm_8 _ (List.mem_of_getElem? (i := 20) rfl)) (mm_3 _ (List.mem_of_getElem? (i := 23) rfl)) (mm_8 _ (List.mem_of_getElem? (i := 10) rfl))) rfl rfl rfl ⟨rfl, by decide, by decide, by decide +kernel⟩ ⟨Nat.le_of_ble_eq_true rfl, Nat.le_of_ble_eq_true rfl⟩) rfl hl.1 rfl (Nat.le_of_ble_eq_true rfl) dX14_reservedIn_133 (Nat.le_of_ble_eq_true rfl) (Nat.add_le_add_right (Nat.le_of_ble_eq_true rfl) _)  (fun H locs v σ133 N hBn hX133 hP => ?_)
              clear hB; have hB := hBn; clear hBn
              obtain ⟨rfl, rfl⟩ := hP
              refine lv_goto (tgt := 159) hx hb dX14_reservedIn_136 (by decide) ?_
              refine lv_iadd hx hb dX14_reservedIn_159 ?_
              refine lv_istore_n (lv' := [(3, .int _), (9, .int _), (8, .int _), (7, .ref _), (6, .int _), (5, .int _), (4, .ref _), (2, .int _), (1, .int _), (0, .ref _)]) hx hb dX14_reservedIn_160 rfl hl (by decide) rfl (fun ls hl => ?_)
              refine lv_iinc (lv' := [(6, .int _), (3, .int _), (9, .int _), (8, .int _), (7, .ref _), (5, .int _), (4, .ref _), (2, .int _), (1, .int _), (0, .ref _)]) hx hb dX14_reservedIn_161 hl (k := 4) rfl rfl (by decide) rfl (fun ls hl => ?_)
              refine lv_goto (tgt := 16) hx hb dX14_reservedIn_164 (by decide) ?_
              have hi3 := i_nle c20
              rw [m12] at hi3
              have e9 : (i9 + Int32.ofInt 1).toInt = i9.toInt + 1 := m_add1 (by omega) (by omega)
              exact ih16 _ (by subst hd16; rw [e9]; omega) _ _ _ _ _ _ hB (lv_sub hl [0, 5, 6, 1, 7, 8, 9] rfl) ⟨by rw [e9]; omega, by rw [e9]; omega⟩ rfl
          · refine lv_aload_n hx hb dX14_reservedIn_92 rfl (lv_at hl 8 rfl) ?_
            refine lv_aload hx hb dX14_reservedIn_93 (lv_at hl 1 rfl) ?_
            refine gf_X14_133 F hB dX14_reservedIn_95 tp ?_
            refine lv_iconst (v := 1) hx hb dX14_reservedIn_98 (by decide) ?_
            refine sg_callV (ci := 19) F hB (m_hubCost l D cy h _ (by omega) pn2 1 _) (cwV 2 F.1.2.2.2.2 (mgV (mm_8 _ (List.mem_of_getElem? (i := 16) rfl)) (mm_8 _ (List.mem_of_getElem? (i := 17) rfl)) (mm_8 _ (List.mem_of_getElem? (i := 18) rfl)) (mm_3 _ (List.mem_of_getElem? (i := 23) rfl)) (mm_8 _ (List.mem_of_getElem? (i := 11) rfl))) rfl rfl rfl ⟨rfl, by decide, by decide, by decide +kernel⟩ ⟨Nat.le_of_ble_eq_true rfl, Nat.le_of_ble_eq_true rfl⟩) rfl rfl (by decide) rfl hl.1 rfl (Nat.le_of_ble_eq_true rfl) dX14_reservedIn_99 (Nat.le_of_ble_eq_true rfl) (Nat.add_le_add_right (Nat.le_of_ble_eq_true rfl) _) (inv_A h) (fun H locs v σ99 N hBn hX99 hP => ?_)
            clear hB; have hB := hBn; clear hBn
            obtain ⟨y99, rfl, rfl, -⟩ := hP
            refine lv_if_le (tgt := 122) hx hb dX14_reservedIn_102 (by decide) (fun c102 => ?_) (fun c102 => ?_)
            · refine lv_iconst (v := 0) hx hb dX14_reservedIn_122 (by decide) ?_
              refine lv_istore (lv' := [(9, .int _), (8, .int _), (7, .ref _), (6, .int _), (5, .int _), (4, .ref _), (3, .int _), (2, .int _), (1, .int _), (0, .ref _)]) hx hb dX14_reservedIn_123 hl (by decide) rfl (fun ls hl => ?_)
              refine lv_iload_n hx hb dX14_reservedIn_125 rfl (lv_at hl 6 rfl) ?_
              refine lv_iload_n hx hb dX14_reservedIn_126 rfl (lv_at hl 7 rfl) ?_
              refine lv_iconst (v := (-1)) hx hb dX14_reservedIn_127 (by decide) ?_
              refine lv_icmp_ne (tgt := 139) hx hb dX14_reservedIn_128 (by decide) (fun c128 => ?_) (fun c128 => ?_)
              · refine lv_iload hx hb dX14_reservedIn_139 (lv_at hl 0 rfl) ?_
                refine lv_if_eq (tgt := 158) hx hb dX14_reservedIn_141 (by decide) (fun c141 => ?_) (fun c141 => (by first | exact absurd c141 (by decide) | exact (c141 (by decide)).elim))
                refine lv_iconst (v := 0) hx hb dX14_reservedIn_158 (by decide) ?_
                refine lv_iadd hx hb dX14_reservedIn_159 ?_
                refine lv_istore_n (lv' := [(3, .int _), (9, .int _), (8, .int _), (7, .ref _), (6, .int _), (5, .int _), (4, .ref _), (2, .int _), (1, .int _), (0, .ref _)]) hx hb dX14_reservedIn_160 rfl hl (by decide) rfl (fun ls hl => ?_)
                refine lv_iinc (lv' := [(6, .int _), (3, .int _), (9, .int _), (8, .int _), (7, .ref _), (5, .int _), (4, .ref _), (2, .int _), (1, .int _), (0, .ref _)]) hx hb dX14_reservedIn_161 hl (k := 4) rfl rfl (by decide) rfl (fun ls hl => ?_)
                refine lv_goto (tgt := 16) hx hb dX14_reservedIn_164 (by decide) ?_
                have hi3 := i_nle c20
                rw [m12] at hi3
                have e9 : (i9 + Int32.ofInt 1).toInt = i9.toInt + 1 := m_add1 (by omega) (by omega)
                exact ih16 _ (by subst hd16; rw [e9]; omega) _ _ _ _ _ _ hB (lv_sub hl [0, 5, 6, 1, 7, 8, 9] rfl) ⟨by rw [e9]; omega, by rw [e9]; omega⟩ rfl
              · refine lv_iload hx hb dX14_reservedIn_131 (lv_at hl 1 rfl) ?_
                refine sg_callS F hB (m_hostCost l D cy _ _) (cwS 1 F.1.2.2.2.2 (mgS (mm_8 _ (List.mem_of_getElem? (i := 19) rfl)) (mm_8 _ (List.mem_of_getElem? (i := 20) rfl)) (mm_3 _ (List.mem_of_getElem? (i := 23) rfl)) (mm_8 _ (List.mem_of_getElem? (i := 10) rfl))) rfl rfl rfl ⟨rfl, by decide, by decide, by decide +kernel⟩ ⟨Nat.le_of_ble_eq_true rfl, Nat.le_of_ble_eq_true rfl⟩) rfl hl.1 rfl (Nat.le_of_ble_eq_true rfl) dX14_reservedIn_133 (Nat.le_of_ble_eq_true rfl) (Nat.add_le_add_right (Nat.le_of_ble_eq_true rfl) _)  (fun H locs v σ133 N hBn hX133 hP => ?_)
                clear hB; have hB := hBn; clear hBn
                obtain ⟨rfl, rfl⟩ := hP
                refine lv_goto (tgt := 159) hx hb dX14_reservedIn_136 (by decide) ?_
                refine lv_iadd hx hb dX14_reservedIn_159 ?_
                refine lv_istore_n (lv' := [(3, .int _), (9, .int _), (8, .int _), (7, .ref _), (6, .int _), (5, .int _), (4, .ref _), (2, .int _), (1, .int _), (0, .ref _)]) hx hb dX14_reservedIn_160 rfl hl (by decide) rfl (fun ls hl => ?_)
                refine lv_iinc (lv' := [(6, .int _), (3, .int _), (9, .int _), (8, .int _), (7, .ref _), (5, .int _), (4, .ref _), (2, .int _), (1, .int _), (0, .ref _)]) hx hb dX14_reservedIn_161 hl (k := 4) rfl rfl (by decide) rfl (fun ls hl => ?_)
                refine lv_goto (tgt := 16) hx hb dX14_reservedIn_164 (by decide) ?_
                have hi3 := i_nle c20
                rw [m12] at hi3
                have e9 : (i9 + Int32.ofInt 1).toInt = i9.toInt + 1 := m_add1 (by omega) (by omega)
                exact ih16 _ (by subst hd16; rw [e9]; omega) _ _ _ _ _ _ hB (lv_sub hl [0, 5, 6, 1, 7, 8, 9] rfl) ⟨by rw [e9]; omega, by rw [e9]; omega⟩ rfl
            · refine lv_aload_n hx hb dX14_reservedIn_105 rfl (lv_at hl 8 rfl) ?_
              refine lv_aload hx hb dX14_reservedIn_106 (lv_at hl 1 rfl) ?_
              refine gf_X14_133 F hB dX14_reservedIn_108 tp ?_
              refine sg_callV (ci := 19) F hB (m_translatorOf l D cy h hY _ pn1 pn2 (inv_pu h (by omega) hz27) _) (cwV 1 F.1.2.2.2.2 (mgV (mm_6 _ (List.mem_of_getElem? (i := 17) rfl)) (mm_6 _ (List.mem_of_getElem? (i := 18) rfl)) (mm_6 _ (List.mem_of_getElem? (i := 19) rfl)) (mm_3 _ (List.mem_of_getElem? (i := 23) rfl)) (mm_4 _ (List.mem_of_getElem? (i := 12) rfl))) rfl rfl rfl ⟨rfl, by decide, by decide, by decide +kernel⟩ ⟨Nat.le_of_ble_eq_true rfl, Nat.le_of_ble_eq_true rfl⟩) rfl rfl (by decide) rfl hl.1 rfl (Nat.le_of_ble_eq_true rfl) dX14_reservedIn_111 (Nat.le_of_ble_eq_true rfl) (Nat.add_le_add_right (Nat.le_of_ble_eq_true rfl) _) (inv_A h) (fun H locs v σ111 N hBn hX111 hP => ?_)
              clear hB; have hB := hBn; clear hBn
              obtain ⟨y111, rfl, rfl, -⟩ := hP
              refine lv_iload_n hx hb dX14_reservedIn_114 rfl (lv_at hl 6 rfl) ?_
              refine lv_icmp_ne (tgt := 122) hx hb dX14_reservedIn_115 (by decide) (fun c115 => ?_) (fun c115 => ?_)
              · refine lv_iconst (v := 0) hx hb dX14_reservedIn_122 (by decide) ?_
                refine lv_istore (lv' := [(9, .int _), (8, .int _), (7, .ref _), (6, .int _), (5, .int _), (4, .ref _), (3, .int _), (2, .int _), (1, .int _), (0, .ref _)]) hx hb dX14_reservedIn_123 hl (by decide) rfl (fun ls hl => ?_)
                refine lv_iload_n hx hb dX14_reservedIn_125 rfl (lv_at hl 6 rfl) ?_
                refine lv_iload_n hx hb dX14_reservedIn_126 rfl (lv_at hl 7 rfl) ?_
                refine lv_iconst (v := (-1)) hx hb dX14_reservedIn_127 (by decide) ?_
                refine lv_icmp_ne (tgt := 139) hx hb dX14_reservedIn_128 (by decide) (fun c128 => ?_) (fun c128 => ?_)
                · refine lv_iload hx hb dX14_reservedIn_139 (lv_at hl 0 rfl) ?_
                  refine lv_if_eq (tgt := 158) hx hb dX14_reservedIn_141 (by decide) (fun c141 => ?_) (fun c141 => (by first | exact absurd c141 (by decide) | exact (c141 (by decide)).elim))
                  refine lv_iconst (v := 0) hx hb dX14_reservedIn_158 (by decide) ?_
                  refine lv_iadd hx hb dX14_reservedIn_159 ?_
                  refine lv_istore_n (lv' := [(3, .int _), (9, .int _), (8, .int _), (7, .ref _), (6, .int _), (5, .int _), (4, .ref _), (2, .int _), (1, .int _), (0, .ref _)]) hx hb dX14_reservedIn_160 rfl hl (by decide) rfl (fun ls hl => ?_)
                  refine lv_iinc (lv' := [(6, .int _), (3, .int _), (9, .int _), (8, .int _), (7, .ref _), (5, .int _), (4, .ref _), (2, .int _), (1, .int _), (0, .ref _)]) hx hb dX14_reservedIn_161 hl (k := 4) rfl rfl (by decide) rfl (fun ls hl => ?_)
                  refine lv_goto (tgt := 16) hx hb dX14_reservedIn_164 (by decide) ?_
                  have hi3 := i_nle c20
                  rw [m12] at hi3
                  have e9 : (i9 + Int32.ofInt 1).toInt = i9.toInt + 1 := m_add1 (by omega) (by omega)
                  exact ih16 _ (by subst hd16; rw [e9]; omega) _ _ _ _ _ _ hB (lv_sub hl [0, 5, 6, 1, 7, 8, 9] rfl) ⟨by rw [e9]; omega, by rw [e9]; omega⟩ rfl
                · refine lv_iload hx hb dX14_reservedIn_131 (lv_at hl 1 rfl) ?_
                  refine sg_callS F hB (m_hostCost l D cy _ _) (cwS 1 F.1.2.2.2.2 (mgS (mm_8 _ (List.mem_of_getElem? (i := 19) rfl)) (mm_8 _ (List.mem_of_getElem? (i := 20) rfl)) (mm_3 _ (List.mem_of_getElem? (i := 23) rfl)) (mm_8 _ (List.mem_of_getElem? (i := 10) rfl))) rfl rfl rfl ⟨rfl, by decide, by decide, by decide +kernel⟩ ⟨Nat.le_of_ble_eq_true rfl, Nat.le_of_ble_eq_true rfl⟩) rfl hl.1 rfl (Nat.le_of_ble_eq_true rfl) dX14_reservedIn_133 (Nat.le_of_ble_eq_true rfl) (Nat.add_le_add_right (Nat.le_of_ble_eq_true rfl) _)  (fun H locs v σ133 N hBn hX133 hP => ?_)
                  clear hB; have hB := hBn; clear hBn
                  obtain ⟨rfl, rfl⟩ := hP
                  refine lv_goto (tgt := 159) hx hb dX14_reservedIn_136 (by decide) ?_
                  refine lv_iadd hx hb dX14_reservedIn_159 ?_
                  refine lv_istore_n (lv' := [(3, .int _), (9, .int _), (8, .int _), (7, .ref _), (6, .int _), (5, .int _), (4, .ref _), (2, .int _), (1, .int _), (0, .ref _)]) hx hb dX14_reservedIn_160 rfl hl (by decide) rfl (fun ls hl => ?_)
                  refine lv_iinc (lv' := [(6, .int _), (3, .int _), (9, .int _), (8, .int _), (7, .ref _), (5, .int _), (4, .ref _), (2, .int _), (1, .int _), (0, .ref _)]) hx hb dX14_reservedIn_161 hl (k := 4) rfl rfl (by decide) rfl (fun ls hl => ?_)
                  refine lv_goto (tgt := 16) hx hb dX14_reservedIn_164 (by decide) ?_
                  have hi3 := i_nle c20
                  rw [m12] at hi3
                  have e9 : (i9 + Int32.ofInt 1).toInt = i9.toInt + 1 := m_add1 (by omega) (by omega)
                  exact ih16 _ (by subst hd16; rw [e9]; omega) _ _ _ _ _ _ hB (lv_sub hl [0, 5, 6, 1, 7, 8, 9] rfl) ⟨by rw [e9]; omega, by rw [e9]; omega⟩ rfl
              · refine lv_iconst (v := 1) hx hb dX14_reservedIn_118 (by decide) ?_
                refine lv_goto (tgt := 123) hx hb dX14_reservedIn_119 (by decide) ?_
                refine lv_istore (lv' := [(9, .int _), (8, .int _), (7, .ref _), (6, .int _), (5, .int _), (4, .ref _), (3, .int _), (2, .int _), (1, .int _), (0, .ref _)]) hx hb dX14_reservedIn_123 hl (by decide) rfl (fun ls hl => ?_)
                refine lv_iload_n hx hb dX14_reservedIn_125 rfl (lv_at hl 6 rfl) ?_
                refine lv_iload_n hx hb dX14_reservedIn_126 rfl (lv_at hl 7 rfl) ?_
                refine lv_iconst (v := (-1)) hx hb dX14_reservedIn_127 (by decide) ?_
                refine lv_icmp_ne (tgt := 139) hx hb dX14_reservedIn_128 (by decide) (fun c128 => ?_) (fun c128 => ?_)
                · refine lv_iload hx hb dX14_reservedIn_139 (lv_at hl 0 rfl) ?_
                  refine lv_if_eq (tgt := 158) hx hb dX14_reservedIn_141 (by decide) (fun c141 => (by first | exact absurd c141 (by decide) | exact (c141 (by decide)).elim)) (fun c141 => ?_)
                  refine lv_aload_n hx hb dX14_reservedIn_144 rfl (lv_at hl 9 rfl) ?_
                  refine lv_aload hx hb dX14_reservedIn_145 (lv_at hl 2 rfl) ?_
                  refine gf_X14_133 F hB dX14_reservedIn_147 tp ?_
                  refine lv_iload hx hb dX14_reservedIn_150 (lv_at hl 1 rfl) ?_
                  refine sg_callV (ci := 19) F hB (m_hubCost l D cy h _ (by omega) pn2 _ _) (cwV 2 F.1.2.2.2.2 (mgV (mm_8 _ (List.mem_of_getElem? (i := 16) rfl)) (mm_8 _ (List.mem_of_getElem? (i := 17) rfl)) (mm_8 _ (List.mem_of_getElem? (i := 18) rfl)) (mm_3 _ (List.mem_of_getElem? (i := 23) rfl)) (mm_8 _ (List.mem_of_getElem? (i := 11) rfl))) rfl rfl rfl ⟨rfl, by decide, by decide, by decide +kernel⟩ ⟨Nat.le_of_ble_eq_true rfl, Nat.le_of_ble_eq_true rfl⟩) rfl rfl (by decide) rfl hl.1 rfl (Nat.le_of_ble_eq_true rfl) dX14_reservedIn_152 (Nat.le_of_ble_eq_true rfl) (Nat.add_le_add_right (Nat.le_of_ble_eq_true rfl) _) (inv_A h) (fun H locs v σ152 N hBn hX152 hP => ?_)
                  clear hB; have hB := hBn; clear hBn
                  obtain ⟨y152, rfl, rfl, -⟩ := hP
                  refine lv_goto (tgt := 159) hx hb dX14_reservedIn_155 (by decide) ?_
                  refine lv_iadd hx hb dX14_reservedIn_159 ?_
                  refine lv_istore_n (lv' := [(3, .int _), (9, .int _), (8, .int _), (7, .ref _), (6, .int _), (5, .int _), (4, .ref _), (2, .int _), (1, .int _), (0, .ref _)]) hx hb dX14_reservedIn_160 rfl hl (by decide) rfl (fun ls hl => ?_)
                  refine lv_iinc (lv' := [(6, .int _), (3, .int _), (9, .int _), (8, .int _), (7, .ref _), (5, .int _), (4, .ref _), (2, .int _), (1, .int _), (0, .ref _)]) hx hb dX14_reservedIn_161 hl (k := 4) rfl rfl (by decide) rfl (fun ls hl => ?_)
                  refine lv_goto (tgt := 16) hx hb dX14_reservedIn_164 (by decide) ?_
                  have hi3 := i_nle c20
                  rw [m12] at hi3
                  have e9 : (i9 + Int32.ofInt 1).toInt = i9.toInt + 1 := m_add1 (by omega) (by omega)
                  exact ih16 _ (by subst hd16; rw [e9]; omega) _ _ _ _ _ _ hB (lv_sub hl [0, 5, 6, 1, 7, 8, 9] rfl) ⟨by rw [e9]; omega, by rw [e9]; omega⟩ rfl
                · refine lv_iload hx hb dX14_reservedIn_131 (lv_at hl 1 rfl) ?_
                  refine sg_callS F hB (m_hostCost l D cy _ _) (cwS 1 F.1.2.2.2.2 (mgS (mm_8 _ (List.mem_of_getElem? (i := 19) rfl)) (mm_8 _ (List.mem_of_getElem? (i := 20) rfl)) (mm_3 _ (List.mem_of_getElem? (i := 23) rfl)) (mm_8 _ (List.mem_of_getElem? (i := 10) rfl))) rfl rfl rfl ⟨rfl, by decide, by decide, by decide +kernel⟩ ⟨Nat.le_of_ble_eq_true rfl, Nat.le_of_ble_eq_true rfl⟩) rfl hl.1 rfl (Nat.le_of_ble_eq_true rfl) dX14_reservedIn_133 (Nat.le_of_ble_eq_true rfl) (Nat.add_le_add_right (Nat.le_of_ble_eq_true rfl) _)  (fun H locs v σ133 N hBn hX133 hP => ?_)
                  clear hB; have hB := hBn; clear hBn
                  obtain ⟨rfl, rfl⟩ := hP
                  refine lv_goto (tgt := 159) hx hb dX14_reservedIn_136 (by decide) ?_
                  refine lv_iadd hx hb dX14_reservedIn_159 ?_
                  refine lv_istore_n (lv' := [(3, .int _), (9, .int _), (8, .int _), (7, .ref _), (6, .int _), (5, .int _), (4, .ref _), (2, .int _), (1, .int _), (0, .ref _)]) hx hb dX14_reservedIn_160 rfl hl (by decide) rfl (fun ls hl => ?_)
                  refine lv_iinc (lv' := [(6, .int _), (3, .int _), (9, .int _), (8, .int _), (7, .ref _), (5, .int _), (4, .ref _), (2, .int _), (1, .int _), (0, .ref _)]) hx hb dX14_reservedIn_161 hl (k := 4) rfl rfl (by decide) rfl (fun ls hl => ?_)
                  refine lv_goto (tgt := 16) hx hb dX14_reservedIn_164 (by decide) ?_
                  have hi3 := i_nle c20
                  rw [m12] at hi3
                  have e9 : (i9 + Int32.ofInt 1).toInt = i9.toInt + 1 := m_add1 (by omega) (by omega)
                  exact ih16 _ (by subst hd16; rw [e9]; omega) _ _ _ _ _ _ hB (lv_sub hl [0, 5, 6, 1, 7, 8, 9] rfl) ⟨by rw [e9]; omega, by rw [e9]; omega⟩ rfl
theorem dX14_phaseFor_0 : decode cX14_phaseFor 0 = .ok (.aload_n 0, 1) := by decide +kernel
theorem dX14_phaseFor_1 : decode cX14_phaseFor 1 = .ok (.getfield 10, 3) := by decide +kernel
theorem dX14_phaseFor_4 : decode cX14_phaseFor 4 = .ok (.aload_n 1, 1) := by decide +kernel
theorem dX14_phaseFor_5 : decode cX14_phaseFor 5 = .ok (.getfield 133, 3) := by decide +kernel
theorem dX14_phaseFor_8 : decode cX14_phaseFor 8 = .ok (.invokevirtual 76, 3) := by decide +kernel
theorem dX14_phaseFor_11 : decode cX14_phaseFor 11 = .ok (.checkcast 48, 3) := by decide +kernel
theorem dX14_phaseFor_14 : decode cX14_phaseFor 14 = .ok (.getfield 96, 3) := by decide +kernel
theorem dX14_phaseFor_17 : decode cX14_phaseFor 17 = .ok (.aload_n 1, 1) := by decide +kernel
theorem dX14_phaseFor_18 : decode cX14_phaseFor 18 = .ok (.getfield 235, 3) := by decide +kernel
theorem dX14_phaseFor_21 : decode cX14_phaseFor 21 = .ok (.aaload, 1) := by decide +kernel
theorem dX14_phaseFor_22 : decode cX14_phaseFor 22 = .ok (.getfield 238, 3) := by decide +kernel
theorem dX14_phaseFor_25 : decode cX14_phaseFor 25 = .ok (.istore_n 2, 1) := by decide +kernel
theorem dX14_phaseFor_26 : decode cX14_phaseFor 26 = .ok (.aload_n 0, 1) := by decide +kernel
theorem dX14_phaseFor_27 : decode cX14_phaseFor 27 = .ok (.aload_n 1, 1) := by decide +kernel
theorem dX14_phaseFor_28 : decode cX14_phaseFor 28 = .ok (.getfield 133, 3) := by decide +kernel
theorem dX14_phaseFor_31 : decode cX14_phaseFor 31 = .ok (.invokevirtual 156, 3) := by decide +kernel
theorem dX14_phaseFor_34 : decode cX14_phaseFor 34 = .ok (.istore_n 3, 1) := by decide +kernel
theorem dX14_phaseFor_35 : decode cX14_phaseFor 35 = .ok (.aload_n 0, 1) := by decide +kernel
theorem dX14_phaseFor_36 : decode cX14_phaseFor 36 = .ok (.aload_n 1, 1) := by decide +kernel
theorem dX14_phaseFor_37 : decode cX14_phaseFor 37 = .ok (.getfield 133, 3) := by decide +kernel
theorem dX14_phaseFor_40 : decode cX14_phaseFor 40 = .ok (.iload_n 2, 1) := by decide +kernel
theorem dX14_phaseFor_41 : decode cX14_phaseFor 41 = .ok (.invokevirtual 241, 3) := by decide +kernel
theorem dX14_phaseFor_44 : decode cX14_phaseFor 44 = .ok (.istore 4, 2) := by decide +kernel
theorem dX14_phaseFor_46 : decode cX14_phaseFor 46 = .ok (.iconst (-1), 1) := by decide +kernel
theorem dX14_phaseFor_47 : decode cX14_phaseFor 47 = .ok (.istore 5, 2) := by decide +kernel
theorem dX14_phaseFor_49 : decode cX14_phaseFor 49 = .ok (.iconst 0, 1) := by decide +kernel
theorem dX14_phaseFor_50 : decode cX14_phaseFor 50 = .ok (.istore 6, 2) := by decide +kernel
theorem dX14_phaseFor_52 : decode cX14_phaseFor 52 = .ok (.iconst 0, 1) := by decide +kernel
theorem dX14_phaseFor_53 : decode cX14_phaseFor 53 = .ok (.istore 7, 2) := by decide +kernel
theorem dX14_phaseFor_55 : decode cX14_phaseFor 55 = .ok (.iload 7, 2) := by decide +kernel
theorem dX14_phaseFor_57 : decode cX14_phaseFor 57 = .ok (.aload_n 1, 1) := by decide +kernel
theorem dX14_phaseFor_58 : decode cX14_phaseFor 58 = .ok (.getfield 229, 3) := by decide +kernel
theorem dX14_phaseFor_61 : decode cX14_phaseFor 61 = .ok (.if_icmp .ge 164, 3) := by decide +kernel
theorem dX14_phaseFor_64 : decode cX14_phaseFor 64 = .ok (.iconst 1, 1) := by decide +kernel
theorem dX14_phaseFor_65 : decode cX14_phaseFor 65 = .ok (.istore 8, 2) := by decide +kernel
theorem dX14_phaseFor_67 : decode cX14_phaseFor 67 = .ok (.iconst 0, 1) := by decide +kernel
theorem dX14_phaseFor_68 : decode cX14_phaseFor 68 = .ok (.istore 9, 2) := by decide +kernel
theorem dX14_phaseFor_70 : decode cX14_phaseFor 70 = .ok (.iconst 0, 1) := by decide +kernel
theorem dX14_phaseFor_71 : decode cX14_phaseFor 71 = .ok (.istore 10, 2) := by decide +kernel
theorem dX14_phaseFor_73 : decode cX14_phaseFor 73 = .ok (.iload 10, 2) := by decide +kernel
theorem dX14_phaseFor_75 : decode cX14_phaseFor 75 = .ok (.bipush 8, 2) := by decide +kernel
theorem dX14_phaseFor_77 : decode cX14_phaseFor 77 = .ok (.if_icmp .ge 116, 3) := by decide +kernel
theorem dX14_phaseFor_80 : decode cX14_phaseFor 80 = .ok (.iload 10, 2) := by decide +kernel
theorem dX14_phaseFor_82 : decode cX14_phaseFor 82 = .ok (.aload_n 1, 1) := by decide +kernel
theorem dX14_phaseFor_83 : decode cX14_phaseFor 83 = .ok (.getfield 229, 3) := by decide +kernel
theorem dX14_phaseFor_86 : decode cX14_phaseFor 86 = .ok (.irem, 1) := by decide +kernel
theorem dX14_phaseFor_87 : decode cX14_phaseFor 87 = .ok (.iload 7, 2) := by decide +kernel
theorem dX14_phaseFor_89 : decode cX14_phaseFor 89 = .ok (.if_icmp .ne 7, 3) := by decide +kernel
theorem dX14_phaseFor_92 : decode cX14_phaseFor 92 = .ok (.iconst 1, 1) := by decide +kernel
theorem dX14_phaseFor_93 : decode cX14_phaseFor 93 = .ok (.goto 4, 3) := by decide +kernel
theorem dX14_phaseFor_96 : decode cX14_phaseFor 96 = .ok (.iconst 0, 1) := by decide +kernel
theorem dX14_phaseFor_97 : decode cX14_phaseFor 97 = .ok (.istore 11, 2) := by decide +kernel
theorem dX14_phaseFor_99 : decode cX14_phaseFor 99 = .ok (.aload_n 0, 1) := by decide +kernel
theorem dX14_phaseFor_100 : decode cX14_phaseFor 100 = .ok (.iload 10, 2) := by decide +kernel
theorem dX14_phaseFor_102 : decode cX14_phaseFor 102 = .ok (.iconst (-1), 1) := by decide +kernel
theorem dX14_phaseFor_103 : decode cX14_phaseFor 103 = .ok (.invokevirtual 248, 3) := by decide +kernel
theorem dX14_phaseFor_106 : decode cX14_phaseFor 106 = .ok (.iload 11, 2) := by decide +kernel
theorem dX14_phaseFor_108 : decode cX14_phaseFor 108 = .ok (.ifCond .eq 10, 3) := by decide +kernel
theorem dX14_phaseFor_111 : decode cX14_phaseFor 111 = .ok (.iload_n 2, 1) := by decide +kernel
theorem dX14_phaseFor_112 : decode cX14_phaseFor 112 = .ok (.invokestatic 245, 3) := by decide +kernel
theorem dX14_phaseFor_115 : decode cX14_phaseFor 115 = .ok (.goto 4, 3) := by decide +kernel
theorem dX14_phaseFor_118 : decode cX14_phaseFor 118 = .ok (.iconst 0, 1) := by decide +kernel
theorem dX14_phaseFor_119 : decode cX14_phaseFor 119 = .ok (.iadd, 1) := by decide +kernel
theorem dX14_phaseFor_120 : decode cX14_phaseFor 120 = .ok (.istore 12, 2) := by decide +kernel
theorem dX14_phaseFor_122 : decode cX14_phaseFor 122 = .ok (.iload 9, 2) := by decide +kernel
theorem dX14_phaseFor_124 : decode cX14_phaseFor 124 = .ok (.iload 12, 2) := by decide +kernel
theorem dX14_phaseFor_126 : decode cX14_phaseFor 126 = .ok (.invokestatic 251, 3) := by decide +kernel
theorem dX14_phaseFor_129 : decode cX14_phaseFor 129 = .ok (.istore 9, 2) := by decide +kernel
theorem dX14_phaseFor_131 : decode cX14_phaseFor 131 = .ok (.iload 12, 2) := by decide +kernel
theorem dX14_phaseFor_133 : decode cX14_phaseFor 133 = .ok (.bipush 80, 2) := by decide +kernel
theorem dX14_phaseFor_135 : decode cX14_phaseFor 135 = .ok (.if_icmp .gt 23, 3) := by decide +kernel
theorem dX14_phaseFor_138 : decode cX14_phaseFor 138 = .ok (.iload 4, 2) := by decide +kernel
theorem dX14_phaseFor_140 : decode cX14_phaseFor 140 = .ok (.ifCond .le 22, 3) := by decide +kernel
theorem dX14_phaseFor_143 : decode cX14_phaseFor 143 = .ok (.aload_n 0, 1) := by decide +kernel
theorem dX14_phaseFor_144 : decode cX14_phaseFor 144 = .ok (.iload 10, 2) := by decide +kernel
theorem dX14_phaseFor_146 : decode cX14_phaseFor 146 = .ok (.iload_n 3, 1) := by decide +kernel
theorem dX14_phaseFor_147 : decode cX14_phaseFor 147 = .ok (.invokevirtual 248, 3) := by decide +kernel
theorem dX14_phaseFor_150 : decode cX14_phaseFor 150 = .ok (.iload 4, 2) := by decide +kernel
theorem dX14_phaseFor_152 : decode cX14_phaseFor 152 = .ok (.iadd, 1) := by decide +kernel
theorem dX14_phaseFor_153 : decode cX14_phaseFor 153 = .ok (.bipush 48, 2) := by decide +kernel
theorem dX14_phaseFor_155 : decode cX14_phaseFor 155 = .ok (.if_icmp .le 7, 3) := by decide +kernel
theorem dX14_phaseFor_158 : decode cX14_phaseFor 158 = .ok (.iconst 1, 1) := by decide +kernel
theorem dX14_phaseFor_159 : decode cX14_phaseFor 159 = .ok (.goto 4, 3) := by decide +kernel
theorem dX14_phaseFor_162 : decode cX14_phaseFor 162 = .ok (.iconst 0, 1) := by decide +kernel
theorem dX14_phaseFor_163 : decode cX14_phaseFor 163 = .ok (.istore 13, 2) := by decide +kernel
theorem dX14_phaseFor_165 : decode cX14_phaseFor 165 = .ok (.iload 8, 2) := by decide +kernel
theorem dX14_phaseFor_167 : decode cX14_phaseFor 167 = .ok (.ifCond .eq 17, 3) := by decide +kernel
theorem dX14_phaseFor_170 : decode cX14_phaseFor 170 = .ok (.iload 11, 2) := by decide +kernel
theorem dX14_phaseFor_172 : decode cX14_phaseFor 172 = .ok (.ifCond .eq 8, 3) := by decide +kernel
theorem dX14_phaseFor_175 : decode cX14_phaseFor 175 = .ok (.iload 13, 2) := by decide +kernel
theorem dX14_phaseFor_177 : decode cX14_phaseFor 177 = .ok (.ifCond .ne 7, 3) := by decide +kernel
theorem dX14_phaseFor_180 : decode cX14_phaseFor 180 = .ok (.iconst 1, 1) := by decide +kernel
theorem dX14_phaseFor_181 : decode cX14_phaseFor 181 = .ok (.goto 4, 3) := by decide +kernel
theorem dX14_phaseFor_184 : decode cX14_phaseFor 184 = .ok (.iconst 0, 1) := by decide +kernel
theorem dX14_phaseFor_185 : decode cX14_phaseFor 185 = .ok (.istore 8, 2) := by decide +kernel
theorem dX14_phaseFor_187 : decode cX14_phaseFor 187 = .ok (.iinc 10 1, 3) := by decide +kernel
theorem dX14_phaseFor_190 : decode cX14_phaseFor 190 = .ok (.goto (-117), 3) := by decide +kernel
theorem dX14_phaseFor_193 : decode cX14_phaseFor 193 = .ok (.iload 8, 2) := by decide +kernel
theorem dX14_phaseFor_195 : decode cX14_phaseFor 195 = .ok (.ifCond .eq 24, 3) := by decide +kernel
theorem dX14_phaseFor_198 : decode cX14_phaseFor 198 = .ok (.iload 5, 2) := by decide +kernel
theorem dX14_phaseFor_200 : decode cX14_phaseFor 200 = .ok (.iconst (-1), 1) := by decide +kernel
theorem dX14_phaseFor_201 : decode cX14_phaseFor 201 = .ok (.if_icmp .eq 10, 3) := by decide +kernel
theorem dX14_phaseFor_204 : decode cX14_phaseFor 204 = .ok (.iload 9, 2) := by decide +kernel
theorem dX14_phaseFor_206 : decode cX14_phaseFor 206 = .ok (.iload 6, 2) := by decide +kernel
theorem dX14_phaseFor_208 : decode cX14_phaseFor 208 = .ok (.if_icmp .ge 11, 3) := by decide +kernel
theorem dX14_phaseFor_211 : decode cX14_phaseFor 211 = .ok (.iload 7, 2) := by decide +kernel
theorem dX14_phaseFor_213 : decode cX14_phaseFor 213 = .ok (.istore 5, 2) := by decide +kernel
theorem dX14_phaseFor_215 : decode cX14_phaseFor 215 = .ok (.iload 9, 2) := by decide +kernel
theorem dX14_phaseFor_217 : decode cX14_phaseFor 217 = .ok (.istore 6, 2) := by decide +kernel
theorem dX14_phaseFor_219 : decode cX14_phaseFor 219 = .ok (.iinc 7 1, 3) := by decide +kernel
theorem dX14_phaseFor_222 : decode cX14_phaseFor 222 = .ok (.goto (-167), 3) := by decide +kernel
theorem dX14_phaseFor_225 : decode cX14_phaseFor 225 = .ok (.iload 5, 2) := by decide +kernel
theorem dX14_phaseFor_227 : decode cX14_phaseFor 227 = .ok (.ireturn, 1) := by decide +kernel
set_option maxRecDepth 100000 in
set_option maxHeartbeats 4000000 in
theorem m_phaseFor (l : Launch) (D : va_G) (cy : Nat → ClassId) {eda ca : Nat} {ia : Nat → Nat} {σ : SG} {K : KM} {g : GH} {n S hw : Nat} (h : Inv eda ia K g n S hw σ) (hY : nY g) {p0 : Nat} (tp : sgT σ p0 = 18) (hiv0 : sgI σ p0 3 = 1 ∨ sgI σ p0 3 = 2 ∨ sgI σ p0 3 = 4 ∨ sgI σ p0 3 = 8) (hu : ¬ iSt g σ (sgI σ p0 0).toInt.toNat = 117) (sz : Nat) : sgM l D cy eda ca ia σ sz yX14_phaseFor (Cond.code yX14_phaseFor cX14_phaseFor 14 (some .int) :: mWall) 6 140 0 0 [.ref (kA K), .ref p0] (fun v σ2 => (∃ y : Int32, v = some (.int y)) ∧ σ = σ2) := by
  refine sg_ofW (cc := cX14_phaseFor) (maxL := 14) (ret := (some .int)) (by decide) rfl (Nat.le_of_ble_eq_true rfl) (lv := [(0, .ref (kA K)), (1, .ref p0)]) rfl (fun p e s m below meth c ls H N hrt hnm F hB hl => ?_) sz
  have hx := F.1.1
  have hb := F.1.2.1
  have hown := F.1.2.2.2.1
  have hiv := m_iv hiv0
  have m8 : (8 : Int32).toInt = 8 := rfl
  obtain ⟨e2, x2, ⟨pn1, pn2, pn3, pn4, pn5⟩, en1, en4, ee, en6, en7⟩ := inv_pe h tp
  generalize hlo : ([] : List Loc) = locs at hB ⊢
  clear hlo
  refine lv_aload_n hx hb dX14_phaseFor_0 rfl (lv_at hl 0 rfl) ?_
  refine gr_X14_10 F hB dX14_phaseFor_1 (inv_A h) (inv_r1 h) ?_
  refine lv_aload_n hx hb dX14_phaseFor_4 rfl (lv_at hl 1 rfl) ?_
  refine gf_X14_133 F hB dX14_phaseFor_5 tp ?_
  refine sg_callV (ci := 4) F hB (m_getD l D cy h (sgI σ p0 0) (by omega) (by omega) _) (cwV 1 F.1.2.2.2.2 (mgV (mm_4 _ (List.mem_of_getElem? (i := 3) rfl)) (mm_4 _ (List.mem_of_getElem? (i := 4) rfl)) (mm_4 _ (List.mem_of_getElem? (i := 5) rfl)) (mm_0 _ (List.mem_of_getElem? (i := 35) rfl)) (mm_3 _ (List.mem_of_getElem? (i := 34) rfl))) rfl rfl rfl ⟨rfl, by decide, by decide, by decide +kernel⟩ ⟨Nat.le_of_ble_eq_true rfl, Nat.le_of_ble_eq_true rfl⟩) rfl rfl (by decide) rfl hl.1 rfl (Nat.le_of_ble_eq_true rfl) dX14_phaseFor_8 (Nat.le_of_ble_eq_true rfl) (Nat.add_le_add_right (Nat.le_of_ble_eq_true rfl) _) (inv_tD h).1 (fun H locs v σ8 N hBn hX8 hP => ?_)
  clear hB; have hB := hBn; clear hBn
  obtain ⟨rfl, rfl⟩ := hP
  have dv8 := (inv_dv h (k := ((sgI σ p0 0) : Int32).toInt.toNat) (by omega)).2.1
  refine va_castY hx hb hown (F.1.2.2.2.2 _ (List.mem_cons_of_mem _ (mm_4 _ (List.mem_of_getElem? (i := 2) rfl)))) (F.2.2.1.2.2 ("HubcascadeModel$Device", "HubcascadeModel$Device") (by decide +kernel)) (sg_recv (ci := 15) F.2.1 hB (by assumption) (by decide) rfl) dX14_phaseFor_11 ?_
  refine gr_X14_96 F hB dX14_phaseFor_14 (by assumption) en1 ?_
  refine lv_aload_n hx hb dX14_phaseFor_17 rfl (lv_at hl 1 rfl) ?_
  refine gf_X14_235 F hB dX14_phaseFor_18 tp ?_
  refine sg_aaldR 8 hx hb F.2.1 hB.1 rfl rfl dX14_phaseFor_21 en4 (by omega) (m_ltN ee (by omega)) (m_ltM ee (by decide)) en6 ?_
  refine gf_X14_238 F hB dX14_phaseFor_22 en7 ?_
  refine lv_istore_n (lv' := [(2, .int _), (0, .ref _), (1, .ref _)]) hx hb dX14_phaseFor_25 rfl hl (by decide) rfl (fun ls hl => ?_)
  refine lv_aload_n hx hb dX14_phaseFor_26 rfl (lv_at hl 1 rfl) ?_
  refine lv_aload_n hx hb dX14_phaseFor_27 rfl (lv_at hl 2 rfl) ?_
  refine gf_X14_133 F hB dX14_phaseFor_28 tp ?_
  refine sg_callV (ci := 19) F hB (m_translatorOf l D cy h hY _ pn1 pn2 hu _) (cwV 1 F.1.2.2.2.2 (mgV (mm_6 _ (List.mem_of_getElem? (i := 17) rfl)) (mm_6 _ (List.mem_of_getElem? (i := 18) rfl)) (mm_6 _ (List.mem_of_getElem? (i := 19) rfl)) (mm_3 _ (List.mem_of_getElem? (i := 23) rfl)) (mm_4 _ (List.mem_of_getElem? (i := 12) rfl))) rfl rfl rfl ⟨rfl, by decide, by decide, by decide +kernel⟩ ⟨Nat.le_of_ble_eq_true rfl, Nat.le_of_ble_eq_true rfl⟩) rfl rfl (by decide) rfl hl.1 rfl (Nat.le_of_ble_eq_true rfl) dX14_phaseFor_31 (Nat.le_of_ble_eq_true rfl) (Nat.add_le_add_right (Nat.le_of_ble_eq_true rfl) _) (inv_A h) (fun H locs v σ31 N hBn hX31 hP => ?_)
  clear hB; have hB := hBn; clear hBn
  obtain ⟨y31, rfl, rfl, -⟩ := hP
  refine lv_istore_n (lv' := [(3, .int _), (2, .int _), (0, .ref _), (1, .ref _)]) hx hb dX14_phaseFor_34 rfl hl (by decide) rfl (fun ls hl => ?_)
  refine lv_aload_n hx hb dX14_phaseFor_35 rfl (lv_at hl 2 rfl) ?_
  refine lv_aload_n hx hb dX14_phaseFor_36 rfl (lv_at hl 3 rfl) ?_
  refine gf_X14_133 F hB dX14_phaseFor_37 tp ?_
  refine lv_iload_n hx hb dX14_phaseFor_40 rfl (lv_at hl 1 rfl) ?_
  refine sg_callV (ci := 19) F hB (m_hubCost l D cy h _ (by omega) pn2 _ _) (cwV 2 F.1.2.2.2.2 (mgV (mm_8 _ (List.mem_of_getElem? (i := 16) rfl)) (mm_8 _ (List.mem_of_getElem? (i := 17) rfl)) (mm_8 _ (List.mem_of_getElem? (i := 18) rfl)) (mm_3 _ (List.mem_of_getElem? (i := 23) rfl)) (mm_8 _ (List.mem_of_getElem? (i := 11) rfl))) rfl rfl rfl ⟨rfl, by decide, by decide, by decide +kernel⟩ ⟨Nat.le_of_ble_eq_true rfl, Nat.le_of_ble_eq_true rfl⟩) rfl rfl (by decide) rfl hl.1 rfl (Nat.le_of_ble_eq_true rfl) dX14_phaseFor_41 (Nat.le_of_ble_eq_true rfl) (Nat.add_le_add_right (Nat.le_of_ble_eq_true rfl) _) (inv_A h) (fun H locs v σ41 N hBn hX41 hP => ?_)
  clear hB; have hB := hBn; clear hBn
  obtain ⟨y41, rfl, rfl, -⟩ := hP
  refine lv_istore (lv' := [(4, .int _), (3, .int _), (2, .int _), (0, .ref _), (1, .ref _)]) hx hb dX14_phaseFor_44 hl (by decide) rfl (fun ls hl => ?_)
  refine lv_iconst (v := (-1)) hx hb dX14_phaseFor_46 (by decide) ?_
  refine lv_istore (lv' := [(5, .int _), (4, .int _), (3, .int _), (2, .int _), (0, .ref _), (1, .ref _)]) hx hb dX14_phaseFor_47 hl (by decide) rfl (fun ls hl => ?_)
  refine lv_iconst (v := 0) hx hb dX14_phaseFor_49 (by decide) ?_
  refine lv_istore (lv' := [(6, .int _), (5, .int _), (4, .int _), (3, .int _), (2, .int _), (0, .ref _), (1, .ref _)]) hx hb dX14_phaseFor_50 hl (by decide) rfl (fun ls hl => ?_)
  refine lv_iconst (v := 0) hx hb dX14_phaseFor_52 (by decide) ?_
  refine lv_istore (lv' := [(7, .int _), (6, .int _), (5, .int _), (4, .int _), (3, .int _), (2, .int _), (0, .ref _), (1, .ref _)]) hx hb dX14_phaseFor_53 hl (by decide) rfl (fun ls hl => ?_)
  have key55 : ∃ (b5 b6 p7 : Int32), sgB D cy s σ σ H locs N 0 ∧ lv_has ls 14 [(7, .int p7), (6, .int b6), (5, .int b5), (4, .int y41), (3, .int y31), (2, .int (sgI σ x2 1)), (1, .ref p0), (0, .ref (kA K))] ∧ (0 ≤ p7.toInt ∧ p7.toInt ≤ 8) := ⟨_, _, _, hB, (lv_sub hl [0, 1, 2, 3, 4, 5, 7, 6] rfl), ⟨by decide, by decide⟩⟩
  clear hB hl
  obtain ⟨b5, b6, p7, hB, hl, hp7⟩ := key55
  obtain ⟨d55, hd55⟩ : ∃ d : Nat, d = 8 - p7.toInt.toNat := ⟨_, rfl⟩
  induction d55 using Nat.strongRecOn generalizing H locs ls N b5 b6 p7
  rename_i d55 ih55
  refine lv_iload hx hb dX14_phaseFor_55 (lv_at hl 0 rfl) ?_
  refine lv_aload_n hx hb dX14_phaseFor_57 rfl (lv_at hl 6 rfl) ?_
  refine gf_X14_229 F hB dX14_phaseFor_58 tp ?_
  refine lv_icmp_ge (tgt := 225) hx hb dX14_phaseFor_61 (by decide) (fun c61 => ?_) (fun c61 => ?_)
  · refine lv_iload hx hb dX14_phaseFor_225 (lv_at hl 2 rfl) ?_
    exact sg_iret F hB hrt dX14_phaseFor_227 (by decide) (by decide) (⟨⟨_, rfl⟩, rfl⟩)
  · refine lv_iconst (v := 1) hx hb dX14_phaseFor_64 (by decide) ?_
    refine lv_istore (lv' := [(8, .int _), (7, .int _), (6, .int _), (5, .int _), (4, .int _), (3, .int _), (2, .int _), (1, .ref _), (0, .ref _)]) hx hb dX14_phaseFor_65 hl (by decide) rfl (fun ls hl => ?_)
    refine lv_iconst (v := 0) hx hb dX14_phaseFor_67 (by decide) ?_
    refine lv_istore (lv' := [(9, .int _), (8, .int _), (7, .int _), (6, .int _), (5, .int _), (4, .int _), (3, .int _), (2, .int _), (1, .ref _), (0, .ref _)]) hx hb dX14_phaseFor_68 hl (by decide) rfl (fun ls hl => ?_)
    refine lv_iconst (v := 0) hx hb dX14_phaseFor_70 (by decide) ?_
    refine lv_istore (lv' := [(10, .int _), (9, .int _), (8, .int _), (7, .int _), (6, .int _), (5, .int _), (4, .int _), (3, .int _), (2, .int _), (1, .ref _), (0, .ref _)]) hx hb dX14_phaseFor_71 hl (by decide) rfl (fun ls hl => ?_)
    have key73 : ∃ (c8 m9 a9 : Int32), sgB D cy s σ σ H locs N 0 ∧ lv_has ls 14 [(10, .int a9), (9, .int m9), (8, .int c8), (7, .int p7), (6, .int b6), (5, .int b5), (4, .int y41), (3, .int y31), (2, .int (sgI σ x2 1)), (1, .ref p0), (0, .ref (kA K))] ∧ (0 ≤ a9.toInt ∧ a9.toInt ≤ 8) := ⟨_, _, _, hB, (lv_sub hl [0, 1, 2, 3, 4, 5, 6, 7, 8, 9, 10] rfl), ⟨by decide, by decide⟩⟩
    clear hB hl
    obtain ⟨c8, m9, a9, hB, hl, ha9⟩ := key73
    obtain ⟨d73, hd73⟩ : ∃ d : Nat, d = 8 - a9.toInt.toNat := ⟨_, rfl⟩
    induction d73 using Nat.strongRecOn generalizing H locs ls N c8 m9 a9
    rename_i d73 ih73
    refine lv_iload hx hb dX14_phaseFor_73 (lv_at hl 0 rfl) ?_
    refine lv_bipush (v := 8) hx hb dX14_phaseFor_75 (by decide) ?_
    refine lv_icmp_ge (tgt := 193) hx hb dX14_phaseFor_77 (by decide) (fun c77 => ?_) (fun c77 => ?_)
    · refine lv_iload hx hb dX14_phaseFor_193 (lv_at hl 2 rfl) ?_
      refine lv_if_eq (tgt := 219) hx hb dX14_phaseFor_195 (by decide) (fun c195 => ?_) (fun c195 => ?_)
      · refine lv_iinc (lv' := [(7, .int _), (10, .int _), (9, .int _), (8, .int _), (6, .int _), (5, .int _), (4, .int _), (3, .int _), (2, .int _), (1, .ref _), (0, .ref _)]) hx hb dX14_phaseFor_219 hl (k := 3) rfl rfl (by decide) rfl (fun ls hl => ?_)
        refine lv_goto (tgt := 55) hx hb dX14_phaseFor_222 (by decide) ?_
        have hi3 := i_nle c61
        have e9 : (p7 + Int32.ofInt 1).toInt = p7.toInt + 1 := m_add1 (by omega) (by omega)
        exact ih55 _ (by subst hd55; rw [e9]; omega) _ _ _ _ _ _ _ hB (lv_sub hl [0, 4, 5, 6, 7, 8, 9, 10] rfl) ⟨by rw [e9]; omega, by rw [e9]; omega⟩ rfl
      · refine lv_iload hx hb dX14_phaseFor_198 (lv_at hl 5 rfl) ?_
        refine lv_iconst (v := (-1)) hx hb dX14_phaseFor_200 (by decide) ?_
        refine lv_icmp_eq (tgt := 211) hx hb dX14_phaseFor_201 (by decide) (fun c201 => ?_) (fun c201 => ?_)
        · refine lv_iload hx hb dX14_phaseFor_211 (lv_at hl 3 rfl) ?_
          refine lv_istore (lv' := [(5, .int _), (10, .int _), (9, .int _), (8, .int _), (7, .int _), (6, .int _), (4, .int _), (3, .int _), (2, .int _), (1, .ref _), (0, .ref _)]) hx hb dX14_phaseFor_213 hl (by decide) rfl (fun ls hl => ?_)
          refine lv_iload hx hb dX14_phaseFor_215 (lv_at hl 2 rfl) ?_
          refine lv_istore (lv' := [(6, .int _), (5, .int _), (10, .int _), (9, .int _), (8, .int _), (7, .int _), (4, .int _), (3, .int _), (2, .int _), (1, .ref _), (0, .ref _)]) hx hb dX14_phaseFor_217 hl (by decide) rfl (fun ls hl => ?_)
          refine lv_iinc (lv' := [(7, .int _), (6, .int _), (5, .int _), (10, .int _), (9, .int _), (8, .int _), (4, .int _), (3, .int _), (2, .int _), (1, .ref _), (0, .ref _)]) hx hb dX14_phaseFor_219 hl (k := 5) rfl rfl (by decide) rfl (fun ls hl => ?_)
          refine lv_goto (tgt := 55) hx hb dX14_phaseFor_222 (by decide) ?_
          have hi3 := i_nle c61
          have e9 : (p7 + Int32.ofInt 1).toInt = p7.toInt + 1 := m_add1 (by omega) (by omega)
          exact ih55 _ (by subst hd55; rw [e9]; omega) _ _ _ _ _ _ _ hB (lv_sub hl [0, 1, 2, 6, 7, 8, 9, 10] rfl) ⟨by rw [e9]; omega, by rw [e9]; omega⟩ rfl
        · refine lv_iload hx hb dX14_phaseFor_204 (lv_at hl 1 rfl) ?_
          refine lv_iload hx hb dX14_phaseFor_206 (lv_at hl 4 rfl) ?_
          refine lv_icmp_ge (tgt := 219) hx hb dX14_phaseFor_208 (by decide) (fun c208 => ?_) (fun c208 => ?_)
          · refine lv_iinc (lv' := [(7, .int _), (10, .int _), (9, .int _), (8, .int _), (6, .int _), (5, .int _), (4, .int _), (3, .int _), (2, .int _), (1, .ref _), (0, .ref _)]) hx hb dX14_phaseFor_219 hl (k := 3) rfl rfl (by decide) rfl (fun ls hl => ?_)
            refine lv_goto (tgt := 55) hx hb dX14_phaseFor_222 (by decide) ?_
            have hi3 := i_nle c61
            have e9 : (p7 + Int32.ofInt 1).toInt = p7.toInt + 1 := m_add1 (by omega) (by omega)
            exact ih55 _ (by subst hd55; rw [e9]; omega) _ _ _ _ _ _ _ hB (lv_sub hl [0, 4, 5, 6, 7, 8, 9, 10] rfl) ⟨by rw [e9]; omega, by rw [e9]; omega⟩ rfl
          · refine lv_iload hx hb dX14_phaseFor_211 (lv_at hl 3 rfl) ?_
            refine lv_istore (lv' := [(5, .int _), (10, .int _), (9, .int _), (8, .int _), (7, .int _), (6, .int _), (4, .int _), (3, .int _), (2, .int _), (1, .ref _), (0, .ref _)]) hx hb dX14_phaseFor_213 hl (by decide) rfl (fun ls hl => ?_)
            refine lv_iload hx hb dX14_phaseFor_215 (lv_at hl 2 rfl) ?_
            refine lv_istore (lv' := [(6, .int _), (5, .int _), (10, .int _), (9, .int _), (8, .int _), (7, .int _), (4, .int _), (3, .int _), (2, .int _), (1, .ref _), (0, .ref _)]) hx hb dX14_phaseFor_217 hl (by decide) rfl (fun ls hl => ?_)
            refine lv_iinc (lv' := [(7, .int _), (6, .int _), (5, .int _), (10, .int _), (9, .int _), (8, .int _), (4, .int _), (3, .int _), (2, .int _), (1, .ref _), (0, .ref _)]) hx hb dX14_phaseFor_219 hl (k := 5) rfl rfl (by decide) rfl (fun ls hl => ?_)
            refine lv_goto (tgt := 55) hx hb dX14_phaseFor_222 (by decide) ?_
            have hi3 := i_nle c61
            have e9 : (p7 + Int32.ofInt 1).toInt = p7.toInt + 1 := m_add1 (by omega) (by omega)
            exact ih55 _ (by subst hd55; rw [e9]; omega) _ _ _ _ _ _ _ hB (lv_sub hl [0, 1, 2, 6, 7, 8, 9, 10] rfl) ⟨by rw [e9]; omega, by rw [e9]; omega⟩ rfl
    · refine lv_iload hx hb dX14_phaseFor_80 (lv_at hl 0 rfl) ?_
      refine lv_aload_n hx hb dX14_phaseFor_82 rfl (lv_at hl 9 rfl) ?_
      refine gf_X14_229 F hB dX14_phaseFor_83 tp ?_
      refine lv_irem hx hb dX14_phaseFor_86 hiv.1 ?_
      refine lv_iload hx hb dX14_phaseFor_87 (lv_at hl 3 rfl) ?_
      refine lv_icmp_ne (tgt := 96) hx hb dX14_phaseFor_89 (by decide) (fun c89 => ?_) (fun c89 => ?_)
      · refine lv_iconst (v := 0) hx hb dX14_phaseFor_96 (by decide) ?_
        refine lv_istore (lv' := [(11, .int _), (10, .int _), (9, .int _), (8, .int _), (7, .int _), (6, .int _), (5, .int _), (4, .int _), (3, .int _), (2, .int _), (1, .ref _), (0, .ref _)]) hx hb dX14_phaseFor_97 hl (by decide) rfl (fun ls hl => ?_)
        refine lv_aload_n hx hb dX14_phaseFor_99 rfl (lv_at hl 11 rfl) ?_
        refine lv_iload hx hb dX14_phaseFor_100 (lv_at hl 1 rfl) ?_
        refine lv_iconst (v := (-1)) hx hb dX14_phaseFor_102 (by decide) ?_
        refine sg_callV (ci := 19) F hB (m_resIn l D cy h hY _ (-1) _) (cwV 2 F.1.2.2.2.2 (mgV (mm_8 _ (List.mem_of_getElem? (i := 23) rfl)) (mm_8 _ (List.mem_of_getElem? (i := 24) rfl)) (mm_8 _ (List.mem_of_getElem? (i := 25) rfl)) (mm_3 _ (List.mem_of_getElem? (i := 23) rfl)) (mm_8 _ (List.mem_of_getElem? (i := 21) rfl))) rfl rfl rfl ⟨rfl, by decide, by decide, by decide +kernel⟩ ⟨Nat.le_of_ble_eq_true rfl, Nat.le_of_ble_eq_true rfl⟩) rfl rfl (by decide) rfl hl.1 rfl (Nat.le_of_ble_eq_true rfl) dX14_phaseFor_103 (Nat.le_of_ble_eq_true rfl) (Nat.add_le_add_right (Nat.le_of_ble_eq_true rfl) _) (inv_A h) (fun H locs v σ103 N hBn hX103 hP => ?_)
        clear hB; have hB := hBn; clear hBn
        obtain ⟨⟨y103, rfl⟩, rfl⟩ := hP
        refine lv_iload hx hb dX14_phaseFor_106 (lv_at hl 0 rfl) ?_
        refine lv_if_eq (tgt := 118) hx hb dX14_phaseFor_108 (by decide) (fun c108 => ?_) (fun c108 => (by first | exact absurd c108 (by decide) | exact (c108 (by decide)).elim))
        refine lv_iconst (v := 0) hx hb dX14_phaseFor_118 (by decide) ?_
        refine lv_iadd hx hb dX14_phaseFor_119 ?_
        refine lv_istore (lv' := [(12, .int _), (11, .int _), (10, .int _), (9, .int _), (8, .int _), (7, .int _), (6, .int _), (5, .int _), (4, .int _), (3, .int _), (2, .int _), (1, .ref _), (0, .ref _)]) hx hb dX14_phaseFor_120 hl (by decide) rfl (fun ls hl => ?_)
        refine lv_iload hx hb dX14_phaseFor_122 (lv_at hl 3 rfl) ?_
        refine lv_iload hx hb dX14_phaseFor_124 (lv_at hl 0 rfl) ?_
        refine va_mmax hx hb (F.1.2.2.1.trans hl.1.symm) hown (F.1.2.2.2.2 _ (List.mem_cons_of_mem _ (mm_8 _ (List.mem_of_getElem? (i := 22) rfl)))) (F.1.2.2.2.2 _ (List.mem_cons_of_mem _ (mm_1 _ (List.mem_of_getElem? (i := 24) rfl)))) (F.1.2.2.2.2 _ (List.mem_cons_of_mem _ (mm_1 _ (List.mem_of_getElem? (i := 25) rfl)))) (F.1.2.2.2.2 _ (List.mem_cons_of_mem _ (mm_1 _ (List.mem_of_getElem? (i := 26) rfl)))) (Nat.le_of_ble_eq_true rfl) (Nat.le_of_ble_eq_true rfl) (Nat.le_of_ble_eq_true rfl) (Nat.le_trans (Nat.le_trans (Nat.le_add_right _ _) hB.2.2) (Nat.add_le_add_right (Nat.le_of_ble_eq_true rfl) _)) dX14_phaseFor_126 ?_
        refine lv_istore (lv' := [(9, .int _), (12, .int _), (11, .int _), (10, .int _), (8, .int _), (7, .int _), (6, .int _), (5, .int _), (4, .int _), (3, .int _), (2, .int _), (1, .ref _), (0, .ref _)]) hx hb dX14_phaseFor_129 hl (by decide) rfl (fun ls hl => ?_)
        refine lv_iload hx hb dX14_phaseFor_131 (lv_at hl 1 rfl) ?_
        refine lv_bipush (v := 80) hx hb dX14_phaseFor_133 (by decide) ?_
        refine lv_icmp_gt (tgt := 158) hx hb dX14_phaseFor_135 (by decide) (fun c135 => ?_) (fun c135 => ?_)
        · refine lv_iconst (v := 1) hx hb dX14_phaseFor_158 (by decide) ?_
          refine lv_goto (tgt := 163) hx hb dX14_phaseFor_159 (by decide) ?_
          refine lv_istore (lv' := [(13, .int _), (9, .int _), (12, .int _), (11, .int _), (10, .int _), (8, .int _), (7, .int _), (6, .int _), (5, .int _), (4, .int _), (3, .int _), (2, .int _), (1, .ref _), (0, .ref _)]) hx hb dX14_phaseFor_163 hl (by decide) rfl (fun ls hl => ?_)
          refine lv_iload hx hb dX14_phaseFor_165 (lv_at hl 5 rfl) ?_
          refine lv_if_eq (tgt := 184) hx hb dX14_phaseFor_167 (by decide) (fun c167 => ?_) (fun c167 => ?_)
          · refine lv_iconst (v := 0) hx hb dX14_phaseFor_184 (by decide) ?_
            refine lv_istore (lv' := [(8, .int _), (13, .int _), (9, .int _), (12, .int _), (11, .int _), (10, .int _), (7, .int _), (6, .int _), (5, .int _), (4, .int _), (3, .int _), (2, .int _), (1, .ref _), (0, .ref _)]) hx hb dX14_phaseFor_185 hl (by decide) rfl (fun ls hl => ?_)
            refine lv_iinc (lv' := [(10, .int _), (8, .int _), (13, .int _), (9, .int _), (12, .int _), (11, .int _), (7, .int _), (6, .int _), (5, .int _), (4, .int _), (3, .int _), (2, .int _), (1, .ref _), (0, .ref _)]) hx hb dX14_phaseFor_187 hl (k := 5) rfl rfl (by decide) rfl (fun ls hl => ?_)
            refine lv_goto (tgt := 73) hx hb dX14_phaseFor_190 (by decide) ?_
            have hi3 := i_nle c77
            have e9 : (a9 + Int32.ofInt 1).toInt = a9.toInt + 1 := m_add1 (by omega) (by omega)
            exact ih73 _ (by subst hd73; rw [e9]; omega) _ _ _ _ _ _ _ hB (lv_sub hl [0, 3, 1, 6, 7, 8, 9, 10, 11, 12, 13] rfl) ⟨by rw [e9]; omega, by rw [e9]; omega⟩ rfl
          · refine lv_iload hx hb dX14_phaseFor_170 (lv_at hl 3 rfl) ?_
            refine lv_if_eq (tgt := 180) hx hb dX14_phaseFor_172 (by decide) (fun c172 => ?_) (fun c172 => (by first | exact absurd c172 (by decide) | exact (c172 (by decide)).elim))
            refine lv_iconst (v := 1) hx hb dX14_phaseFor_180 (by decide) ?_
            refine lv_goto (tgt := 185) hx hb dX14_phaseFor_181 (by decide) ?_
            refine lv_istore (lv' := [(8, .int _), (13, .int _), (9, .int _), (12, .int _), (11, .int _), (10, .int _), (7, .int _), (6, .int _), (5, .int _), (4, .int _), (3, .int _), (2, .int _), (1, .ref _), (0, .ref _)]) hx hb dX14_phaseFor_185 hl (by decide) rfl (fun ls hl => ?_)
            refine lv_iinc (lv' := [(10, .int _), (8, .int _), (13, .int _), (9, .int _), (12, .int _), (11, .int _), (7, .int _), (6, .int _), (5, .int _), (4, .int _), (3, .int _), (2, .int _), (1, .ref _), (0, .ref _)]) hx hb dX14_phaseFor_187 hl (k := 5) rfl rfl (by decide) rfl (fun ls hl => ?_)
            refine lv_goto (tgt := 73) hx hb dX14_phaseFor_190 (by decide) ?_
            have hi3 := i_nle c77
            have e9 : (a9 + Int32.ofInt 1).toInt = a9.toInt + 1 := m_add1 (by omega) (by omega)
            exact ih73 _ (by subst hd73; rw [e9]; omega) _ _ _ _ _ _ _ hB (lv_sub hl [0, 3, 1, 6, 7, 8, 9, 10, 11, 12, 13] rfl) ⟨by rw [e9]; omega, by rw [e9]; omega⟩ rfl
        · refine lv_iload hx hb dX14_phaseFor_138 (lv_at hl 8 rfl) ?_
          refine lv_if_le (tgt := 162) hx hb dX14_phaseFor_140 (by decide) (fun c140 => ?_) (fun c140 => ?_)
          · refine lv_iconst (v := 0) hx hb dX14_phaseFor_162 (by decide) ?_
            refine lv_istore (lv' := [(13, .int _), (9, .int _), (12, .int _), (11, .int _), (10, .int _), (8, .int _), (7, .int _), (6, .int _), (5, .int _), (4, .int _), (3, .int _), (2, .int _), (1, .ref _), (0, .ref _)]) hx hb dX14_phaseFor_163 hl (by decide) rfl (fun ls hl => ?_)
            refine lv_iload hx hb dX14_phaseFor_165 (lv_at hl 5 rfl) ?_
            refine lv_if_eq (tgt := 184) hx hb dX14_phaseFor_167 (by decide) (fun c167 => ?_) (fun c167 => ?_)
            · refine lv_iconst (v := 0) hx hb dX14_phaseFor_184 (by decide) ?_
              refine lv_istore (lv' := [(8, .int _), (13, .int _), (9, .int _), (12, .int _), (11, .int _), (10, .int _), (7, .int _), (6, .int _), (5, .int _), (4, .int _), (3, .int _), (2, .int _), (1, .ref _), (0, .ref _)]) hx hb dX14_phaseFor_185 hl (by decide) rfl (fun ls hl => ?_)
              refine lv_iinc (lv' := [(10, .int _), (8, .int _), (13, .int _), (9, .int _), (12, .int _), (11, .int _), (7, .int _), (6, .int _), (5, .int _), (4, .int _), (3, .int _), (2, .int _), (1, .ref _), (0, .ref _)]) hx hb dX14_phaseFor_187 hl (k := 5) rfl rfl (by decide) rfl (fun ls hl => ?_)
              refine lv_goto (tgt := 73) hx hb dX14_phaseFor_190 (by decide) ?_
              have hi3 := i_nle c77
              have e9 : (a9 + Int32.ofInt 1).toInt = a9.toInt + 1 := m_add1 (by omega) (by omega)
              exact ih73 _ (by subst hd73; rw [e9]; omega) _ _ _ _ _ _ _ hB (lv_sub hl [0, 3, 1, 6, 7, 8, 9, 10, 11, 12, 13] rfl) ⟨by rw [e9]; omega, by rw [e9]; omega⟩ rfl
            · refine lv_iload hx hb dX14_phaseFor_170 (lv_at hl 3 rfl) ?_
              refine lv_if_eq (tgt := 180) hx hb dX14_phaseFor_172 (by decide) (fun c172 => ?_) (fun c172 => (by first | exact absurd c172 (by decide) | exact (c172 (by decide)).elim))
              refine lv_iconst (v := 1) hx hb dX14_phaseFor_180 (by decide) ?_
              refine lv_goto (tgt := 185) hx hb dX14_phaseFor_181 (by decide) ?_
              refine lv_istore (lv' := [(8, .int _), (13, .int _), (9, .int _), (12, .int _), (11, .int _), (10, .int _), (7, .int _), (6, .int _), (5, .int _), (4, .int _), (3, .int _), (2, .int _), (1, .ref _), (0, .ref _)]) hx hb dX14_phaseFor_185 hl (by decide) rfl (fun ls hl => ?_)
              refine lv_iinc (lv' := [(10, .int _), (8, .int _), (13, .int _), (9, .int _), (12, .int _), (11, .int _), (7, .int _), (6, .int _), (5, .int _), (4, .int _), (3, .int _), (2, .int _), (1, .ref _), (0, .ref _)]) hx hb dX14_phaseFor_187 hl (k := 5) rfl rfl (by decide) rfl (fun ls hl => ?_)
              refine lv_goto (tgt := 73) hx hb dX14_phaseFor_190 (by decide) ?_
              have hi3 := i_nle c77
              have e9 : (a9 + Int32.ofInt 1).toInt = a9.toInt + 1 := m_add1 (by omega) (by omega)
              exact ih73 _ (by subst hd73; rw [e9]; omega) _ _ _ _ _ _ _ hB (lv_sub hl [0, 3, 1, 6, 7, 8, 9, 10, 11, 12, 13] rfl) ⟨by rw [e9]; omega, by rw [e9]; omega⟩ rfl
          · refine lv_aload_n hx hb dX14_phaseFor_143 rfl (lv_at hl 12 rfl) ?_
            refine lv_iload hx hb dX14_phaseFor_144 (lv_at hl 3 rfl) ?_
            refine lv_iload_n hx hb dX14_phaseFor_146 rfl (lv_at hl 9 rfl) ?_
            refine sg_callV (ci := 19) F hB (m_resIn l D cy h hY _ _ _) (cwV 2 F.1.2.2.2.2 (mgV (mm_8 _ (List.mem_of_getElem? (i := 23) rfl)) (mm_8 _ (List.mem_of_getElem? (i := 24) rfl)) (mm_8 _ (List.mem_of_getElem? (i := 25) rfl)) (mm_3 _ (List.mem_of_getElem? (i := 23) rfl)) (mm_8 _ (List.mem_of_getElem? (i := 21) rfl))) rfl rfl rfl ⟨rfl, by decide, by decide, by decide +kernel⟩ ⟨Nat.le_of_ble_eq_true rfl, Nat.le_of_ble_eq_true rfl⟩) rfl rfl (by decide) rfl hl.1 rfl (Nat.le_of_ble_eq_true rfl) dX14_phaseFor_147 (Nat.le_of_ble_eq_true rfl) (Nat.add_le_add_right (Nat.le_of_ble_eq_true rfl) _) (inv_A h) (fun H locs v σ147 N hBn hX147 hP => ?_)
            clear hB; have hB := hBn; clear hBn
            obtain ⟨⟨y147, rfl⟩, rfl⟩ := hP
            refine lv_iload hx hb dX14_phaseFor_150 (lv_at hl 8 rfl) ?_
            refine lv_iadd hx hb dX14_phaseFor_152 ?_
            refine lv_bipush (v := 48) hx hb dX14_phaseFor_153 (by decide) ?_
            refine lv_icmp_le (tgt := 162) hx hb dX14_phaseFor_155 (by decide) (fun c155 => ?_) (fun c155 => ?_)
            · refine lv_iconst (v := 0) hx hb dX14_phaseFor_162 (by decide) ?_
              refine lv_istore (lv' := [(13, .int _), (9, .int _), (12, .int _), (11, .int _), (10, .int _), (8, .int _), (7, .int _), (6, .int _), (5, .int _), (4, .int _), (3, .int _), (2, .int _), (1, .ref _), (0, .ref _)]) hx hb dX14_phaseFor_163 hl (by decide) rfl (fun ls hl => ?_)
              refine lv_iload hx hb dX14_phaseFor_165 (lv_at hl 5 rfl) ?_
              refine lv_if_eq (tgt := 184) hx hb dX14_phaseFor_167 (by decide) (fun c167 => ?_) (fun c167 => ?_)
              · refine lv_iconst (v := 0) hx hb dX14_phaseFor_184 (by decide) ?_
                refine lv_istore (lv' := [(8, .int _), (13, .int _), (9, .int _), (12, .int _), (11, .int _), (10, .int _), (7, .int _), (6, .int _), (5, .int _), (4, .int _), (3, .int _), (2, .int _), (1, .ref _), (0, .ref _)]) hx hb dX14_phaseFor_185 hl (by decide) rfl (fun ls hl => ?_)
                refine lv_iinc (lv' := [(10, .int _), (8, .int _), (13, .int _), (9, .int _), (12, .int _), (11, .int _), (7, .int _), (6, .int _), (5, .int _), (4, .int _), (3, .int _), (2, .int _), (1, .ref _), (0, .ref _)]) hx hb dX14_phaseFor_187 hl (k := 5) rfl rfl (by decide) rfl (fun ls hl => ?_)
                refine lv_goto (tgt := 73) hx hb dX14_phaseFor_190 (by decide) ?_
                have hi3 := i_nle c77
                have e9 : (a9 + Int32.ofInt 1).toInt = a9.toInt + 1 := m_add1 (by omega) (by omega)
                exact ih73 _ (by subst hd73; rw [e9]; omega) _ _ _ _ _ _ _ hB (lv_sub hl [0, 3, 1, 6, 7, 8, 9, 10, 11, 12, 13] rfl) ⟨by rw [e9]; omega, by rw [e9]; omega⟩ rfl
              · refine lv_iload hx hb dX14_phaseFor_170 (lv_at hl 3 rfl) ?_
                refine lv_if_eq (tgt := 180) hx hb dX14_phaseFor_172 (by decide) (fun c172 => ?_) (fun c172 => (by first | exact absurd c172 (by decide) | exact (c172 (by decide)).elim))
                refine lv_iconst (v := 1) hx hb dX14_phaseFor_180 (by decide) ?_
                refine lv_goto (tgt := 185) hx hb dX14_phaseFor_181 (by decide) ?_
                refine lv_istore (lv' := [(8, .int _), (13, .int _), (9, .int _), (12, .int _), (11, .int _), (10, .int _), (7, .int _), (6, .int _), (5, .int _), (4, .int _), (3, .int _), (2, .int _), (1, .ref _), (0, .ref _)]) hx hb dX14_phaseFor_185 hl (by decide) rfl (fun ls hl => ?_)
                refine lv_iinc (lv' := [(10, .int _), (8, .int _), (13, .int _), (9, .int _), (12, .int _), (11, .int _), (7, .int _), (6, .int _), (5, .int _), (4, .int _), (3, .int _), (2, .int _), (1, .ref _), (0, .ref _)]) hx hb dX14_phaseFor_187 hl (k := 5) rfl rfl (by decide) rfl (fun ls hl => ?_)
                refine lv_goto (tgt := 73) hx hb dX14_phaseFor_190 (by decide) ?_
                have hi3 := i_nle c77
                have e9 : (a9 + Int32.ofInt 1).toInt = a9.toInt + 1 := m_add1 (by omega) (by omega)
                exact ih73 _ (by subst hd73; rw [e9]; omega) _ _ _ _ _ _ _ hB (lv_sub hl [0, 3, 1, 6, 7, 8, 9, 10, 11, 12, 13] rfl) ⟨by rw [e9]; omega, by rw [e9]; omega⟩ rfl
            · refine lv_iconst (v := 1) hx hb dX14_phaseFor_158 (by decide) ?_
              refine lv_goto (tgt := 163) hx hb dX14_phaseFor_159 (by decide) ?_
              refine lv_istore (lv' := [(13, .int _), (9, .int _), (12, .int _), (11, .int _), (10, .int _), (8, .int _), (7, .int _), (6, .int _), (5, .int _), (4, .int _), (3, .int _), (2, .int _), (1, .ref _), (0, .ref _)]) hx hb dX14_phaseFor_163 hl (by decide) rfl (fun ls hl => ?_)
              refine lv_iload hx hb dX14_phaseFor_165 (lv_at hl 5 rfl) ?_
              refine lv_if_eq (tgt := 184) hx hb dX14_phaseFor_167 (by decide) (fun c167 => ?_) (fun c167 => ?_)
              · refine lv_iconst (v := 0) hx hb dX14_phaseFor_184 (by decide) ?_
                refine lv_istore (lv' := [(8, .int _), (13, .int _), (9, .int _), (12, .int _), (11, .int _), (10, .int _), (7, .int _), (6, .int _), (5, .int _), (4, .int _), (3, .int _), (2, .int _), (1, .ref _), (0, .ref _)]) hx hb dX14_phaseFor_185 hl (by decide) rfl (fun ls hl => ?_)
                refine lv_iinc (lv' := [(10, .int _), (8, .int _), (13, .int _), (9, .int _), (12, .int _), (11, .int _), (7, .int _), (6, .int _), (5, .int _), (4, .int _), (3, .int _), (2, .int _), (1, .ref _), (0, .ref _)]) hx hb dX14_phaseFor_187 hl (k := 5) rfl rfl (by decide) rfl (fun ls hl => ?_)
                refine lv_goto (tgt := 73) hx hb dX14_phaseFor_190 (by decide) ?_
                have hi3 := i_nle c77
                have e9 : (a9 + Int32.ofInt 1).toInt = a9.toInt + 1 := m_add1 (by omega) (by omega)
                exact ih73 _ (by subst hd73; rw [e9]; omega) _ _ _ _ _ _ _ hB (lv_sub hl [0, 3, 1, 6, 7, 8, 9, 10, 11, 12, 13] rfl) ⟨by rw [e9]; omega, by rw [e9]; omega⟩ rfl
              · refine lv_iload hx hb dX14_phaseFor_170 (lv_at hl 3 rfl) ?_
                refine lv_if_eq (tgt := 180) hx hb dX14_phaseFor_172 (by decide) (fun c172 => ?_) (fun c172 => (by first | exact absurd c172 (by decide) | exact (c172 (by decide)).elim))
                refine lv_iconst (v := 1) hx hb dX14_phaseFor_180 (by decide) ?_
                refine lv_goto (tgt := 185) hx hb dX14_phaseFor_181 (by decide) ?_
                refine lv_istore (lv' := [(8, .int _), (13, .int _), (9, .int _), (12, .int _), (11, .int _), (10, .int _), (7, .int _), (6, .int _), (5, .int _), (4, .int _), (3, .int _), (2, .int _), (1, .ref _), (0, .ref _)]) hx hb dX14_phaseFor_185 hl (by decide) rfl (fun ls hl => ?_)
                refine lv_iinc (lv' := [(10, .int _), (8, .int _), (13, .int _), (9, .int _), (12, .int _), (11, .int _), (7, .int _), (6, .int _), (5, .int _), (4, .int _), (3, .int _), (2, .int _), (1, .ref _), (0, .ref _)]) hx hb dX14_phaseFor_187 hl (k := 5) rfl rfl (by decide) rfl (fun ls hl => ?_)
                refine lv_goto (tgt := 73) hx hb dX14_phaseFor_190 (by decide) ?_
                have hi3 := i_nle c77
                have e9 : (a9 + Int32.ofInt 1).toInt = a9.toInt + 1 := m_add1 (by omega) (by omega)
                exact ih73 _ (by subst hd73; rw [e9]; omega) _ _ _ _ _ _ _ hB (lv_sub hl [0, 3, 1, 6, 7, 8, 9, 10, 11, 12, 13] rfl) ⟨by rw [e9]; omega, by rw [e9]; omega⟩ rfl
      · refine lv_iconst (v := 1) hx hb dX14_phaseFor_92 (by decide) ?_
        refine lv_goto (tgt := 97) hx hb dX14_phaseFor_93 (by decide) ?_
        refine lv_istore (lv' := [(11, .int _), (10, .int _), (9, .int _), (8, .int _), (7, .int _), (6, .int _), (5, .int _), (4, .int _), (3, .int _), (2, .int _), (1, .ref _), (0, .ref _)]) hx hb dX14_phaseFor_97 hl (by decide) rfl (fun ls hl => ?_)
        refine lv_aload_n hx hb dX14_phaseFor_99 rfl (lv_at hl 11 rfl) ?_
        refine lv_iload hx hb dX14_phaseFor_100 (lv_at hl 1 rfl) ?_
        refine lv_iconst (v := (-1)) hx hb dX14_phaseFor_102 (by decide) ?_
        refine sg_callV (ci := 19) F hB (m_resIn l D cy h hY _ (-1) _) (cwV 2 F.1.2.2.2.2 (mgV (mm_8 _ (List.mem_of_getElem? (i := 23) rfl)) (mm_8 _ (List.mem_of_getElem? (i := 24) rfl)) (mm_8 _ (List.mem_of_getElem? (i := 25) rfl)) (mm_3 _ (List.mem_of_getElem? (i := 23) rfl)) (mm_8 _ (List.mem_of_getElem? (i := 21) rfl))) rfl rfl rfl ⟨rfl, by decide, by decide, by decide +kernel⟩ ⟨Nat.le_of_ble_eq_true rfl, Nat.le_of_ble_eq_true rfl⟩) rfl rfl (by decide) rfl hl.1 rfl (Nat.le_of_ble_eq_true rfl) dX14_phaseFor_103 (Nat.le_of_ble_eq_true rfl) (Nat.add_le_add_right (Nat.le_of_ble_eq_true rfl) _) (inv_A h) (fun H locs v σ103 N hBn hX103 hP => ?_)
        clear hB; have hB := hBn; clear hBn
        obtain ⟨⟨y103, rfl⟩, rfl⟩ := hP
        refine lv_iload hx hb dX14_phaseFor_106 (lv_at hl 0 rfl) ?_
        refine lv_if_eq (tgt := 118) hx hb dX14_phaseFor_108 (by decide) (fun c108 => (by first | exact absurd c108 (by decide) | exact (c108 (by decide)).elim)) (fun c108 => ?_)
        refine lv_iload_n hx hb dX14_phaseFor_111 rfl (lv_at hl 9 rfl) ?_
        refine sg_callS F hB (m_hostCost l D cy _ _) (cwS 1 F.1.2.2.2.2 (mgS (mm_8 _ (List.mem_of_getElem? (i := 19) rfl)) (mm_8 _ (List.mem_of_getElem? (i := 20) rfl)) (mm_3 _ (List.mem_of_getElem? (i := 23) rfl)) (mm_8 _ (List.mem_of_getElem? (i := 10) rfl))) rfl rfl rfl ⟨rfl, by decide, by decide, by decide +kernel⟩ ⟨Nat.le_of_ble_eq_true rfl, Nat.le_of_ble_eq_true rfl⟩) rfl hl.1 rfl (Nat.le_of_ble_eq_true rfl) dX14_phaseFor_112 (Nat.le_of_ble_eq_true rfl) (Nat.add_le_add_right (Nat.le_of_ble_eq_true rfl) _)  (fun H locs v σ112 N hBn hX112 hP => ?_)
        clear hB; have hB := hBn; clear hBn
        obtain ⟨rfl, rfl⟩ := hP
        refine lv_goto (tgt := 119) hx hb dX14_phaseFor_115 (by decide) ?_
        refine lv_iadd hx hb dX14_phaseFor_119 ?_
        refine lv_istore (lv' := [(12, .int _), (11, .int _), (10, .int _), (9, .int _), (8, .int _), (7, .int _), (6, .int _), (5, .int _), (4, .int _), (3, .int _), (2, .int _), (1, .ref _), (0, .ref _)]) hx hb dX14_phaseFor_120 hl (by decide) rfl (fun ls hl => ?_)
        refine lv_iload hx hb dX14_phaseFor_122 (lv_at hl 3 rfl) ?_
        refine lv_iload hx hb dX14_phaseFor_124 (lv_at hl 0 rfl) ?_
        refine va_mmax hx hb (F.1.2.2.1.trans hl.1.symm) hown (F.1.2.2.2.2 _ (List.mem_cons_of_mem _ (mm_8 _ (List.mem_of_getElem? (i := 22) rfl)))) (F.1.2.2.2.2 _ (List.mem_cons_of_mem _ (mm_1 _ (List.mem_of_getElem? (i := 24) rfl)))) (F.1.2.2.2.2 _ (List.mem_cons_of_mem _ (mm_1 _ (List.mem_of_getElem? (i := 25) rfl)))) (F.1.2.2.2.2 _ (List.mem_cons_of_mem _ (mm_1 _ (List.mem_of_getElem? (i := 26) rfl)))) (Nat.le_of_ble_eq_true rfl) (Nat.le_of_ble_eq_true rfl) (Nat.le_of_ble_eq_true rfl) (Nat.le_trans (Nat.le_trans (Nat.le_add_right _ _) hB.2.2) (Nat.add_le_add_right (Nat.le_of_ble_eq_true rfl) _)) dX14_phaseFor_126 ?_
        refine lv_istore (lv' := [(9, .int _), (12, .int _), (11, .int _), (10, .int _), (8, .int _), (7, .int _), (6, .int _), (5, .int _), (4, .int _), (3, .int _), (2, .int _), (1, .ref _), (0, .ref _)]) hx hb dX14_phaseFor_129 hl (by decide) rfl (fun ls hl => ?_)
        refine lv_iload hx hb dX14_phaseFor_131 (lv_at hl 1 rfl) ?_
        refine lv_bipush (v := 80) hx hb dX14_phaseFor_133 (by decide) ?_
        refine lv_icmp_gt (tgt := 158) hx hb dX14_phaseFor_135 (by decide) (fun c135 => ?_) (fun c135 => ?_)
        · refine lv_iconst (v := 1) hx hb dX14_phaseFor_158 (by decide) ?_
          refine lv_goto (tgt := 163) hx hb dX14_phaseFor_159 (by decide) ?_
          refine lv_istore (lv' := [(13, .int _), (9, .int _), (12, .int _), (11, .int _), (10, .int _), (8, .int _), (7, .int _), (6, .int _), (5, .int _), (4, .int _), (3, .int _), (2, .int _), (1, .ref _), (0, .ref _)]) hx hb dX14_phaseFor_163 hl (by decide) rfl (fun ls hl => ?_)
          refine lv_iload hx hb dX14_phaseFor_165 (lv_at hl 5 rfl) ?_
          refine lv_if_eq (tgt := 184) hx hb dX14_phaseFor_167 (by decide) (fun c167 => ?_) (fun c167 => ?_)
          · refine lv_iconst (v := 0) hx hb dX14_phaseFor_184 (by decide) ?_
            refine lv_istore (lv' := [(8, .int _), (13, .int _), (9, .int _), (12, .int _), (11, .int _), (10, .int _), (7, .int _), (6, .int _), (5, .int _), (4, .int _), (3, .int _), (2, .int _), (1, .ref _), (0, .ref _)]) hx hb dX14_phaseFor_185 hl (by decide) rfl (fun ls hl => ?_)
            refine lv_iinc (lv' := [(10, .int _), (8, .int _), (13, .int _), (9, .int _), (12, .int _), (11, .int _), (7, .int _), (6, .int _), (5, .int _), (4, .int _), (3, .int _), (2, .int _), (1, .ref _), (0, .ref _)]) hx hb dX14_phaseFor_187 hl (k := 5) rfl rfl (by decide) rfl (fun ls hl => ?_)
            refine lv_goto (tgt := 73) hx hb dX14_phaseFor_190 (by decide) ?_
            have hi3 := i_nle c77
            have e9 : (a9 + Int32.ofInt 1).toInt = a9.toInt + 1 := m_add1 (by omega) (by omega)
            exact ih73 _ (by subst hd73; rw [e9]; omega) _ _ _ _ _ _ _ hB (lv_sub hl [0, 3, 1, 6, 7, 8, 9, 10, 11, 12, 13] rfl) ⟨by rw [e9]; omega, by rw [e9]; omega⟩ rfl
          · refine lv_iload hx hb dX14_phaseFor_170 (lv_at hl 3 rfl) ?_
            refine lv_if_eq (tgt := 180) hx hb dX14_phaseFor_172 (by decide) (fun c172 => (by first | exact absurd c172 (by decide) | exact (c172 (by decide)).elim)) (fun c172 => ?_)
            refine lv_iload hx hb dX14_phaseFor_175 (lv_at hl 0 rfl) ?_
            refine lv_if_ne (tgt := 184) hx hb dX14_phaseFor_177 (by decide) (fun c177 => ?_) (fun c177 => (by first | exact absurd c177 (by decide) | exact (c177 (by decide)).elim))
            refine lv_iconst (v := 0) hx hb dX14_phaseFor_184 (by decide) ?_
            refine lv_istore (lv' := [(8, .int _), (13, .int _), (9, .int _), (12, .int _), (11, .int _), (10, .int _), (7, .int _), (6, .int _), (5, .int _), (4, .int _), (3, .int _), (2, .int _), (1, .ref _), (0, .ref _)]) hx hb dX14_phaseFor_185 hl (by decide) rfl (fun ls hl => ?_)
            refine lv_iinc (lv' := [(10, .int _), (8, .int _), (13, .int _), (9, .int _), (12, .int _), (11, .int _), (7, .int _), (6, .int _), (5, .int _), (4, .int _), (3, .int _), (2, .int _), (1, .ref _), (0, .ref _)]) hx hb dX14_phaseFor_187 hl (k := 5) rfl rfl (by decide) rfl (fun ls hl => ?_)
            refine lv_goto (tgt := 73) hx hb dX14_phaseFor_190 (by decide) ?_
            have hi3 := i_nle c77
            have e9 : (a9 + Int32.ofInt 1).toInt = a9.toInt + 1 := m_add1 (by omega) (by omega)
            exact ih73 _ (by subst hd73; rw [e9]; omega) _ _ _ _ _ _ _ hB (lv_sub hl [0, 3, 1, 6, 7, 8, 9, 10, 11, 12, 13] rfl) ⟨by rw [e9]; omega, by rw [e9]; omega⟩ rfl
        · refine lv_iload hx hb dX14_phaseFor_138 (lv_at hl 8 rfl) ?_
          refine lv_if_le (tgt := 162) hx hb dX14_phaseFor_140 (by decide) (fun c140 => ?_) (fun c140 => ?_)
          · refine lv_iconst (v := 0) hx hb dX14_phaseFor_162 (by decide) ?_
            refine lv_istore (lv' := [(13, .int _), (9, .int _), (12, .int _), (11, .int _), (10, .int _), (8, .int _), (7, .int _), (6, .int _), (5, .int _), (4, .int _), (3, .int _), (2, .int _), (1, .ref _), (0, .ref _)]) hx hb dX14_phaseFor_163 hl (by decide) rfl (fun ls hl => ?_)
            refine lv_iload hx hb dX14_phaseFor_165 (lv_at hl 5 rfl) ?_
            refine lv_if_eq (tgt := 184) hx hb dX14_phaseFor_167 (by decide) (fun c167 => ?_) (fun c167 => ?_)
            · refine lv_iconst (v := 0) hx hb dX14_phaseFor_184 (by decide) ?_
              refine lv_istore (lv' := [(8, .int _), (13, .int _), (9, .int _), (12, .int _), (11, .int _), (10, .int _), (7, .int _), (6, .int _), (5, .int _), (4, .int _), (3, .int _), (2, .int _), (1, .ref _), (0, .ref _)]) hx hb dX14_phaseFor_185 hl (by decide) rfl (fun ls hl => ?_)
              refine lv_iinc (lv' := [(10, .int _), (8, .int _), (13, .int _), (9, .int _), (12, .int _), (11, .int _), (7, .int _), (6, .int _), (5, .int _), (4, .int _), (3, .int _), (2, .int _), (1, .ref _), (0, .ref _)]) hx hb dX14_phaseFor_187 hl (k := 5) rfl rfl (by decide) rfl (fun ls hl => ?_)
              refine lv_goto (tgt := 73) hx hb dX14_phaseFor_190 (by decide) ?_
              have hi3 := i_nle c77
              have e9 : (a9 + Int32.ofInt 1).toInt = a9.toInt + 1 := m_add1 (by omega) (by omega)
              exact ih73 _ (by subst hd73; rw [e9]; omega) _ _ _ _ _ _ _ hB (lv_sub hl [0, 3, 1, 6, 7, 8, 9, 10, 11, 12, 13] rfl) ⟨by rw [e9]; omega, by rw [e9]; omega⟩ rfl
            · refine lv_iload hx hb dX14_phaseFor_170 (lv_at hl 3 rfl) ?_
              refine lv_if_eq (tgt := 180) hx hb dX14_phaseFor_172 (by decide) (fun c172 => (by first | exact absurd c172 (by decide) | exact (c172 (by decide)).elim)) (fun c172 => ?_)
              refine lv_iload hx hb dX14_phaseFor_175 (lv_at hl 0 rfl) ?_
              refine lv_if_ne (tgt := 184) hx hb dX14_phaseFor_177 (by decide) (fun c177 => (by first | exact absurd c177 (by decide) | exact (c177 (by decide)).elim)) (fun c177 => ?_)
              refine lv_iconst (v := 1) hx hb dX14_phaseFor_180 (by decide) ?_
              refine lv_goto (tgt := 185) hx hb dX14_phaseFor_181 (by decide) ?_
              refine lv_istore (lv' := [(8, .int _), (13, .int _), (9, .int _), (12, .int _), (11, .int _), (10, .int _), (7, .int _), (6, .int _), (5, .int _), (4, .int _), (3, .int _), (2, .int _), (1, .ref _), (0, .ref _)]) hx hb dX14_phaseFor_185 hl (by decide) rfl (fun ls hl => ?_)
              refine lv_iinc (lv' := [(10, .int _), (8, .int _), (13, .int _), (9, .int _), (12, .int _), (11, .int _), (7, .int _), (6, .int _), (5, .int _), (4, .int _), (3, .int _), (2, .int _), (1, .ref _), (0, .ref _)]) hx hb dX14_phaseFor_187 hl (k := 5) rfl rfl (by decide) rfl (fun ls hl => ?_)
              refine lv_goto (tgt := 73) hx hb dX14_phaseFor_190 (by decide) ?_
              have hi3 := i_nle c77
              have e9 : (a9 + Int32.ofInt 1).toInt = a9.toInt + 1 := m_add1 (by omega) (by omega)
              exact ih73 _ (by subst hd73; rw [e9]; omega) _ _ _ _ _ _ _ hB (lv_sub hl [0, 3, 1, 6, 7, 8, 9, 10, 11, 12, 13] rfl) ⟨by rw [e9]; omega, by rw [e9]; omega⟩ rfl
          · refine lv_aload_n hx hb dX14_phaseFor_143 rfl (lv_at hl 12 rfl) ?_
            refine lv_iload hx hb dX14_phaseFor_144 (lv_at hl 3 rfl) ?_
            refine lv_iload_n hx hb dX14_phaseFor_146 rfl (lv_at hl 9 rfl) ?_
            refine sg_callV (ci := 19) F hB (m_resIn l D cy h hY _ _ _) (cwV 2 F.1.2.2.2.2 (mgV (mm_8 _ (List.mem_of_getElem? (i := 23) rfl)) (mm_8 _ (List.mem_of_getElem? (i := 24) rfl)) (mm_8 _ (List.mem_of_getElem? (i := 25) rfl)) (mm_3 _ (List.mem_of_getElem? (i := 23) rfl)) (mm_8 _ (List.mem_of_getElem? (i := 21) rfl))) rfl rfl rfl ⟨rfl, by decide, by decide, by decide +kernel⟩ ⟨Nat.le_of_ble_eq_true rfl, Nat.le_of_ble_eq_true rfl⟩) rfl rfl (by decide) rfl hl.1 rfl (Nat.le_of_ble_eq_true rfl) dX14_phaseFor_147 (Nat.le_of_ble_eq_true rfl) (Nat.add_le_add_right (Nat.le_of_ble_eq_true rfl) _) (inv_A h) (fun H locs v σ147 N hBn hX147 hP => ?_)
            clear hB; have hB := hBn; clear hBn
            obtain ⟨⟨y147, rfl⟩, rfl⟩ := hP
            refine lv_iload hx hb dX14_phaseFor_150 (lv_at hl 8 rfl) ?_
            refine lv_iadd hx hb dX14_phaseFor_152 ?_
            refine lv_bipush (v := 48) hx hb dX14_phaseFor_153 (by decide) ?_
            refine lv_icmp_le (tgt := 162) hx hb dX14_phaseFor_155 (by decide) (fun c155 => ?_) (fun c155 => ?_)
            · refine lv_iconst (v := 0) hx hb dX14_phaseFor_162 (by decide) ?_
              refine lv_istore (lv' := [(13, .int _), (9, .int _), (12, .int _), (11, .int _), (10, .int _), (8, .int _), (7, .int _), (6, .int _), (5, .int _), (4, .int _), (3, .int _), (2, .int _), (1, .ref _), (0, .ref _)]) hx hb dX14_phaseFor_163 hl (by decide) rfl (fun ls hl => ?_)
              refine lv_iload hx hb dX14_phaseFor_165 (lv_at hl 5 rfl) ?_
              refine lv_if_eq (tgt := 184) hx hb dX14_phaseFor_167 (by decide) (fun c167 => ?_) (fun c167 => ?_)
              · refine lv_iconst (v := 0) hx hb dX14_phaseFor_184 (by decide) ?_
                refine lv_istore (lv' := [(8, .int _), (13, .int _), (9, .int _), (12, .int _), (11, .int _), (10, .int _), (7, .int _), (6, .int _), (5, .int _), (4, .int _), (3, .int _), (2, .int _), (1, .ref _), (0, .ref _)]) hx hb dX14_phaseFor_185 hl (by decide) rfl (fun ls hl => ?_)
                refine lv_iinc (lv' := [(10, .int _), (8, .int _), (13, .int _), (9, .int _), (12, .int _), (11, .int _), (7, .int _), (6, .int _), (5, .int _), (4, .int _), (3, .int _), (2, .int _), (1, .ref _), (0, .ref _)]) hx hb dX14_phaseFor_187 hl (k := 5) rfl rfl (by decide) rfl (fun ls hl => ?_)
                refine lv_goto (tgt := 73) hx hb dX14_phaseFor_190 (by decide) ?_
                have hi3 := i_nle c77
                have e9 : (a9 + Int32.ofInt 1).toInt = a9.toInt + 1 := m_add1 (by omega) (by omega)
                exact ih73 _ (by subst hd73; rw [e9]; omega) _ _ _ _ _ _ _ hB (lv_sub hl [0, 3, 1, 6, 7, 8, 9, 10, 11, 12, 13] rfl) ⟨by rw [e9]; omega, by rw [e9]; omega⟩ rfl
              · refine lv_iload hx hb dX14_phaseFor_170 (lv_at hl 3 rfl) ?_
                refine lv_if_eq (tgt := 180) hx hb dX14_phaseFor_172 (by decide) (fun c172 => (by first | exact absurd c172 (by decide) | exact (c172 (by decide)).elim)) (fun c172 => ?_)
                refine lv_iload hx hb dX14_phaseFor_175 (lv_at hl 0 rfl) ?_
                refine lv_if_ne (tgt := 184) hx hb dX14_phaseFor_177 (by decide) (fun c177 => (by first | exact absurd c177 (by decide) | exact (c177 (by decide)).elim)) (fun c177 => ?_)
                refine lv_iconst (v := 1) hx hb dX14_phaseFor_180 (by decide) ?_
                refine lv_goto (tgt := 185) hx hb dX14_phaseFor_181 (by decide) ?_
                refine lv_istore (lv' := [(8, .int _), (13, .int _), (9, .int _), (12, .int _), (11, .int _), (10, .int _), (7, .int _), (6, .int _), (5, .int _), (4, .int _), (3, .int _), (2, .int _), (1, .ref _), (0, .ref _)]) hx hb dX14_phaseFor_185 hl (by decide) rfl (fun ls hl => ?_)
                refine lv_iinc (lv' := [(10, .int _), (8, .int _), (13, .int _), (9, .int _), (12, .int _), (11, .int _), (7, .int _), (6, .int _), (5, .int _), (4, .int _), (3, .int _), (2, .int _), (1, .ref _), (0, .ref _)]) hx hb dX14_phaseFor_187 hl (k := 5) rfl rfl (by decide) rfl (fun ls hl => ?_)
                refine lv_goto (tgt := 73) hx hb dX14_phaseFor_190 (by decide) ?_
                have hi3 := i_nle c77
                have e9 : (a9 + Int32.ofInt 1).toInt = a9.toInt + 1 := m_add1 (by omega) (by omega)
                exact ih73 _ (by subst hd73; rw [e9]; omega) _ _ _ _ _ _ _ hB (lv_sub hl [0, 3, 1, 6, 7, 8, 9, 10, 11, 12, 13] rfl) ⟨by rw [e9]; omega, by rw [e9]; omega⟩ rfl
            · refine lv_iconst (v := 1) hx hb dX14_phaseFor_158 (by decide) ?_
              refine lv_goto (tgt := 163) hx hb dX14_phaseFor_159 (by decide) ?_
              refine lv_istore (lv' := [(13, .int _), (9, .int _), (12, .int _), (11, .int _), (10, .int _), (8, .int _), (7, .int _), (6, .int _), (5, .int _), (4, .int _), (3, .int _), (2, .int _), (1, .ref _), (0, .ref _)]) hx hb dX14_phaseFor_163 hl (by decide) rfl (fun ls hl => ?_)
              refine lv_iload hx hb dX14_phaseFor_165 (lv_at hl 5 rfl) ?_
              refine lv_if_eq (tgt := 184) hx hb dX14_phaseFor_167 (by decide) (fun c167 => ?_) (fun c167 => ?_)
              · refine lv_iconst (v := 0) hx hb dX14_phaseFor_184 (by decide) ?_
                refine lv_istore (lv' := [(8, .int _), (13, .int _), (9, .int _), (12, .int _), (11, .int _), (10, .int _), (7, .int _), (6, .int _), (5, .int _), (4, .int _), (3, .int _), (2, .int _), (1, .ref _), (0, .ref _)]) hx hb dX14_phaseFor_185 hl (by decide) rfl (fun ls hl => ?_)
                refine lv_iinc (lv' := [(10, .int _), (8, .int _), (13, .int _), (9, .int _), (12, .int _), (11, .int _), (7, .int _), (6, .int _), (5, .int _), (4, .int _), (3, .int _), (2, .int _), (1, .ref _), (0, .ref _)]) hx hb dX14_phaseFor_187 hl (k := 5) rfl rfl (by decide) rfl (fun ls hl => ?_)
                refine lv_goto (tgt := 73) hx hb dX14_phaseFor_190 (by decide) ?_
                have hi3 := i_nle c77
                have e9 : (a9 + Int32.ofInt 1).toInt = a9.toInt + 1 := m_add1 (by omega) (by omega)
                exact ih73 _ (by subst hd73; rw [e9]; omega) _ _ _ _ _ _ _ hB (lv_sub hl [0, 3, 1, 6, 7, 8, 9, 10, 11, 12, 13] rfl) ⟨by rw [e9]; omega, by rw [e9]; omega⟩ rfl
              · refine lv_iload hx hb dX14_phaseFor_170 (lv_at hl 3 rfl) ?_
                refine lv_if_eq (tgt := 180) hx hb dX14_phaseFor_172 (by decide) (fun c172 => (by first | exact absurd c172 (by decide) | exact (c172 (by decide)).elim)) (fun c172 => ?_)
                refine lv_iload hx hb dX14_phaseFor_175 (lv_at hl 0 rfl) ?_
                refine lv_if_ne (tgt := 184) hx hb dX14_phaseFor_177 (by decide) (fun c177 => ?_) (fun c177 => (by first | exact absurd c177 (by decide) | exact (c177 (by decide)).elim))
                refine lv_iconst (v := 0) hx hb dX14_phaseFor_184 (by decide) ?_
                refine lv_istore (lv' := [(8, .int _), (13, .int _), (9, .int _), (12, .int _), (11, .int _), (10, .int _), (7, .int _), (6, .int _), (5, .int _), (4, .int _), (3, .int _), (2, .int _), (1, .ref _), (0, .ref _)]) hx hb dX14_phaseFor_185 hl (by decide) rfl (fun ls hl => ?_)
                refine lv_iinc (lv' := [(10, .int _), (8, .int _), (13, .int _), (9, .int _), (12, .int _), (11, .int _), (7, .int _), (6, .int _), (5, .int _), (4, .int _), (3, .int _), (2, .int _), (1, .ref _), (0, .ref _)]) hx hb dX14_phaseFor_187 hl (k := 5) rfl rfl (by decide) rfl (fun ls hl => ?_)
                refine lv_goto (tgt := 73) hx hb dX14_phaseFor_190 (by decide) ?_
                have hi3 := i_nle c77
                have e9 : (a9 + Int32.ofInt 1).toInt = a9.toInt + 1 := m_add1 (by omega) (by omega)
                exact ih73 _ (by subst hd73; rw [e9]; omega) _ _ _ _ _ _ _ hB (lv_sub hl [0, 3, 1, 6, 7, 8, 9, 10, 11, 12, 13] rfl) ⟨by rw [e9]; omega, by rw [e9]; omega⟩ rfl
theorem dX14_reserved_0 : decode cX14_reserved 0 = .ok (.aload_n 0, 1) := by decide +kernel
theorem dX14_reserved_1 : decode cX14_reserved 1 = .ok (.iload_n 1, 1) := by decide +kernel
theorem dX14_reserved_2 : decode cX14_reserved 2 = .ok (.iconst 0, 1) := by decide +kernel
theorem dX14_reserved_3 : decode cX14_reserved 3 = .ok (.bipush 7, 2) := by decide +kernel
theorem dX14_reserved_5 : decode cX14_reserved 5 = .ok (.invokestatic 68, 3) := by decide +kernel
theorem dX14_reserved_8 : decode cX14_reserved 8 = .ok (.ifCond .ne 7, 3) := by decide +kernel
theorem dX14_reserved_11 : decode cX14_reserved 11 = .ok (.iconst 1, 1) := by decide +kernel
theorem dX14_reserved_12 : decode cX14_reserved 12 = .ok (.goto 21, 3) := by decide +kernel
theorem dX14_reserved_15 : decode cX14_reserved 15 = .ok (.iload_n 2, 1) := by decide +kernel
theorem dX14_reserved_16 : decode cX14_reserved 16 = .ok (.iconst (-1), 1) := by decide +kernel
theorem dX14_reserved_17 : decode cX14_reserved 17 = .ok (.if_icmp .eq 15, 3) := by decide +kernel
theorem dX14_reserved_20 : decode cX14_reserved 20 = .ok (.aload_n 0, 1) := by decide +kernel
theorem dX14_reserved_21 : decode cX14_reserved 21 = .ok (.iload_n 2, 1) := by decide +kernel
theorem dX14_reserved_22 : decode cX14_reserved 22 = .ok (.invokevirtual 72, 3) := by decide +kernel
theorem dX14_reserved_25 : decode cX14_reserved 25 = .ok (.ifCond .ne 7, 3) := by decide +kernel
theorem dX14_reserved_28 : decode cX14_reserved 28 = .ok (.iconst 2, 1) := by decide +kernel
theorem dX14_reserved_29 : decode cX14_reserved 29 = .ok (.goto 4, 3) := by decide +kernel
theorem dX14_reserved_32 : decode cX14_reserved 32 = .ok (.iconst 0, 1) := by decide +kernel
theorem dX14_reserved_33 : decode cX14_reserved 33 = .ok (.putfield 61, 3) := by decide +kernel
theorem dX14_reserved_36 : decode cX14_reserved 36 = .ok (.aload_n 0, 1) := by decide +kernel
theorem dX14_reserved_37 : decode cX14_reserved 37 = .ok (.getfield 61, 3) := by decide +kernel
theorem dX14_reserved_40 : decode cX14_reserved 40 = .ok (.ifCond .le 7, 3) := by decide +kernel
theorem dX14_reserved_43 : decode cX14_reserved 43 = .ok (.iconst 0, 1) := by decide +kernel
theorem dX14_reserved_44 : decode cX14_reserved 44 = .ok (.goto 9, 3) := by decide +kernel
theorem dX14_reserved_47 : decode cX14_reserved 47 = .ok (.aload_n 0, 1) := by decide +kernel
theorem dX14_reserved_48 : decode cX14_reserved 48 = .ok (.iload_n 1, 1) := by decide +kernel
theorem dX14_reserved_49 : decode cX14_reserved 49 = .ok (.iload_n 2, 1) := by decide +kernel
theorem dX14_reserved_50 : decode cX14_reserved 50 = .ok (.invokevirtual 248, 3) := by decide +kernel
theorem dX14_reserved_53 : decode cX14_reserved 53 = .ok (.ireturn, 1) := by decide +kernel
set_option maxRecDepth 100000 in
set_option maxHeartbeats 4000000 in
theorem m_reserved (l : Launch) (D : va_G) (cy : Nat → ClassId) {eda ca : Nat} {ia : Nat → Nat} {σ : SG} {K : KM} {g : GH} {n S hw : Nat} (h : Inv eda ia K g n S hw σ) (hY : nY g) (x y : Int32) (sz : Nat) : sgM l D cy eda ca ia σ sz yX14_reserved (Cond.code yX14_reserved cX14_reserved 3 (some .int) :: mWall) 6 140 0 0 [.ref (kA K), .int x, .int y] (fun v σ2 => (∃ y : Int32, v = some (.int y)) ∧ Inv eda ia K g n S hw σ2) := by
  refine sg_ofW (cc := cX14_reserved) (maxL := 3) (ret := (some .int)) (by decide) rfl (Nat.le_of_ble_eq_true rfl) (lv := [(0, .ref (kA K)), (1, .int x), (2, .int y)]) rfl (fun p e s m below meth c ls H N hrt hnm F hB hl => ?_) sz
  have hx := F.1.1
  have hb := F.1.2.1
  have hown := F.1.2.2.2.1
  refine lv_aload_n hx hb dX14_reserved_0 rfl (lv_at hl 0 rfl) ?_
  refine lv_iload_n hx hb dX14_reserved_1 rfl (lv_at hl 1 rfl) ?_
  refine lv_iconst (v := 0) hx hb dX14_reserved_2 (by decide) ?_
  refine lv_bipush (v := 7) hx hb dX14_reserved_3 (by decide) ?_
  refine sg_callS F hB (m_in l D cy x 0 7 _) (cwS 3 F.1.2.2.2.2 (mgS (mm_3 _ (List.mem_of_getElem? (i := 21) rfl)) (mm_3 _ (List.mem_of_getElem? (i := 22) rfl)) (mm_3 _ (List.mem_of_getElem? (i := 23) rfl)) (mm_1 _ (List.mem_of_getElem? (i := 19) rfl))) rfl rfl rfl ⟨rfl, by decide, by decide, by decide +kernel⟩ ⟨Nat.le_of_ble_eq_true rfl, Nat.le_of_ble_eq_true rfl⟩) rfl hl.1 rfl (Nat.le_of_ble_eq_true rfl) dX14_reserved_5 (Nat.le_of_ble_eq_true rfl) (Nat.add_le_add_right (Nat.le_of_ble_eq_true rfl) _)  (fun H locs v σ5 N hBn hX5 hP => ?_)
  clear hB; have hB := hBn; clear hBn
  obtain ⟨b5, rfl, rfl, hb5⟩ := hP
  refine lv_if_ne (tgt := 15) hx hb dX14_reserved_8 (by decide) (fun c8 => ?_) (fun c8 => ?_)
  · refine lv_iload_n hx hb dX14_reserved_15 rfl (lv_at hl 2 rfl) ?_
    refine lv_iconst (v := (-1)) hx hb dX14_reserved_16 (by decide) ?_
    refine lv_icmp_eq (tgt := 32) hx hb dX14_reserved_17 (by decide) (fun c17 => ?_) (fun c17 => ?_)
    · refine lv_iconst (v := 0) hx hb dX14_reserved_32 (by decide) ?_
      refine pf_X14_61 F hB dX14_reserved_33 (inv_A h) (fun H locs hBn => ?_)
      clear hB; have hB := hBn; clear hBn
      have hI33 := inv_PIc (t := 20) hB h (inv_A h) (by unfold iCn; omega)
      refine lv_aload_n hx hb dX14_reserved_36 rfl (lv_at hl 0 rfl) ?_
      refine gf_X14_61 F hB dX14_reserved_37 (inv_A hI33) ?_
      rw [sgI_PI, if_pos ⟨rfl, rfl⟩]
      refine lv_if_le (tgt := 47) hx hb dX14_reserved_40 (by decide) (fun c40 => ?_) (fun c40 => (by first | exact absurd c40 (by decide) | exact (c40 (by decide)).elim))
      refine lv_aload_n hx hb dX14_reserved_47 rfl (lv_at hl 0 rfl) ?_
      refine lv_iload_n hx hb dX14_reserved_48 rfl (lv_at hl 1 rfl) ?_
      refine lv_iload_n hx hb dX14_reserved_49 rfl (lv_at hl 2 rfl) ?_
      refine sg_callV (ci := 19) F hB (m_resIn l D cy hI33 hY x y _) (cwV 2 F.1.2.2.2.2 (mgV (mm_8 _ (List.mem_of_getElem? (i := 23) rfl)) (mm_8 _ (List.mem_of_getElem? (i := 24) rfl)) (mm_8 _ (List.mem_of_getElem? (i := 25) rfl)) (mm_3 _ (List.mem_of_getElem? (i := 23) rfl)) (mm_8 _ (List.mem_of_getElem? (i := 21) rfl))) rfl rfl rfl ⟨rfl, by decide, by decide, by decide +kernel⟩ ⟨Nat.le_of_ble_eq_true rfl, Nat.le_of_ble_eq_true rfl⟩) rfl rfl (by decide) rfl hl.1 rfl (Nat.le_of_ble_eq_true rfl) dX14_reserved_50 (Nat.le_of_ble_eq_true rfl) (Nat.add_le_add_right (Nat.le_of_ble_eq_true rfl) _) (inv_A hI33) (fun H locs v σ50 N hBn hX50 hP => ?_)
      clear hB; have hB := hBn; clear hBn
      obtain ⟨⟨w50, rfl⟩, rfl⟩ := hP
      exact sg_iret F hB hrt dX14_reserved_53 (by decide) (by decide) (⟨⟨_, rfl⟩, hI33⟩)
    · refine lv_aload_n hx hb dX14_reserved_20 rfl (lv_at hl 0 rfl) ?_
      refine lv_iload_n hx hb dX14_reserved_21 rfl (lv_at hl 2 rfl) ?_
      refine sg_callV (ci := 19) F hB (m_isDevice l D cy h y _) (cwV 1 F.1.2.2.2.2 (mgV (mm_3 _ (List.mem_of_getElem? (i := 25) rfl)) (mm_3 _ (List.mem_of_getElem? (i := 26) rfl)) (mm_3 _ (List.mem_of_getElem? (i := 27) rfl)) (mm_3 _ (List.mem_of_getElem? (i := 23) rfl)) (mm_3 _ (List.mem_of_getElem? (i := 17) rfl))) rfl rfl rfl ⟨rfl, by decide, by decide, by decide +kernel⟩ ⟨Nat.le_of_ble_eq_true rfl, Nat.le_of_ble_eq_true rfl⟩) rfl rfl (by decide) rfl hl.1 rfl (Nat.le_of_ble_eq_true rfl) dX14_reserved_22 (Nat.le_of_ble_eq_true rfl) (Nat.add_le_add_right (Nat.le_of_ble_eq_true rfl) _) (inv_A h) (fun H locs v σ22 N hBn hX22 hP => ?_)
      clear hB; have hB := hBn; clear hBn
      obtain ⟨b22, rfl, rfl, hb22⟩ := hP
      refine lv_if_ne (tgt := 32) hx hb dX14_reserved_25 (by decide) (fun c25 => ?_) (fun c25 => ?_)
      · refine lv_iconst (v := 0) hx hb dX14_reserved_32 (by decide) ?_
        refine pf_X14_61 F hB dX14_reserved_33 (inv_A h) (fun H locs hBn => ?_)
        clear hB; have hB := hBn; clear hBn
        have hI33 := inv_PIc (t := 20) hB h (inv_A h) (by unfold iCn; omega)
        refine lv_aload_n hx hb dX14_reserved_36 rfl (lv_at hl 0 rfl) ?_
        refine gf_X14_61 F hB dX14_reserved_37 (inv_A hI33) ?_
        rw [sgI_PI, if_pos ⟨rfl, rfl⟩]
        refine lv_if_le (tgt := 47) hx hb dX14_reserved_40 (by decide) (fun c40 => ?_) (fun c40 => (by first | exact absurd c40 (by decide) | exact (c40 (by decide)).elim))
        refine lv_aload_n hx hb dX14_reserved_47 rfl (lv_at hl 0 rfl) ?_
        refine lv_iload_n hx hb dX14_reserved_48 rfl (lv_at hl 1 rfl) ?_
        refine lv_iload_n hx hb dX14_reserved_49 rfl (lv_at hl 2 rfl) ?_
        refine sg_callV (ci := 19) F hB (m_resIn l D cy hI33 hY x y _) (cwV 2 F.1.2.2.2.2 (mgV (mm_8 _ (List.mem_of_getElem? (i := 23) rfl)) (mm_8 _ (List.mem_of_getElem? (i := 24) rfl)) (mm_8 _ (List.mem_of_getElem? (i := 25) rfl)) (mm_3 _ (List.mem_of_getElem? (i := 23) rfl)) (mm_8 _ (List.mem_of_getElem? (i := 21) rfl))) rfl rfl rfl ⟨rfl, by decide, by decide, by decide +kernel⟩ ⟨Nat.le_of_ble_eq_true rfl, Nat.le_of_ble_eq_true rfl⟩) rfl rfl (by decide) rfl hl.1 rfl (Nat.le_of_ble_eq_true rfl) dX14_reserved_50 (Nat.le_of_ble_eq_true rfl) (Nat.add_le_add_right (Nat.le_of_ble_eq_true rfl) _) (inv_A hI33) (fun H locs v σ50 N hBn hX50 hP => ?_)
        clear hB; have hB := hBn; clear hBn
        obtain ⟨⟨w50, rfl⟩, rfl⟩ := hP
        exact sg_iret F hB hrt dX14_reserved_53 (by decide) (by decide) (⟨⟨_, rfl⟩, hI33⟩)
      · refine lv_iconst (v := 2) hx hb dX14_reserved_28 (by decide) ?_
        refine lv_goto (tgt := 33) hx hb dX14_reserved_29 (by decide) ?_
        refine pf_X14_61 F hB dX14_reserved_33 (inv_A h) (fun H locs hBn => ?_)
        clear hB; have hB := hBn; clear hBn
        have hI33 := inv_PIc (t := 20) hB h (inv_A h) (by unfold iCn; omega)
        refine lv_aload_n hx hb dX14_reserved_36 rfl (lv_at hl 0 rfl) ?_
        refine gf_X14_61 F hB dX14_reserved_37 (inv_A hI33) ?_
        rw [sgI_PI, if_pos ⟨rfl, rfl⟩]
        refine lv_if_le (tgt := 47) hx hb dX14_reserved_40 (by decide) (fun c40 => (by first | exact absurd c40 (by decide) | exact (c40 (by decide)).elim)) (fun c40 => ?_)
        refine lv_iconst (v := 0) hx hb dX14_reserved_43 (by decide) ?_
        refine lv_goto (tgt := 53) hx hb dX14_reserved_44 (by decide) ?_
        exact sg_iret F hB hrt dX14_reserved_53 (by decide) (by decide) (⟨⟨_, rfl⟩, hI33⟩)
  · refine lv_iconst (v := 1) hx hb dX14_reserved_11 (by decide) ?_
    refine lv_goto (tgt := 33) hx hb dX14_reserved_12 (by decide) ?_
    refine pf_X14_61 F hB dX14_reserved_33 (inv_A h) (fun H locs hBn => ?_)
    clear hB; have hB := hBn; clear hBn
    have hI33 := inv_PIc (t := 20) hB h (inv_A h) (by unfold iCn; omega)
    refine lv_aload_n hx hb dX14_reserved_36 rfl (lv_at hl 0 rfl) ?_
    refine gf_X14_61 F hB dX14_reserved_37 (inv_A hI33) ?_
    rw [sgI_PI, if_pos ⟨rfl, rfl⟩]
    refine lv_if_le (tgt := 47) hx hb dX14_reserved_40 (by decide) (fun c40 => (by first | exact absurd c40 (by decide) | exact (c40 (by decide)).elim)) (fun c40 => ?_)
    refine lv_iconst (v := 0) hx hb dX14_reserved_43 (by decide) ?_
    refine lv_goto (tgt := 53) hx hb dX14_reserved_44 (by decide) ?_
    exact sg_iret F hB hrt dX14_reserved_53 (by decide) (by decide) (⟨⟨_, rfl⟩, hI33⟩)
end MM26
