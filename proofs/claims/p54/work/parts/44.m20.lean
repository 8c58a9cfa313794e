section MM20
theorem iHb_nk {g : GH} {σ : SG} {a k j : Nat} {x : Int32} (h : 7 ≠ k) : iHb g (sgPI σ a k x) j = iHb g σ j := by unfold iHb; rw [sgI_nk h]
theorem m_l1 {x : Int32} {a : Int} (h : ¬ x.toInt = a) (h1 : a ≤ x.toInt) : a < x.toInt := by omega
/-- the host's hub is below no other -/
theorem iBw_host {eda n S hw : Nat} {ia : Nat → Nat} {K : KM} {g : GH} {σ : SG} (h : Inv eda ia K g n S hw σ) {x : Int} (hx : 1 ≤ x) : ¬ iBw g σ 0 x := by
  intro q
  have q2 := (iBw_st (by decide) (by omega)).mp q
  rw [show iHb g σ (0 : Int).toNat = -1 from (inv_R h).2.2.2.1] at q2
  exact iBw_none (by omega) q2
theorem iSt_host {eda n S hw : Nat} {ia : Nat → Nat} {K : KM} {g : GH} {σ : SG} (h : Inv eda ia K g n S hw σ) : iSt g σ 0 = 99 := (inv_R h).2.2.2.2.1
theorem dX14_sleep_0 : decode cX14_sleep 0 = .ok (.aload_n 0, 1) := by decide +kernel
theorem dX14_sleep_1 : decode cX14_sleep 1 = .ok (.aload_n 0, 1) := by decide +kernel
theorem dX14_sleep_2 : decode cX14_sleep 2 = .ok (.iload_n 1, 1) := by decide +kernel
theorem dX14_sleep_3 : decode cX14_sleep 3 = .ok (.invokevirtual 149, 3) := by decide +kernel
theorem dX14_sleep_6 : decode cX14_sleep 6 = .ok (.ifCond .ne 7, 3) := by decide +kernel
theorem dX14_sleep_9 : decode cX14_sleep 9 = .ok (.iconst 1, 1) := by decide +kernel
theorem dX14_sleep_10 : decode cX14_sleep 10 = .ok (.goto 27, 3) := by decide +kernel
theorem dX14_sleep_13 : decode cX14_sleep 13 = .ok (.aload_n 0, 1) := by decide +kernel
theorem dX14_sleep_14 : decode cX14_sleep 14 = .ok (.getfield 10, 3) := by decide +kernel
theorem dX14_sleep_17 : decode cX14_sleep 17 = .ok (.iload_n 1, 1) := by decide +kernel
theorem dX14_sleep_18 : decode cX14_sleep 18 = .ok (.invokevirtual 76, 3) := by decide +kernel
theorem dX14_sleep_21 : decode cX14_sleep 21 = .ok (.checkcast 48, 3) := by decide +kernel
theorem dX14_sleep_24 : decode cX14_sleep 24 = .ok (.getfield 53, 3) := by decide +kernel
theorem dX14_sleep_27 : decode cX14_sleep 27 = .ok (.bipush 99, 2) := by decide +kernel
theorem dX14_sleep_29 : decode cX14_sleep 29 = .ok (.if_icmp .eq 7, 3) := by decide +kernel
theorem dX14_sleep_32 : decode cX14_sleep 32 = .ok (.iconst 2, 1) := by decide +kernel
theorem dX14_sleep_33 : decode cX14_sleep 33 = .ok (.goto 4, 3) := by decide +kernel
theorem dX14_sleep_36 : decode cX14_sleep 36 = .ok (.iconst 0, 1) := by decide +kernel
theorem dX14_sleep_37 : decode cX14_sleep 37 = .ok (.putfield 61, 3) := by decide +kernel
theorem dX14_sleep_40 : decode cX14_sleep 40 = .ok (.aload_n 0, 1) := by decide +kernel
theorem dX14_sleep_41 : decode cX14_sleep 41 = .ok (.getfield 18, 3) := by decide +kernel
theorem dX14_sleep_44 : decode cX14_sleep 44 = .ok (.astore_n 2, 1) := by decide +kernel
theorem dX14_sleep_45 : decode cX14_sleep 45 = .ok (.aload_n 2, 1) := by decide +kernel
theorem dX14_sleep_46 : decode cX14_sleep 46 = .ok (.arraylength, 1) := by decide +kernel
theorem dX14_sleep_47 : decode cX14_sleep 47 = .ok (.istore_n 3, 1) := by decide +kernel
theorem dX14_sleep_48 : decode cX14_sleep 48 = .ok (.iconst 0, 1) := by decide +kernel
theorem dX14_sleep_49 : decode cX14_sleep 49 = .ok (.istore 4, 2) := by decide +kernel
theorem dX14_sleep_51 : decode cX14_sleep 51 = .ok (.iload 4, 2) := by decide +kernel
theorem dX14_sleep_53 : decode cX14_sleep 53 = .ok (.iload_n 3, 1) := by decide +kernel
theorem dX14_sleep_54 : decode cX14_sleep 54 = .ok (.if_icmp .ge 75, 3) := by decide +kernel
theorem dX14_sleep_57 : decode cX14_sleep 57 = .ok (.aload_n 2, 1) := by decide +kernel
theorem dX14_sleep_58 : decode cX14_sleep 58 = .ok (.iload 4, 2) := by decide +kernel
theorem dX14_sleep_60 : decode cX14_sleep 60 = .ok (.aaload, 1) := by decide +kernel
theorem dX14_sleep_61 : decode cX14_sleep 61 = .ok (.astore 5, 2) := by decide +kernel
theorem dX14_sleep_63 : decode cX14_sleep 63 = .ok (.aload_n 0, 1) := by decide +kernel
theorem dX14_sleep_64 : decode cX14_sleep 64 = .ok (.getfield 61, 3) := by decide +kernel
theorem dX14_sleep_67 : decode cX14_sleep 67 = .ok (.ifCond .ne 36, 3) := by decide +kernel
theorem dX14_sleep_70 : decode cX14_sleep 70 = .ok (.aload 5, 2) := by decide +kernel
theorem dX14_sleep_72 : decode cX14_sleep 72 = .ok (.ifnull 31, 3) := by decide +kernel
theorem dX14_sleep_75 : decode cX14_sleep 75 = .ok (.aload 5, 2) := by decide +kernel
theorem dX14_sleep_77 : decode cX14_sleep 77 = .ok (.getfield 199, 3) := by decide +kernel
theorem dX14_sleep_80 : decode cX14_sleep 80 = .ok (.invokevirtual 202, 3) := by decide +kernel
theorem dX14_sleep_83 : decode cX14_sleep 83 = .ok (.ifCond .ne 20, 3) := by decide +kernel
theorem dX14_sleep_86 : decode cX14_sleep 86 = .ok (.aload_n 0, 1) := by decide +kernel
theorem dX14_sleep_87 : decode cX14_sleep 87 = .ok (.aload 5, 2) := by decide +kernel
theorem dX14_sleep_89 : decode cX14_sleep 89 = .ok (.getfield 133, 3) := by decide +kernel
theorem dX14_sleep_92 : decode cX14_sleep 92 = .ok (.iload_n 1, 1) := by decide +kernel
theorem dX14_sleep_93 : decode cX14_sleep 93 = .ok (.invokevirtual 129, 3) := by decide +kernel
theorem dX14_sleep_96 : decode cX14_sleep 96 = .ok (.ifCond .eq 7, 3) := by decide +kernel
theorem dX14_sleep_99 : decode cX14_sleep 99 = .ok (.iconst 1, 1) := by decide +kernel
theorem dX14_sleep_100 : decode cX14_sleep 100 = .ok (.goto 4, 3) := by decide +kernel
theorem dX14_sleep_103 : decode cX14_sleep 103 = .ok (.iconst 0, 1) := by decide +kernel
theorem dX14_sleep_104 : decode cX14_sleep 104 = .ok (.istore 6, 2) := by decide +kernel
theorem dX14_sleep_106 : decode cX14_sleep 106 = .ok (.aload_n 0, 1) := by decide +kernel
theorem dX14_sleep_107 : decode cX14_sleep 107 = .ok (.iload 6, 2) := by decide +kernel
theorem dX14_sleep_109 : decode cX14_sleep 109 = .ok (.ifCond .eq 7, 3) := by decide +kernel
theorem dX14_sleep_112 : decode cX14_sleep 112 = .ok (.iconst 2, 1) := by decide +kernel
theorem dX14_sleep_113 : decode cX14_sleep 113 = .ok (.goto 7, 3) := by decide +kernel
theorem dX14_sleep_116 : decode cX14_sleep 116 = .ok (.aload_n 0, 1) := by decide +kernel
theorem dX14_sleep_117 : decode cX14_sleep 117 = .ok (.getfield 61, 3) := by decide +kernel
theorem dX14_sleep_120 : decode cX14_sleep 120 = .ok (.putfield 61, 3) := by decide +kernel
theorem dX14_sleep_123 : decode cX14_sleep 123 = .ok (.iinc 4 1, 3) := by decide +kernel
theorem dX14_sleep_126 : decode cX14_sleep 126 = .ok (.goto (-75), 3) := by decide +kernel
theorem dX14_sleep_129 : decode cX14_sleep 129 = .ok (.iconst 0, 1) := by decide +kernel
theorem dX14_sleep_130 : decode cX14_sleep 130 = .ok (.istore_n 2, 1) := by decide +kernel
theorem dX14_sleep_131 : decode cX14_sleep 131 = .ok (.iconst 0, 1) := by decide +kernel
theorem dX14_sleep_132 : decode cX14_sleep 132 = .ok (.istore_n 3, 1) := by decide +kernel
theorem dX14_sleep_133 : decode cX14_sleep 133 = .ok (.iload_n 3, 1) := by decide +kernel
theorem dX14_sleep_134 : decode cX14_sleep 134 = .ok (.aload_n 0, 1) := by decide +kernel
theorem dX14_sleep_135 : decode cX14_sleep 135 = .ok (.getfield 10, 3) := by decide +kernel
theorem dX14_sleep_138 : decode cX14_sleep 138 = .ok (.invokevirtual 64, 3) := by decide +kernel
theorem dX14_sleep_141 : decode cX14_sleep 141 = .ok (.if_icmp .ge 63, 3) := by decide +kernel
theorem dX14_sleep_144 : decode cX14_sleep 144 = .ok (.aload_n 0, 1) := by decide +kernel
theorem dX14_sleep_145 : decode cX14_sleep 145 = .ok (.getfield 61, 3) := by decide +kernel
theorem dX14_sleep_148 : decode cX14_sleep 148 = .ok (.ifCond .ne 56, 3) := by decide +kernel
theorem dX14_sleep_151 : decode cX14_sleep 151 = .ok (.aload_n 0, 1) := by decide +kernel
theorem dX14_sleep_152 : decode cX14_sleep 152 = .ok (.getfield 10, 3) := by decide +kernel
theorem dX14_sleep_155 : decode cX14_sleep 155 = .ok (.iload_n 3, 1) := by decide +kernel
theorem dX14_sleep_156 : decode cX14_sleep 156 = .ok (.invokevirtual 76, 3) := by decide +kernel
theorem dX14_sleep_159 : decode cX14_sleep 159 = .ok (.checkcast 48, 3) := by decide +kernel
theorem dX14_sleep_162 : decode cX14_sleep 162 = .ok (.getfield 53, 3) := by decide +kernel
theorem dX14_sleep_165 : decode cX14_sleep 165 = .ok (.bipush 99, 2) := by decide +kernel
theorem dX14_sleep_167 : decode cX14_sleep 167 = .ok (.if_icmp .ne 31, 3) := by decide +kernel
theorem dX14_sleep_170 : decode cX14_sleep 170 = .ok (.aload_n 0, 1) := by decide +kernel
theorem dX14_sleep_171 : decode cX14_sleep 171 = .ok (.iload_n 3, 1) := by decide +kernel
theorem dX14_sleep_172 : decode cX14_sleep 172 = .ok (.iload_n 1, 1) := by decide +kernel
theorem dX14_sleep_173 : decode cX14_sleep 173 = .ok (.invokevirtual 129, 3) := by decide +kernel
theorem dX14_sleep_176 : decode cX14_sleep 176 = .ok (.ifCond .eq 22, 3) := by decide +kernel
theorem dX14_sleep_179 : decode cX14_sleep 179 = .ok (.aload_n 0, 1) := by decide +kernel
theorem dX14_sleep_180 : decode cX14_sleep 180 = .ok (.getfield 10, 3) := by decide +kernel
theorem dX14_sleep_183 : decode cX14_sleep 183 = .ok (.iload_n 3, 1) := by decide +kernel
theorem dX14_sleep_184 : decode cX14_sleep 184 = .ok (.invokevirtual 76, 3) := by decide +kernel
theorem dX14_sleep_187 : decode cX14_sleep 187 = .ok (.checkcast 48, 3) := by decide +kernel
theorem dX14_sleep_190 : decode cX14_sleep 190 = .ok (.bipush 122, 2) := by decide +kernel
theorem dX14_sleep_192 : decode cX14_sleep 192 = .ok (.putfield 53, 3) := by decide +kernel
theorem dX14_sleep_195 : decode cX14_sleep 195 = .ok (.iinc 2 1, 3) := by decide +kernel
theorem dX14_sleep_198 : decode cX14_sleep 198 = .ok (.iinc 3 1, 3) := by decide +kernel
theorem dX14_sleep_201 : decode cX14_sleep 201 = .ok (.goto (-68), 3) := by decide +kernel
theorem dX14_sleep_204 : decode cX14_sleep 204 = .ok (.iload_n 2, 1) := by decide +kernel
theorem dX14_sleep_205 : decode cX14_sleep 205 = .ok (.ireturn, 1) := by decide +kernel
set_option maxRecDepth 100000 in
set_option maxHeartbeats 4000000 in
theorem m_sleep (l : Launch) (D : va_G) (cy : Nat → ClassId) {eda ca : Nat} {ia : Nat → Nat} {σ : SG} {K : KM} {g : GH} {n S hw : Nat} (h : Inv eda ia K g n S hw σ) (x : Int32) (sz : Nat) : sgM l D cy eda ca ia σ sz yX14_sleep (Cond.code yX14_sleep cX14_sleep 7 (some .int) :: mWall) 4 87 0 0 [.ref (kA K), .int x] (fun v σ2 => (∃ y : Int32, v = some (.int y)) ∧ Inv eda ia K g n S hw σ2) := by
  refine sg_ofW (cc := cX14_sleep) (maxL := 7) (ret := (some .int)) (by decide) rfl (Nat.le_of_ble_eq_true rfl) (lv := [(0, .ref (kA K)), (1, .int x)]) rfl (fun p e s m below meth c ls H N hrt hnm F hB hl => ?_) sz
  have hx := F.1.1
  have hb := F.1.2.1
  have hown := F.1.2.2.2.1
  obtain ⟨z1, z2, z3⟩ := inv_sz h
  have m12 : (nI (sgN σ (kP K))).toInt = 12 := by rw [(inv_tP h).2]; rfl
  generalize hlo : ([] : List Loc) = locs at hB ⊢
  clear hlo
  refine lv_aload_n hx hb dX14_sleep_0 rfl (lv_at hl 0 rfl) ?_
  refine lv_aload_n hx hb dX14_sleep_1 rfl (lv_at hl 0 rfl) ?_
  refine lv_iload_n hx hb dX14_sleep_2 rfl (lv_at hl 1 rfl) ?_
  refine sg_callV (ci := 19) F hB (m_isOther l D cy h x _) (cwV 1 F.1.2.2.2.2 (mgV (mm_6 _ (List.mem_of_getElem? (i := 6) rfl)) (mm_6 _ (List.mem_of_getElem? (i := 7) rfl)) (mm_6 _ (List.mem_of_getElem? (i := 8) rfl)) (mm_3 _ (List.mem_of_getElem? (i := 23) rfl)) (mm_6 _ (List.mem_of_getElem? (i := 5) rfl))) rfl rfl rfl ⟨rfl, by decide, by decide, by decide +kernel⟩ ⟨Nat.le_of_ble_eq_true rfl, Nat.le_of_ble_eq_true rfl⟩) rfl rfl (by decide) rfl hl.1 rfl (Nat.le_of_ble_eq_true rfl) dX14_sleep_3 (Nat.le_of_ble_eq_true rfl) (Nat.add_le_add_right (Nat.le_of_ble_eq_true rfl) _) (inv_A h) (fun H locs v σ3 N hBn hX3 hP => ?_)
  clear hB; have hB := hBn; clear hBn
  obtain ⟨b3, rfl, rfl, hb3⟩ := hP
  refine lv_if_ne (tgt := 13) hx hb dX14_sleep_6 (by decide) (fun c6 => ?_) (fun c6 => ?_)
  · have hx5 : 1 ≤ x.toInt ∧ x.toInt < n := sgb_t hb3 c6
    refine lv_aload_n hx hb dX14_sleep_13 rfl (lv_at hl 0 rfl) ?_
    refine gr_X14_10 F hB dX14_sleep_14 (inv_A h) (inv_r1 h) ?_
    refine lv_iload_n hx hb dX14_sleep_17 rfl (lv_at hl 1 rfl) ?_
    refine sg_callV (ci := 4) F hB (m_getD l D cy h x (by omega) (by omega) _) (cwV 1 F.1.2.2.2.2 (mgV (mm_4 _ (List.mem_of_getElem? (i := 3) rfl)) (mm_4 _ (List.mem_of_getElem? (i := 4) rfl)) (mm_4 _ (List.mem_of_getElem? (i := 5) rfl)) (mm_0 _ (List.mem_of_getElem? (i := 35) rfl)) (mm_3 _ (List.mem_of_getElem? (i := 34) rfl))) rfl rfl rfl ⟨rfl, by decide, by decide, by decide +kernel⟩ ⟨Nat.le_of_ble_eq_true rfl, Nat.le_of_ble_eq_true rfl⟩) rfl rfl (by decide) rfl hl.1 rfl (Nat.le_of_ble_eq_true rfl) dX14_sleep_18 (Nat.le_of_ble_eq_true rfl) (Nat.add_le_add_right (Nat.le_of_ble_eq_true rfl) _) (inv_tD h).1 (fun H locs v σ18 N hBn hX18 hP => ?_)
    clear hB; have hB := hBn; clear hBn
    obtain ⟨rfl, rfl⟩ := hP
    have dv18 := (inv_dv h (k := (x : Int32).toInt.toNat) (by omega)).2.1
    refine va_castY hx hb hown (F.1.2.2.2.2 _ (List.mem_cons_of_mem _ (mm_4 _ (List.mem_of_getElem? (i := 2) rfl)))) (F.2.2.1.2.2 ("HubcascadeModel$Device", "HubcascadeModel$Device") (by decide +kernel)) (sg_recv (ci := 15) F.2.1 hB (by assumption) (by decide) rfl) dX14_sleep_21 ?_
    refine gf_X14_53 F hB dX14_sleep_24 (by assumption) ?_
    refine lv_bipush (v := 99) hx hb dX14_sleep_27 (by decide) ?_
    refine lv_icmp_eq (tgt := 36) hx hb dX14_sleep_29 (by decide) (fun c29 => ?_) (fun c29 => ?_)
    · refine lv_iconst (v := 0) hx hb dX14_sleep_36 (by decide) ?_
      refine pf_X14_61 F hB dX14_sleep_37 (inv_A h) (fun H locs hBn => ?_)
      clear hB; have hB := hBn; clear hBn
      have hI37 := inv_PIc (t := 20) hB h (inv_A h) (by unfold iCn; omega)
      refine lv_aload_n hx hb dX14_sleep_40 rfl (lv_at hl 0 rfl) ?_
      refine gr_X14_18 F hB dX14_sleep_41 (inv_A hI37) (inv_r2 hI37) ?_
      refine lv_astore_n (lv' := [(2, .ref _), (0, .ref _), (1, .int _)]) hx hb dX14_sleep_44 rfl hl (by decide) rfl (fun ls hl => ?_)
      refine lv_aload_n hx hb dX14_sleep_45 rfl (lv_at hl 0 rfl) ?_
      refine sg_alen 9 hx hb F.2.1 hB.1 rfl dX14_sleep_46 (inv_tP hI37).1 ?_
      refine lv_istore_n (lv' := [(3, .int _), (2, .ref _), (0, .ref _), (1, .int _)]) hx hb dX14_sleep_47 rfl hl (by decide) rfl (fun ls hl => ?_)
      refine lv_iconst (v := 0) hx hb dX14_sleep_48 (by decide) ?_
      refine lv_istore (lv' := [(4, .int _), (3, .int _), (2, .ref _), (0, .ref _), (1, .int _)]) hx hb dX14_sleep_49 hl (by decide) rfl (fun ls hl => ?_)
      have key51 : ∃ (σ3 : SG) (i9 : Int32), sgB D cy s σ σ3 H locs N 0 ∧ lv_has ls 7 [(4, .int i9), (3, .int (nI (sgN σ (kP K)))), (2, .ref (kP K)), (1, .int x), (0, .ref (kA K))] ∧ Inv eda ia K g n S hw σ3 ∧ (0 ≤ i9.toInt ∧ i9.toInt ≤ 12) ∧ (sgI σ3 (kA K) 0 = 0 → 1 ≤ x.toInt ∧ x.toInt < n) := ⟨_, _, hB, (lv_sub hl [0, 1, 2, 4, 3] rfl), hI37, ⟨by decide, by decide⟩, by first | exact fun _ => hx5 | exact fun z => absurd (((by rw [sgI_PI, if_pos ⟨rfl, rfl⟩]) : sgI (sgPI σ (kA K) 0 _) (kA K) 0 = _).symm.trans z) (by decide)⟩
      clear hB hl
      obtain ⟨σ3, i9, hB, hl, hI3, hi, hth⟩ := key51
      obtain ⟨d51, hd51⟩ : ∃ d : Nat, d = 12 - i9.toInt.toNat := ⟨_, rfl⟩
      induction d51 using Nat.strongRecOn generalizing H locs ls N σ3 i9
      rename_i d51 ih51
      have hi1 := hi.1
      have hi2 := hi.2
      have hP3 := inv_tP hI3
      refine lv_iload hx hb dX14_sleep_51 (lv_at hl 0 rfl) ?_
      refine lv_iload_n hx hb dX14_sleep_53 rfl (lv_at hl 1 rfl) ?_
      refine lv_icmp_ge (tgt := 129) hx hb dX14_sleep_54 (by decide) (fun c54 => ?_) (fun c54 => ?_)
      · refine lv_iconst (v := 0) hx hb dX14_sleep_129 (by decide) ?_
        refine lv_istore_n (lv' := [(2, .int _), (4, .int _), (3, .int _), (1, .int _), (0, .ref _)]) hx hb dX14_sleep_130 rfl hl (by decide) rfl (fun ls hl => ?_)
        refine lv_iconst (v := 0) hx hb dX14_sleep_131 (by decide) ?_
        refine lv_istore_n (lv' := [(3, .int _), (2, .int _), (4, .int _), (1, .int _), (0, .ref _)]) hx hb dX14_sleep_132 rfl hl (by decide) rfl (fun ls hl => ?_)
        have key133 : ∃ (σ3 : SG) (k9 m9 : Int32), sgB D cy s σ σ3 H locs N 0 ∧ lv_has ls 7 [(3, .int k9), (2, .int m9), (1, .int x), (0, .ref (kA K))] ∧ Inv eda ia K g n S hw σ3 ∧ (0 ≤ k9.toInt ∧ k9.toInt ≤ n) ∧ (sgI σ3 (kA K) 0 = 0 → 1 ≤ x.toInt ∧ x.toInt < n) := ⟨σ3, _, _, hB, (lv_sub hl [0, 1, 3, 4] rfl), hI3, ⟨by decide, by rw [m_i0]; omega⟩, hth⟩
        clear hB hl
        obtain ⟨σ3, k9, m9, hB, hl, hI3, hi, hth⟩ := key133
        obtain ⟨d133, hd133⟩ : ∃ d : Nat, d = n - k9.toInt.toNat := ⟨_, rfl⟩
        induction d133 using Nat.strongRecOn generalizing H locs ls N σ3 k9 m9
        rename_i d133 ih133
        have hi1 := hi.1
        have hi2 := hi.2
        obtain ⟨y1, -⟩ := inv_sz hI3
        refine lv_iload_n hx hb dX14_sleep_133 rfl (lv_at hl 0 rfl) ?_
        refine lv_aload_n hx hb dX14_sleep_134 rfl (lv_at hl 3 rfl) ?_
        refine gr_X14_10 F hB dX14_sleep_135 (inv_A hI3) (inv_r1 hI3) ?_
        refine sg_callV (ci := 4) F hB (m_size l D cy (by exact (inv_tD hI3).1) _) (cwV 0 F.1.2.2.2.2 (mgV (mm_3 _ (List.mem_of_getElem? (i := 18) rfl)) (mm_3 _ (List.mem_of_getElem? (i := 19) rfl)) (mm_3 _ (List.mem_of_getElem? (i := 20) rfl)) (mm_0 _ (List.mem_of_getElem? (i := 35) rfl)) (mm_3 _ (List.mem_of_getElem? (i := 16) rfl))) rfl rfl rfl ⟨rfl, by decide, by decide, by decide +kernel⟩ ⟨Nat.le_of_ble_eq_true rfl, Nat.le_of_ble_eq_true rfl⟩) rfl rfl (by decide) rfl hl.1 rfl (Nat.le_of_ble_eq_true rfl) dX14_sleep_138 (Nat.le_of_ble_eq_true rfl) (Nat.add_le_add_right (Nat.le_of_ble_eq_true rfl) _) (inv_tD hI3).1 (fun H locs v σ138 N hBn hX138 hP => ?_)
        clear hB; have hB := hBn; clear hBn
        obtain ⟨rfl, rfl⟩ := hP
        refine lv_icmp_ge (tgt := 204) hx hb dX14_sleep_141 (by decide) (fun c141 => ?_) (fun c141 => ?_)
        · refine lv_iload_n hx hb dX14_sleep_204 rfl (lv_at hl 1 rfl) ?_
          exact sg_iret F hB hrt dX14_sleep_205 (by decide) (by decide) (⟨⟨_, rfl⟩, hI3⟩)
        · refine lv_aload_n hx hb dX14_sleep_144 rfl (lv_at hl 3 rfl) ?_
          refine gf_X14_61 F hB dX14_sleep_145 (inv_A hI3) ?_
          refine lv_if_ne (tgt := 204) hx hb dX14_sleep_148 (by decide) (fun c148 => ?_) (fun c148 => ?_)
          · refine lv_iload_n hx hb dX14_sleep_204 rfl (lv_at hl 1 rfl) ?_
            exact sg_iret F hB hrt dX14_sleep_205 (by decide) (by decide) (⟨⟨_, rfl⟩, hI3⟩)
          · have hi3 := i_nle c141
            refine lv_aload_n hx hb dX14_sleep_151 rfl (lv_at hl 3 rfl) ?_
            refine gr_X14_10 F hB dX14_sleep_152 (inv_A hI3) (inv_r1 hI3) ?_
            refine lv_iload_n hx hb dX14_sleep_155 rfl (lv_at hl 0 rfl) ?_
            refine sg_callV (ci := 4) F hB (m_getD l D cy hI3 k9 (by omega) (by omega) _) (cwV 1 F.1.2.2.2.2 (mgV (mm_4 _ (List.mem_of_getElem? (i := 3) rfl)) (mm_4 _ (List.mem_of_getElem? (i := 4) rfl)) (mm_4 _ (List.mem_of_getElem? (i := 5) rfl)) (mm_0 _ (List.mem_of_getElem? (i := 35) rfl)) (mm_3 _ (List.mem_of_getElem? (i := 34) rfl))) rfl rfl rfl ⟨rfl, by decide, by decide, by decide +kernel⟩ ⟨Nat.le_of_ble_eq_true rfl, Nat.le_of_ble_eq_true rfl⟩) rfl rfl (by decide) rfl hl.1 rfl (Nat.le_of_ble_eq_true rfl) dX14_sleep_156 (Nat.le_of_ble_eq_true rfl) (Nat.add_le_add_right (Nat.le_of_ble_eq_true rfl) _) (inv_tD hI3).1 (fun H locs v σ156 N hBn hX156 hP => ?_)
            clear hB; have hB := hBn; clear hBn
            obtain ⟨rfl, rfl⟩ := hP
            have dv156 := (inv_dv hI3 (k := (k9 : Int32).toInt.toNat) (by omega)).2.1
            refine va_castY hx hb hown (F.1.2.2.2.2 _ (List.mem_cons_of_mem _ (mm_4 _ (List.mem_of_getElem? (i := 2) rfl)))) (F.2.2.1.2.2 ("HubcascadeModel$Device", "HubcascadeModel$Device") (by decide +kernel)) (sg_recv (ci := 15) F.2.1 hB (by assumption) (by decide) rfl) dX14_sleep_159 ?_
            refine gf_X14_53 F hB dX14_sleep_162 (by assumption) ?_
            refine lv_bipush (v := 99) hx hb dX14_sleep_165 (by decide) ?_
            refine lv_icmp_ne (tgt := 198) hx hb dX14_sleep_167 (by decide) (fun c167 => ?_) (fun c167 => ?_)
            · refine lv_iinc (lv' := [(3, .int _), (2, .int _), (1, .int _), (0, .ref _)]) hx hb dX14_sleep_198 hl (k := 0) rfl rfl (by decide) rfl (fun ls hl => ?_)
              refine lv_goto (tgt := 133) hx hb dX14_sleep_201 (by decide) ?_
              have hi3 := i_nle c141
              have e9 : (k9 + Int32.ofInt 1).toInt = k9.toInt + 1 := m_add1 (by omega) (by omega)
              exact ih133 _ (by subst hd133; rw [e9]; omega) _ _ _ _ _ _ _ hB (lv_sub hl [0, 1, 2, 3] rfl) hI3 ⟨by rw [e9]; omega, by rw [e9]; omega⟩ (by first | exact hth | (rw [sgI_nk (by decide)]; exact hth)) rfl
            · have hx6 := hth c148
              refine lv_aload_n hx hb dX14_sleep_170 rfl (lv_at hl 3 rfl) ?_
              refine lv_iload_n hx hb dX14_sleep_171 rfl (lv_at hl 0 rfl) ?_
              refine lv_iload_n hx hb dX14_sleep_172 rfl (lv_at hl 2 rfl) ?_
              refine sg_callV (ci := 19) F hB (m_isBelow l D cy hI3 k9 (by omega) (by omega) x (by omega) _) (cwV 2 F.1.2.2.2.2 (mgV (mm_5 _ (List.mem_of_getElem? (i := 38) rfl)) (mm_5 _ (List.mem_of_getElem? (i := 39) rfl)) (mm_6 _ (List.mem_of_getElem? (i := 0) rfl)) (mm_3 _ (List.mem_of_getElem? (i := 23) rfl)) (mm_4 _ (List.mem_of_getElem? (i := 7) rfl))) rfl rfl rfl ⟨rfl, by decide, by decide, by decide +kernel⟩ ⟨Nat.le_of_ble_eq_true rfl, Nat.le_of_ble_eq_true rfl⟩) rfl rfl (by decide) rfl hl.1 rfl (Nat.le_of_ble_eq_true rfl) dX14_sleep_173 (Nat.le_of_ble_eq_true rfl) (Nat.add_le_add_right (Nat.le_of_ble_eq_true rfl) _) (inv_A hI3) (fun H locs v σ173 N hBn hX173 hP => ?_)
              clear hB; have hB := hBn; clear hBn
              obtain ⟨b173, rfl, rfl, hb173⟩ := hP
              refine lv_if_eq (tgt := 198) hx hb dX14_sleep_176 (by decide) (fun c176 => ?_) (fun c176 => ?_)
              · refine lv_iinc (lv' := [(3, .int _), (2, .int _), (1, .int _), (0, .ref _)]) hx hb dX14_sleep_198 hl (k := 0) rfl rfl (by decide) rfl (fun ls hl => ?_)
                refine lv_goto (tgt := 133) hx hb dX14_sleep_201 (by decide) ?_
                have hi3 := i_nle c141
                have e9 : (k9 + Int32.ofInt 1).toInt = k9.toInt + 1 := m_add1 (by omega) (by omega)
                exact ih133 _ (by subst hd133; rw [e9]; omega) _ _ _ _ _ _ _ hB (lv_sub hl [0, 1, 2, 3] rfl) hI3 ⟨by rw [e9]; omega, by rw [e9]; omega⟩ (by first | exact hth | (rw [sgI_nk (by decide)]; exact hth)) rfl
              · refine lv_aload_n hx hb dX14_sleep_179 rfl (lv_at hl 3 rfl) ?_
                refine gr_X14_10 F hB dX14_sleep_180 (inv_A hI3) (inv_r1 hI3) ?_
                refine lv_iload_n hx hb dX14_sleep_183 rfl (lv_at hl 0 rfl) ?_
                refine sg_callV (ci := 4) F hB (m_getD l D cy hI3 k9 (by omega) (by omega) _) (cwV 1 F.1.2.2.2.2 (mgV (mm_4 _ (List.mem_of_getElem? (i := 3) rfl)) (mm_4 _ (List.mem_of_getElem? (i := 4) rfl)) (mm_4 _ (List.mem_of_getElem? (i := 5) rfl)) (mm_0 _ (List.mem_of_getElem? (i := 35) rfl)) (mm_3 _ (List.mem_of_getElem? (i := 34) rfl))) rfl rfl rfl ⟨rfl, by decide, by decide, by decide +kernel⟩ ⟨Nat.le_of_ble_eq_true rfl, Nat.le_of_ble_eq_true rfl⟩) rfl rfl (by decide) rfl hl.1 rfl (Nat.le_of_ble_eq_true rfl) dX14_sleep_184 (Nat.le_of_ble_eq_true rfl) (Nat.add_le_add_right (Nat.le_of_ble_eq_true rfl) _) (inv_tD hI3).1 (fun H locs v σ184 N hBn hX184 hP => ?_)
                clear hB; have hB := hBn; clear hBn
                obtain ⟨rfl, rfl⟩ := hP
                have dv184 := (inv_dv hI3 (k := (k9 : Int32).toInt.toNat) (by omega)).2.1
                refine va_castY hx hb hown (F.1.2.2.2.2 _ (List.mem_cons_of_mem _ (mm_4 _ (List.mem_of_getElem? (i := 2) rfl)))) (F.2.2.1.2.2 ("HubcascadeModel$Device", "HubcascadeModel$Device") (by decide +kernel)) (sg_recv (ci := 15) F.2.1 hB (by assumption) (by decide) rfl) dX14_sleep_187 ?_
                refine lv_bipush (v := 122) hx hb dX14_sleep_190 (by decide) ?_
                refine pf_X14_53 F hB dX14_sleep_192 dv184 ⟨by decide, by decide⟩ (fun H locs hBn => ?_)
                clear hB; have hB := hBn; clear hBn
                have hk1 : 1 ≤ k9.toInt := by
                  by_cases q : k9.toInt = 0
                  · have qb := sgb_t hb173 c176
                    rw [q] at qb
                    exact absurd qb (iBw_host hI3 hx6.1)
                  · omega
                have hI192 := inv_st (v := 122) hI3 (k := k9.toInt.toNat) (by omega) (by omega) (by decide) (fun z => by have q9 : iSt g σ3 k9.toInt.toNat = 99 := c167; rw [q9] at z; exact absurd z (by decide))
                refine lv_iinc (lv' := [(2, .int _), (3, .int _), (1, .int _), (0, .ref _)]) hx hb dX14_sleep_195 hl (k := 1) rfl rfl (by decide) rfl (fun ls hl => ?_)
                refine lv_iinc (lv' := [(3, .int _), (2, .int _), (1, .int _), (0, .ref _)]) hx hb dX14_sleep_198 hl (k := 1) rfl rfl (by decide) rfl (fun ls hl => ?_)
                refine lv_goto (tgt := 133) hx hb dX14_sleep_201 (by decide) ?_
                have hi3 := i_nle c141
                have e9 : (k9 + Int32.ofInt 1).toInt = k9.toInt + 1 := m_add1 (by omega) (by omega)
                exact ih133 _ (by subst hd133; rw [e9]; omega) _ _ _ _ _ _ _ hB (lv_sub hl [0, 1, 2, 3] rfl) hI192 ⟨by rw [e9]; omega, by rw [e9]; omega⟩ (by first | exact hth | (rw [sgI_nk (by decide)]; exact hth)) rfl
      · have hi3 := i_nle c54
        refine lv_aload_n hx hb dX14_sleep_57 rfl (lv_at hl 2 rfl) ?_
        refine lv_iload hx hb dX14_sleep_58 (lv_at hl 0 rfl) ?_
        refine sg_aald 9 hx hb F.2.1 hB.1 rfl rfl dX14_sleep_60 hP3.1 (by omega) (m_ltN (n := 12) hP3.2 (by omega)) (m_ltM hP3.2 (by decide)) ?_
        refine sg_split (fun hz60 => ?_) (fun b60 hz60 => ?_)
        · skip
          refine lv_astoreN (lv' := [(5, .null), (4, .int _), (3, .int _), (2, .ref _), (1, .int _), (0, .ref _)]) hx hb dX14_sleep_61 hl (by decide) rfl (fun ls hl => ?_)
          refine lv_aload_n hx hb dX14_sleep_63 rfl (lv_at hl 5 rfl) ?_
          refine gf_X14_61 F hB dX14_sleep_64 (inv_A hI3) ?_
          refine lv_if_ne (tgt := 103) hx hb dX14_sleep_67 (by decide) (fun c67 => ?_) (fun c67 => ?_)
          · refine lv_iconst (v := 0) hx hb dX14_sleep_103 (by decide) ?_
            refine lv_istore (lv' := [(6, .int _), (5, .null), (4, .int _), (3, .int _), (2, .ref _), (1, .int _), (0, .ref _)]) hx hb dX14_sleep_104 hl (by decide) rfl (fun ls hl => ?_)
            refine lv_aload_n hx hb dX14_sleep_106 rfl (lv_at hl 6 rfl) ?_
            refine lv_iload hx hb dX14_sleep_107 (lv_at hl 0 rfl) ?_
            refine lv_if_eq (tgt := 116) hx hb dX14_sleep_109 (by decide) (fun c109 => ?_) (fun c109 => (by first | exact absurd c109 (by decide) | exact (c109 (by decide)).elim))
            refine lv_aload_n hx hb dX14_sleep_116 rfl (lv_at hl 6 rfl) ?_
            refine gf_X14_61 F hB dX14_sleep_117 (inv_A hI3) ?_
            refine pf_X14_61 F hB dX14_sleep_120 (inv_A hI3) (fun H locs hBn => ?_)
            clear hB; have hB := hBn; clear hBn
            have hI120 := inv_PIc (t := 20) hB hI3 (inv_A hI3) (by unfold iCn; omega)
            refine lv_iinc (lv' := [(4, .int _), (6, .int _), (5, .null), (3, .int _), (2, .ref _), (1, .int _), (0, .ref _)]) hx hb dX14_sleep_123 hl (k := 2) rfl rfl (by decide) rfl (fun ls hl => ?_)
            refine lv_goto (tgt := 51) hx hb dX14_sleep_126 (by decide) ?_
            have hi3 := i_nle c54
            have e9 : (i9 + Int32.ofInt 1).toInt = i9.toInt + 1 := m_add1 (by omega) (by omega)
            exact ih51 _ (by subst hd51; rw [e9]; omega) _ _ _ _ _ _ hB (lv_sub hl [0, 3, 4, 5, 6] rfl) hI120 ⟨by rw [e9]; omega, by rw [e9]; omega⟩ (fun z => by rw [sgI_PI, if_pos ⟨rfl, rfl⟩] at z; first | exact hth z | exact absurd z (by decide)) rfl
          · refine lv_aloadN hx hb dX14_sleep_70 (lv_at hl 0 rfl) ?_
            refine lv_ifnullN (tgt := 103) hx hb dX14_sleep_72 (by decide) ?_
            refine lv_iconst (v := 0) hx hb dX14_sleep_103 (by decide) ?_
            refine lv_istore (lv' := [(6, .int _), (5, .null), (4, .int _), (3, .int _), (2, .ref _), (1, .int _), (0, .ref _)]) hx hb dX14_sleep_104 hl (by decide) rfl (fun ls hl => ?_)
            refine lv_aload_n hx hb dX14_sleep_106 rfl (lv_at hl 6 rfl) ?_
            refine lv_iload hx hb dX14_sleep_107 (lv_at hl 0 rfl) ?_
            refine lv_if_eq (tgt := 116) hx hb dX14_sleep_109 (by decide) (fun c109 => ?_) (fun c109 => (by first | exact absurd c109 (by decide) | exact (c109 (by decide)).elim))
            refine lv_aload_n hx hb dX14_sleep_116 rfl (lv_at hl 6 rfl) ?_
            refine gf_X14_61 F hB dX14_sleep_117 (inv_A hI3) ?_
            refine pf_X14_61 F hB dX14_sleep_120 (inv_A hI3) (fun H locs hBn => ?_)
            clear hB; have hB := hBn; clear hBn
            have hI120 := inv_PIc (t := 20) hB hI3 (inv_A hI3) (by unfold iCn; omega)
            refine lv_iinc (lv' := [(4, .int _), (6, .int _), (5, .null), (3, .int _), (2, .ref _), (1, .int _), (0, .ref _)]) hx hb dX14_sleep_123 hl (k := 2) rfl rfl (by decide) rfl (fun ls hl => ?_)
            refine lv_goto (tgt := 51) hx hb dX14_sleep_126 (by decide) ?_
            have hi3 := i_nle c54
            have e9 : (i9 + Int32.ofInt 1).toInt = i9.toInt + 1 := m_add1 (by omega) (by omega)
            exact ih51 _ (by subst hd51; rw [e9]; omega) _ _ _ _ _ _ hB (lv_sub hl [0, 3, 4, 5, 6] rfl) hI120 ⟨by rw [e9]; omega, by rw [e9]; omega⟩ (fun z => by rw [sgI_PI, if_pos ⟨rfl, rfl⟩] at z; first | exact hth z | exact absurd z (by decide)) rfl
        · skip
          have tp := inv_pp hI3 (j := i9.toInt.toNat) (by omega) hz60
          obtain ⟨l2, q1, q2, q3, q4, q5, q6⟩ := inv_pl hI3 tp
          obtain ⟨e2, x2, ⟨pn1, pn2, pn3, pn4, -⟩, -⟩ := inv_pe hI3 tp
          refine lv_astore (lv' := [(5, .ref _), (4, .int _), (3, .int _), (2, .ref _), (1, .int _), (0, .ref _)]) hx hb dX14_sleep_61 hl (by decide) rfl (fun ls hl => ?_)
          refine lv_aload_n hx hb dX14_sleep_63 rfl (lv_at hl 5 rfl) ?_
          refine gf_X14_61 F hB dX14_sleep_64 (inv_A hI3) ?_
          refine lv_if_ne (tgt := 103) hx hb dX14_sleep_67 (by decide) (fun c67 => ?_) (fun c67 => ?_)
          · refine lv_iconst (v := 0) hx hb dX14_sleep_103 (by decide) ?_
            refine lv_istore (lv' := [(6, .int _), (5, .ref _), (4, .int _), (3, .int _), (2, .ref _), (1, .int _), (0, .ref _)]) hx hb dX14_sleep_104 hl (by decide) rfl (fun ls hl => ?_)
            refine lv_aload_n hx hb dX14_sleep_106 rfl (lv_at hl 6 rfl) ?_
            refine lv_iload hx hb dX14_sleep_107 (lv_at hl 0 rfl) ?_
            refine lv_if_eq (tgt := 116) hx hb dX14_sleep_109 (by decide) (fun c109 => ?_) (fun c109 => (by first | exact absurd c109 (by decide) | exact (c109 (by decide)).elim))
            refine lv_aload_n hx hb dX14_sleep_116 rfl (lv_at hl 6 rfl) ?_
            refine gf_X14_61 F hB dX14_sleep_117 (inv_A hI3) ?_
            refine pf_X14_61 F hB dX14_sleep_120 (inv_A hI3) (fun H locs hBn => ?_)
            clear hB; have hB := hBn; clear hBn
            have hI120 := inv_PIc (t := 20) hB hI3 (inv_A hI3) (by unfold iCn; omega)
            refine lv_iinc (lv' := [(4, .int _), (6, .int _), (5, .ref _), (3, .int _), (2, .ref _), (1, .int _), (0, .ref _)]) hx hb dX14_sleep_123 hl (k := 2) rfl rfl (by decide) rfl (fun ls hl => ?_)
            refine lv_goto (tgt := 51) hx hb dX14_sleep_126 (by decide) ?_
            have hi3 := i_nle c54
            have e9 : (i9 + Int32.ofInt 1).toInt = i9.toInt + 1 := m_add1 (by omega) (by omega)
            exact ih51 _ (by subst hd51; rw [e9]; omega) _ _ _ _ _ _ hB (lv_sub hl [0, 3, 4, 5, 6] rfl) hI120 ⟨by rw [e9]; omega, by rw [e9]; omega⟩ (fun z => by rw [sgI_PI, if_pos ⟨rfl, rfl⟩] at z; first | exact hth z | exact absurd z (by decide)) rfl
          · refine lv_aload hx hb dX14_sleep_70 (lv_at hl 0 rfl) ?_
            refine lv_ifnull hx hb dX14_sleep_72 ?_
            refine lv_aload hx hb dX14_sleep_75 (lv_at hl 0 rfl) ?_
            refine gr_X14_199 F hB dX14_sleep_77 tp q1 ?_
            refine sg_callV (ci := 4) F hB (m_isEmpty l D cy q2 _) (cwV 0 F.1.2.2.2.2 (mgV (mm_7 _ (List.mem_of_getElem? (i := 8) rfl)) (mm_7 _ (List.mem_of_getElem? (i := 9) rfl)) (mm_7 _ (List.mem_of_getElem? (i := 10) rfl)) (mm_0 _ (List.mem_of_getElem? (i := 35) rfl)) (mm_7 _ (List.mem_of_getElem? (i := 7) rfl))) rfl rfl rfl ⟨rfl, by decide, by decide, by decide +kernel⟩ ⟨Nat.le_of_ble_eq_true rfl, Nat.le_of_ble_eq_true rfl⟩) rfl rfl (by decide) rfl hl.1 rfl (Nat.le_of_ble_eq_true rfl) dX14_sleep_80 (Nat.le_of_ble_eq_true rfl) (Nat.add_le_add_right (Nat.le_of_ble_eq_true rfl) _) q2 (fun H locs v σ80 N hBn hX80 hP => ?_)
            clear hB; have hB := hBn; clear hBn
            obtain ⟨b80, rfl, rfl, hb80⟩ := hP
            refine lv_if_ne (tgt := 103) hx hb dX14_sleep_83 (by decide) (fun c83 => ?_) (fun c83 => ?_)
            · refine lv_iconst (v := 0) hx hb dX14_sleep_103 (by decide) ?_
              refine lv_istore (lv' := [(6, .int _), (5, .ref _), (4, .int _), (3, .int _), (2, .ref _), (1, .int _), (0, .ref _)]) hx hb dX14_sleep_104 hl (by decide) rfl (fun ls hl => ?_)
              refine lv_aload_n hx hb dX14_sleep_106 rfl (lv_at hl 6 rfl) ?_
              refine lv_iload hx hb dX14_sleep_107 (lv_at hl 0 rfl) ?_
              refine lv_if_eq (tgt := 116) hx hb dX14_sleep_109 (by decide) (fun c109 => ?_) (fun c109 => (by first | exact absurd c109 (by decide) | exact (c109 (by decide)).elim))
              refine lv_aload_n hx hb dX14_sleep_116 rfl (lv_at hl 6 rfl) ?_
              refine gf_X14_61 F hB dX14_sleep_117 (inv_A hI3) ?_
              refine pf_X14_61 F hB dX14_sleep_120 (inv_A hI3) (fun H locs hBn => ?_)
              clear hB; have hB := hBn; clear hBn
              have hI120 := inv_PIc (t := 20) hB hI3 (inv_A hI3) (by unfold iCn; omega)
              refine lv_iinc (lv' := [(4, .int _), (6, .int _), (5, .ref _), (3, .int _), (2, .ref _), (1, .int _), (0, .ref _)]) hx hb dX14_sleep_123 hl (k := 2) rfl rfl (by decide) rfl (fun ls hl => ?_)
              refine lv_goto (tgt := 51) hx hb dX14_sleep_126 (by decide) ?_
              have hi3 := i_nle c54
              have e9 : (i9 + Int32.ofInt 1).toInt = i9.toInt + 1 := m_add1 (by omega) (by omega)
              exact ih51 _ (by subst hd51; rw [e9]; omega) _ _ _ _ _ _ hB (lv_sub hl [0, 3, 4, 5, 6] rfl) hI120 ⟨by rw [e9]; omega, by rw [e9]; omega⟩ (fun z => by rw [sgI_PI, if_pos ⟨rfl, rfl⟩] at z; first | exact hth z | exact absurd z (by decide)) rfl
            · have hx6 := hth c67
              refine lv_aload_n hx hb dX14_sleep_86 rfl (lv_at hl 5 rfl) ?_
              refine lv_aload hx hb dX14_sleep_87 (lv_at hl 0 rfl) ?_
              refine gf_X14_133 F hB dX14_sleep_89 tp ?_
              refine lv_iload_n hx hb dX14_sleep_92 rfl (lv_at hl 4 rfl) ?_
              refine sg_callV (ci := 19) F hB (m_isBelow l D cy hI3 _ (by omega) (by omega) x (by omega) _) (cwV 2 F.1.2.2.2.2 (mgV (mm_5 _ (List.mem_of_getElem? (i := 38) rfl)) (mm_5 _ (List.mem_of_getElem? (i := 39) rfl)) (mm_6 _ (List.mem_of_getElem? (i := 0) rfl)) (mm_3 _ (List.mem_of_getElem? (i := 23) rfl)) (mm_4 _ (List.mem_of_getElem? (i := 7) rfl))) rfl rfl rfl ⟨rfl, by decide, by decide, by decide +kernel⟩ ⟨Nat.le_of_ble_eq_true rfl, Nat.le_of_ble_eq_true rfl⟩) rfl rfl (by decide) rfl hl.1 rfl (Nat.le_of_ble_eq_true rfl) dX14_sleep_93 (Nat.le_of_ble_eq_true rfl) (Nat.add_le_add_right (Nat.le_of_ble_eq_true rfl) _) (inv_A hI3) (fun H locs v σ93 N hBn hX93 hP => ?_)
              clear hB; have hB := hBn; clear hBn
              obtain ⟨b93, rfl, rfl, hb93⟩ := hP
              refine lv_if_eq (tgt := 103) hx hb dX14_sleep_96 (by decide) (fun c96 => ?_) (fun c96 => ?_)
              · refine lv_iconst (v := 0) hx hb dX14_sleep_103 (by decide) ?_
                refine lv_istore (lv' := [(6, .int _), (5, .ref _), (4, .int _), (3, .int _), (2, .ref _), (1, .int _), (0, .ref _)]) hx hb dX14_sleep_104 hl (by decide) rfl (fun ls hl => ?_)
                refine lv_aload_n hx hb dX14_sleep_106 rfl (lv_at hl 6 rfl) ?_
                refine lv_iload hx hb dX14_sleep_107 (lv_at hl 0 rfl) ?_
                refine lv_if_eq (tgt := 116) hx hb dX14_sleep_109 (by decide) (fun c109 => ?_) (fun c109 => (by first | exact absurd c109 (by decide) | exact (c109 (by decide)).elim))
                refine lv_aload_n hx hb dX14_sleep_116 rfl (lv_at hl 6 rfl) ?_
                refine gf_X14_61 F hB dX14_sleep_117 (inv_A hI3) ?_
                refine pf_X14_61 F hB dX14_sleep_120 (inv_A hI3) (fun H locs hBn => ?_)
                clear hB; have hB := hBn; clear hBn
                have hI120 := inv_PIc (t := 20) hB hI3 (inv_A hI3) (by unfold iCn; omega)
                refine lv_iinc (lv' := [(4, .int _), (6, .int _), (5, .ref _), (3, .int _), (2, .ref _), (1, .int _), (0, .ref _)]) hx hb dX14_sleep_123 hl (k := 2) rfl rfl (by decide) rfl (fun ls hl => ?_)
                refine lv_goto (tgt := 51) hx hb dX14_sleep_126 (by decide) ?_
                have hi3 := i_nle c54
                have e9 : (i9 + Int32.ofInt 1).toInt = i9.toInt + 1 := m_add1 (by omega) (by omega)
                exact ih51 _ (by subst hd51; rw [e9]; omega) _ _ _ _ _ _ hB (lv_sub hl [0, 3, 4, 5, 6] rfl) hI120 ⟨by rw [e9]; omega, by rw [e9]; omega⟩ (fun z => by rw [sgI_PI, if_pos ⟨rfl, rfl⟩] at z; first | exact hth z | exact absurd z (by decide)) rfl
              · refine lv_iconst (v := 1) hx hb dX14_sleep_99 (by decide) ?_
                refine lv_goto (tgt := 104) hx hb dX14_sleep_100 (by decide) ?_
                refine lv_istore (lv' := [(6, .int _), (5, .ref _), (4, .int _), (3, .int _), (2, .ref _), (1, .int _), (0, .ref _)]) hx hb dX14_sleep_104 hl (by decide) rfl (fun ls hl => ?_)
                refine lv_aload_n hx hb dX14_sleep_106 rfl (lv_at hl 6 rfl) ?_
                refine lv_iload hx hb dX14_sleep_107 (lv_at hl 0 rfl) ?_
                refine lv_if_eq (tgt := 116) hx hb dX14_sleep_109 (by decide) (fun c109 => (by first | exact absurd c109 (by decide) | exact (c109 (by decide)).elim)) (fun c109 => ?_)
                refine lv_iconst (v := 2) hx hb dX14_sleep_112 (by decide) ?_
                refine lv_goto (tgt := 120) hx hb dX14_sleep_113 (by decide) ?_
                refine pf_X14_61 F hB dX14_sleep_120 (inv_A hI3) (fun H locs hBn => ?_)
                clear hB; have hB := hBn; clear hBn
                have hI120 := inv_PIc (t := 20) hB hI3 (inv_A hI3) (by unfold iCn; omega)
                refine lv_iinc (lv' := [(4, .int _), (6, .int _), (5, .ref _), (3, .int _), (2, .ref _), (1, .int _), (0, .ref _)]) hx hb dX14_sleep_123 hl (k := 2) rfl rfl (by decide) rfl (fun ls hl => ?_)
                refine lv_goto (tgt := 51) hx hb dX14_sleep_126 (by decide) ?_
                have hi3 := i_nle c54
                have e9 : (i9 + Int32.ofInt 1).toInt = i9.toInt + 1 := m_add1 (by omega) (by omega)
                exact ih51 _ (by subst hd51; rw [e9]; omega) _ _ _ _ _ _ hB (lv_sub hl [0, 3, 4, 5, 6] rfl) hI120 ⟨by rw [e9]; omega, by rw [e9]; omega⟩ (fun z => by rw [sgI_PI, if_pos ⟨rfl, rfl⟩] at z; first | exact hth z | exact absurd z (by decide)) rfl
    · refine lv_iconst (v := 2) hx hb dX14_sleep_32 (by decide) ?_
      refine lv_goto (tgt := 37) hx hb dX14_sleep_33 (by decide) ?_
      refine pf_X14_61 F hB dX14_sleep_37 (inv_A h) (fun H locs hBn => ?_)
      clear hB; have hB := hBn; clear hBn
      have hI37 := inv_PIc (t := 20) hB h (inv_A h) (by unfold iCn; omega)
      refine lv_aload_n hx hb dX14_sleep_40 rfl (lv_at hl 0 rfl) ?_
      refine gr_X14_18 F hB dX14_sleep_41 (inv_A hI37) (inv_r2 hI37) ?_
      refine lv_astore_n (lv' := [(2, .ref _), (0, .ref _), (1, .int _)]) hx hb dX14_sleep_44 rfl hl (by decide) rfl (fun ls hl => ?_)
      refine lv_aload_n hx hb dX14_sleep_45 rfl (lv_at hl 0 rfl) ?_
      refine sg_alen 9 hx hb F.2.1 hB.1 rfl dX14_sleep_46 (inv_tP hI37).1 ?_
      refine lv_istore_n (lv' := [(3, .int _), (2, .ref _), (0, .ref _), (1, .int _)]) hx hb dX14_sleep_47 rfl hl (by decide) rfl (fun ls hl => ?_)
      refine lv_iconst (v := 0) hx hb dX14_sleep_48 (by decide) ?_
      refine lv_istore (lv' := [(4, .int _), (3, .int _), (2, .ref _), (0, .ref _), (1, .int _)]) hx hb dX14_sleep_49 hl (by decide) rfl (fun ls hl => ?_)
      have key51 : ∃ (σ3 : SG) (i9 : Int32), sgB D cy s σ σ3 H locs N 0 ∧ lv_has ls 7 [(4, .int i9), (3, .int (nI (sgN σ (kP K)))), (2, .ref (kP K)), (1, .int x), (0, .ref (kA K))] ∧ Inv eda ia K g n S hw σ3 ∧ (0 ≤ i9.toInt ∧ i9.toInt ≤ 12) ∧ (sgI σ3 (kA K) 0 = 0 → 1 ≤ x.toInt ∧ x.toInt < n) := ⟨_, _, hB, (lv_sub hl [0, 1, 2, 4, 3] rfl), hI37, ⟨by decide, by decide⟩, by first | exact fun _ => hx5 | exact fun z => absurd (((by rw [sgI_PI, if_pos ⟨rfl, rfl⟩]) : sgI (sgPI σ (kA K) 0 _) (kA K) 0 = _).symm.trans z) (by decide)⟩
      clear hB hl
      obtain ⟨σ3, i9, hB, hl, hI3, hi, hth⟩ := key51
      obtain ⟨d51, hd51⟩ : ∃ d : Nat, d = 12 - i9.toInt.toNat := ⟨_, rfl⟩
      induction d51 using Nat.strongRecOn generalizing H locs ls N σ3 i9
      rename_i d51 ih51
      have hi1 := hi.1
      have hi2 := hi.2
      have hP3 := inv_tP hI3
      refine lv_iload hx hb dX14_sleep_51 (lv_at hl 0 rfl) ?_
      refine lv_iload_n hx hb dX14_sleep_53 rfl (lv_at hl 1 rfl) ?_
      refine lv_icmp_ge (tgt := 129) hx hb dX14_sleep_54 (by decide) (fun c54 => ?_) (fun c54 => ?_)
      · refine lv_iconst (v := 0) hx hb dX14_sleep_129 (by decide) ?_
        refine lv_istore_n (lv' := [(2, .int _), (4, .int _), (3, .int _), (1, .int _), (0, .ref _)]) hx hb dX14_sleep_130 rfl hl (by decide) rfl (fun ls hl => ?_)
        refine lv_iconst (v := 0) hx hb dX14_sleep_131 (by decide) ?_
        refine lv_istore_n (lv' := [(3, .int _), (2, .int _), (4, .int _), (1, .int _), (0, .ref _)]) hx hb dX14_sleep_132 rfl hl (by decide) rfl (fun ls hl => ?_)
        have key133 : ∃ (σ3 : SG) (k9 m9 : Int32), sgB D cy s σ σ3 H locs N 0 ∧ lv_has ls 7 [(3, .int k9), (2, .int m9), (1, .int x), (0, .ref (kA K))] ∧ Inv eda ia K g n S hw σ3 ∧ (0 ≤ k9.toInt ∧ k9.toInt ≤ n) ∧ (sgI σ3 (kA K) 0 = 0 → 1 ≤ x.toInt ∧ x.toInt < n) := ⟨σ3, _, _, hB, (lv_sub hl [0, 1, 3, 4] rfl), hI3, ⟨by decide, by rw [m_i0]; omega⟩, hth⟩
        clear hB hl
        obtain ⟨σ3, k9, m9, hB, hl, hI3, hi, hth⟩ := key133
        obtain ⟨d133, hd133⟩ : ∃ d : Nat, d = n - k9.toInt.toNat := ⟨_, rfl⟩
        induction d133 using Nat.strongRecOn generalizing H locs ls N σ3 k9 m9
        rename_i d133 ih133
        have hi1 := hi.1
        have hi2 := hi.2
        obtain ⟨y1, -⟩ := inv_sz hI3
        refine lv_iload_n hx hb dX14_sleep_133 rfl (lv_at hl 0 rfl) ?_
        refine lv_aload_n hx hb dX14_sleep_134 rfl (lv_at hl 3 rfl) ?_
        refine gr_X14_10 F hB dX14_sleep_135 (inv_A hI3) (inv_r1 hI3) ?_
        refine sg_callV (ci := 4) F hB (m_size l D cy (by exact (inv_tD hI3).1) _) (cwV 0 F.1.2.2.2.2 (mgV (mm_3 _ (List.mem_of_getElem? (i := 18) rfl)) (mm_3 _ (List.mem_of_getElem? (i := 19) rfl)) (mm_3 _ (List.mem_of_getElem? (i := 20) rfl)) (mm_0 _ (List.mem_of_getElem? (i := 35) rfl)) (mm_3 _ (List.mem_of_getElem? (i := 16) rfl))) rfl rfl rfl ⟨rfl, by decide, by decide, by decide +kernel⟩ ⟨Nat.le_of_ble_eq_true rfl, Nat.le_of_ble_eq_true rfl⟩) rfl rfl (by decide) rfl hl.1 rfl (Nat.le_of_ble_eq_true rfl) dX14_sleep_138 (Nat.le_of_ble_eq_true rfl) (Nat.add_le_add_right (Nat.le_of_ble_eq_true rfl) _) (inv_tD hI3).1 (fun H locs v σ138 N hBn hX138 hP => ?_)
        clear hB; have hB := hBn; clear hBn
        obtain ⟨rfl, rfl⟩ := hP
        refine lv_icmp_ge (tgt := 204) hx hb dX14_sleep_141 (by decide) (fun c141 => ?_) (fun c141 => ?_)
        · refine lv_iload_n hx hb dX14_sleep_204 rfl (lv_at hl 1 rfl) ?_
          exact sg_iret F hB hrt dX14_sleep_205 (by decide) (by decide) (⟨⟨_, rfl⟩, hI3⟩)
        · refine lv_aload_n hx hb dX14_sleep_144 rfl (lv_at hl 3 rfl) ?_
          refine gf_X14_61 F hB dX14_sleep_145 (inv_A hI3) ?_
          refine lv_if_ne (tgt := 204) hx hb dX14_sleep_148 (by decide) (fun c148 => ?_) (fun c148 => ?_)
          · refine lv_iload_n hx hb dX14_sleep_204 rfl (lv_at hl 1 rfl) ?_
            exact sg_iret F hB hrt dX14_sleep_205 (by decide) (by decide) (⟨⟨_, rfl⟩, hI3⟩)
          · have hi3 := i_nle c141
            refine lv_aload_n hx hb dX14_sleep_151 rfl (lv_at hl 3 rfl) ?_
            refine gr_X14_10 F hB dX14_sleep_152 (inv_A hI3) (inv_r1 hI3) ?_
            refine lv_iload_n hx hb dX14_sleep_155 rfl (lv_at hl 0 rfl) ?_
            refine sg_callV (ci := 4) F hB (m_getD l D cy hI3 k9 (by omega) (by omega) _) (cwV 1 F.1.2.2.2.2 (mgV (mm_4 _ (List.mem_of_getElem? (i := 3) rfl)) (mm_4 _ (List.mem_of_getElem? (i := 4) rfl)) (mm_4 _ (List.mem_of_getElem? (i := 5) rfl)) (mm_0 _ (List.mem_of_getElem? (i := 35) rfl)) (mm_3 _ (List.mem_of_getElem? (i := 34) rfl))) rfl rfl rfl ⟨rfl, by decide, by decide, by decide +kernel⟩ ⟨Nat.le_of_ble_eq_true rfl, Nat.le_of_ble_eq_true rfl⟩) rfl rfl (by decide) rfl hl.1 rfl (Nat.le_of_ble_eq_true rfl) dX14_sleep_156 (Nat.le_of_ble_eq_true rfl) (Nat.add_le_add_right (Nat.le_of_ble_eq_true rfl) _) (inv_tD hI3).1 (fun H locs v σ156 N hBn hX156 hP => ?_)
            clear hB; have hB := hBn; clear hBn
            obtain ⟨rfl, rfl⟩ := hP
            have dv156 := (inv_dv hI3 (k := (k9 : Int32).toInt.toNat) (by omega)).2.1
            refine va_castY hx hb hown (F.1.2.2.2.2 _ (List.mem_cons_of_mem _ (mm_4 _ (List.mem_of_getElem? (i := 2) rfl)))) (F.2.2.1.2.2 ("HubcascadeModel$Device", "HubcascadeModel$Device") (by decide +kernel)) (sg_recv (ci := 15) F.2.1 hB (by assumption) (by decide) rfl) dX14_sleep_159 ?_
            refine gf_X14_53 F hB dX14_sleep_162 (by assumption) ?_
            refine lv_bipush (v := 99) hx hb dX14_sleep_165 (by decide) ?_
            refine lv_icmp_ne (tgt := 198) hx hb dX14_sleep_167 (by decide) (fun c167 => ?_) (fun c167 => ?_)
            · refine lv_iinc (lv' := [(3, .int _), (2, .int _), (1, .int _), (0, .ref _)]) hx hb dX14_sleep_198 hl (k := 0) rfl rfl (by decide) rfl (fun ls hl => ?_)
              refine lv_goto (tgt := 133) hx hb dX14_sleep_201 (by decide) ?_
              have hi3 := i_nle c141
              have e9 : (k9 + Int32.ofInt 1).toInt = k9.toInt + 1 := m_add1 (by omega) (by omega)
              exact ih133 _ (by subst hd133; rw [e9]; omega) _ _ _ _ _ _ _ hB (lv_sub hl [0, 1, 2, 3] rfl) hI3 ⟨by rw [e9]; omega, by rw [e9]; omega⟩ (by first | exact hth | (rw [sgI_nk (by decide)]; exact hth)) rfl
            · have hx6 := hth c148
              refine lv_aload_n hx hb dX14_sleep_170 rfl (lv_at hl 3 rfl) ?_
              refine lv_iload_n hx hb dX14_sleep_171 rfl (lv_at hl 0 rfl) ?_
              refine lv_iload_n hx hb dX14_sleep_172 rfl (lv_at hl 2 rfl) ?_
              refine sg_callV (ci := 19) F hB (m_isBelow l D cy hI3 k9 (by omega) (by omega) x (by omega) _) (cwV 2 F.1.2.2.2.2 (mgV (mm_5 _ (List.mem_of_getElem? (i := 38) rfl)) (mm_5 _ (List.mem_of_getElem? (i := 39) rfl)) (mm_6 _ (List.mem_of_getElem? (i := 0) rfl)) (mm_3 _ (List.mem_of_getElem? (i := 23) rfl)) (mm_4 _ (List.mem_of_getElem? (i := 7) rfl))) rfl rfl rfl ⟨rfl, by decide, by decide, by decide +kernel⟩ ⟨Nat.le_of_ble_eq_true rfl, Nat.le_of_ble_eq_true rfl⟩) rfl rfl (by decide) rfl hl.1 rfl (Nat.le_of_ble_eq_true rfl) dX14_sleep_173 (Nat.le_of_ble_eq_true rfl) (Nat.add_le_add_right (Nat.le_of_ble_eq_true rfl) _) (inv_A hI3) (fun H locs v σ173 N hBn hX173 hP => ?_)
              clear hB; have hB := hBn; clear hBn
              obtain ⟨b173, rfl, rfl, hb173⟩ := hP
              refine lv_if_eq (tgt := 198) hx hb dX14_sleep_176 (by decide) (fun c176 => ?_) (fun c176 => ?_)
              · refine lv_iinc (lv' := [(3, .int _), (2, .int _), (1, .int _), (0, .ref _)]) hx hb dX14_sleep_198 hl (k := 0) rfl rfl (by decide) rfl (fun ls hl => ?_)
                refine lv_goto (tgt := 133) hx hb dX14_sleep_201 (by decide) ?_
                have hi3 := i_nle c141
                have e9 : (k9 + Int32.ofInt 1).toInt = k9.toInt + 1 := m_add1 (by omega) (by omega)
                exact ih133 _ (by subst hd133; rw [e9]; omega) _ _ _ _ _ _ _ hB (lv_sub hl [0, 1, 2, 3] rfl) hI3 ⟨by rw [e9]; omega, by rw [e9]; omega⟩ (by first | exact hth | (rw [sgI_nk (by decide)]; exact hth)) rfl
              · refine lv_aload_n hx hb dX14_sleep_179 rfl (lv_at hl 3 rfl) ?_
                refine gr_X14_10 F hB dX14_sleep_180 (inv_A hI3) (inv_r1 hI3) ?_
                refine lv_iload_n hx hb dX14_sleep_183 rfl (lv_at hl 0 rfl) ?_
                refine sg_callV (ci := 4) F hB (m_getD l D cy hI3 k9 (by omega) (by omega) _) (cwV 1 F.1.2.2.2.2 (mgV (mm_4 _ (List.mem_of_getElem? (i := 3) rfl)) (mm_4 _ (List.mem_of_getElem? (i := 4) rfl)) (mm_4 _ (List.mem_of_getElem? (i := 5) rfl)) (mm_0 _ (List.mem_of_getElem? (i := 35) rfl)) (mm_3 _ (List.mem_of_getElem? (i := 34) rfl))) rfl rfl rfl ⟨rfl, by decide, by decide, by decide +kernel⟩ ⟨Nat.le_of_ble_eq_true rfl, Nat.le_of_ble_eq_true rfl⟩) rfl rfl (by decide) rfl hl.1 rfl (Nat.le_of_ble_eq_true rfl) dX14_sleep_184 (Nat.le_of_ble_eq_true rfl) (Nat.add_le_add_right (Nat.le_of_ble_eq_true rfl) _) (inv_tD hI3).1 (fun H locs v σ184 N hBn hX184 hP => ?_)
                clear hB; have hB := hBn; clear hBn
                obtain ⟨rfl, rfl⟩ := hP
                have dv184 := (inv_dv hI3 (k := (k9 : Int32).toInt.toNat) (by omega)).2.1
                refine va_castY hx hb hown (F.1.2.2.2.2 _ (List.mem_cons_of_mem _ (mm_4 _ (List.mem_of_getElem? (i := 2) rfl)))) (F.2.2.1.2.2 ("HubcascadeModel$Device", "HubcascadeModel$Device") (by decide +kernel)) (sg_recv (ci := 15) F.2.1 hB (by assumption) (by decide) rfl) dX14_sleep_187 ?_
                refine lv_bipush (v := 122) hx hb dX14_sleep_190 (by decide) ?_
                refine pf_X14_53 F hB dX14_sleep_192 dv184 ⟨by decide, by decide⟩ (fun H locs hBn => ?_)
                clear hB; have hB := hBn; clear hBn
                have hk1 : 1 ≤ k9.toInt := by
                  by_cases q : k9.toInt = 0
                  · have qb := sgb_t hb173 c176
                    rw [q] at qb
                    exact absurd qb (iBw_host hI3 hx6.1)
                  · omega
                have hI192 := inv_st (v := 122) hI3 (k := k9.toInt.toNat) (by omega) (by omega) (by decide) (fun z => by have q9 : iSt g σ3 k9.toInt.toNat = 99 := c167; rw [q9] at z; exact absurd z (by decide))
                refine lv_iinc (lv' := [(2, .int _), (3, .int _), (1, .int _), (0, .ref _)]) hx hb dX14_sleep_195 hl (k := 1) rfl rfl (by decide) rfl (fun ls hl => ?_)
                refine lv_iinc (lv' := [(3, .int _), (2, .int _), (1, .int _), (0, .ref _)]) hx hb dX14_sleep_198 hl (k := 1) rfl rfl (by decide) rfl (fun ls hl => ?_)
                refine lv_goto (tgt := 133) hx hb dX14_sleep_201 (by decide) ?_
                have hi3 := i_nle c141
                have e9 : (k9 + Int32.ofInt 1).toInt = k9.toInt + 1 := m_add1 (by omega) (by omega)
                exact ih133 _ (by subst hd133; rw [e9]; omega) _ _ _ _ _ _ _ hB (lv_sub hl [0, 1, 2, 3] rfl) hI192 ⟨by rw [e9]; omega, by rw [e9]; omega⟩ (by first | exact hth | (rw [sgI_nk (by decide)]; exact hth)) rfl
      · have hi3 := i_nle c54
        refine lv_aload_n hx hb dX14_sleep_57 rfl (lv_at hl 2 rfl) ?_
        refine lv_iload hx hb dX14_sleep_58 (lv_at hl 0 rfl) ?_
        refine sg_aald 9 hx hb F.2.1 hB.1 rfl rfl dX14_sleep_60 hP3.1 (by omega) (m_ltN (n := 12) hP3.2 (by omega)) (m_ltM hP3.2 (by decide)) ?_
        refine sg_split (fun hz60 => ?_) (fun b60 hz60 => ?_)
        · skip
          refine lv_astoreN (lv' := [(5, .null), (4, .int _), (3, .int _), (2, .ref _), (1, .int _), (0, .ref _)]) hx hb dX14_sleep_61 hl (by decide) rfl (fun ls hl => ?_)
          refine lv_aload_n hx hb dX14_sleep_63 rfl (lv_at hl 5 rfl) ?_
          refine gf_X14_61 F hB dX14_sleep_64 (inv_A hI3) ?_
          refine lv_if_ne (tgt := 103) hx hb dX14_sleep_67 (by decide) (fun c67 => ?_) (fun c67 => ?_)
          · refine lv_iconst (v := 0) hx hb dX14_sleep_103 (by decide) ?_
            refine lv_istore (lv' := [(6, .int _), (5, .null), (4, .int _), (3, .int _), (2, .ref _), (1, .int _), (0, .ref _)]) hx hb dX14_sleep_104 hl (by decide) rfl (fun ls hl => ?_)
            refine lv_aload_n hx hb dX14_sleep_106 rfl (lv_at hl 6 rfl) ?_
            refine lv_iload hx hb dX14_sleep_107 (lv_at hl 0 rfl) ?_
            refine lv_if_eq (tgt := 116) hx hb dX14_sleep_109 (by decide) (fun c109 => ?_) (fun c109 => (by first | exact absurd c109 (by decide) | exact (c109 (by decide)).elim))
            refine lv_aload_n hx hb dX14_sleep_116 rfl (lv_at hl 6 rfl) ?_
            refine gf_X14_61 F hB dX14_sleep_117 (inv_A hI3) ?_
            refine pf_X14_61 F hB dX14_sleep_120 (inv_A hI3) (fun H locs hBn => ?_)
            clear hB; have hB := hBn; clear hBn
            have hI120 := inv_PIc (t := 20) hB hI3 (inv_A hI3) (by unfold iCn; omega)
            refine lv_iinc (lv' := [(4, .int _), (6, .int _), (5, .null), (3, .int _), (2, .ref _), (1, .int _), (0, .ref _)]) hx hb dX14_sleep_123 hl (k := 2) rfl rfl (by decide) rfl (fun ls hl => ?_)
            refine lv_goto (tgt := 51) hx hb dX14_sleep_126 (by decide) ?_
            have hi3 := i_nle c54
            have e9 : (i9 + Int32.ofInt 1).toInt = i9.toInt + 1 := m_add1 (by omega) (by omega)
            exact ih51 _ (by subst hd51; rw [e9]; omega) _ _ _ _ _ _ hB (lv_sub hl [0, 3, 4, 5, 6] rfl) hI120 ⟨by rw [e9]; omega, by rw [e9]; omega⟩ (fun z => by rw [sgI_PI, if_pos ⟨rfl, rfl⟩] at z; first | exact hth z | exact absurd z (by decide)) rfl
          · refine lv_aloadN hx hb dX14_sleep_70 (lv_at hl 0 rfl) ?_
            refine lv_ifnullN (tgt := 103) hx hb dX14_sleep_72 (by decide) ?_
            refine lv_iconst (v := 0) hx hb dX14_sleep_103 (by decide) ?_
            refine lv_istore (lv' := [(6, .int _), (5, .null), (4, .int _), (3, .int _), (2, .ref _), (1, .int _), (0, .ref _)]) hx hb dX14_sleep_104 hl (by decide) rfl (fun ls hl => ?_)
            refine lv_aload_n hx hb dX14_sleep_106 rfl (lv_at hl 6 rfl) ?_
            refine lv_iload hx hb dX14_sleep_107 (lv_at hl 0 rfl) ?_
            refine lv_if_eq (tgt := 116) hx hb dX14_sleep_109 (by decide) (fun c109 => ?_) (fun c109 => (by first | exact absurd c109 (by decide) | exact (c109 (by decide)).elim))
            refine lv_aload_n hx hb dX14_sleep_116 rfl (lv_at hl 6 rfl) ?_
            refine gf_X14_61 F hB dX14_sleep_117 (inv_A hI3) ?_
            refine pf_X14_61 F hB dX14_sleep_120 (inv_A hI3) (fun H locs hBn => ?_)
            clear hB; have hB := hBn; clear hBn
            have hI120 := inv_PIc (t := 20) hB hI3 (inv_A hI3) (by unfold iCn; omega)
            refine lv_iinc (lv' := [(4, .int _), (6, .int _), (5, .null), (3, .int _), (2, .ref _), (1, .int _), (0, .ref _)]) hx hb dX14_sleep_123 hl (k := 2) rfl rfl (by decide) rfl (fun ls hl => ?_)
            refine lv_goto (tgt := 51) hx hb dX14_sleep_126 (by decide) ?_
            have hi3 := i_nle c54
            have e9 : (i9 + Int32.ofInt 1).toInt = i9.toInt + 1 := m_add1 (by omega) (by omega)
            exact ih51 _ (by subst hd51; rw [e9]; omega) _ _ _ _ _ _ hB (lv_sub hl [0, 3, 4, 5, 6] rfl) hI120 ⟨by rw [e9]; omega, by rw [e9]; omega⟩ (fun z => by rw [sgI_PI, if_pos ⟨rfl, rfl⟩] at z; first | exact hth z | exact absurd z (by decide)) rfl
        · skip
          have tp := inv_pp hI3 (j := i9.toInt.toNat) (by omega) hz60
          obtain ⟨l2, q1, q2, q3, q4, q5, q6⟩ := inv_pl hI3 tp
          obtain ⟨e2, x2, ⟨pn1, pn2, pn3, pn4, -⟩, -⟩ := inv_pe hI3 tp
          refine lv_astore (lv' := [(5, .ref _), (4, .int _), (3, .int _), (2, .ref _), (1, .int _), (0, .ref _)]) hx hb dX14_sleep_61 hl (by decide) rfl (fun ls hl => ?_)
          refine lv_aload_n hx hb dX14_sleep_63 rfl (lv_at hl 5 rfl) ?_
          refine gf_X14_61 F hB dX14_sleep_64 (inv_A hI3) ?_
          refine lv_if_ne (tgt := 103) hx hb dX14_sleep_67 (by decide) (fun c67 => ?_) (fun c67 => ?_)
          · refine lv_iconst (v := 0) hx hb dX14_sleep_103 (by decide) ?_
            refine lv_istore (lv' := [(6, .int _), (5, .ref _), (4, .int _), (3, .int _), (2, .ref _), (1, .int _), (0, .ref _)]) hx hb dX14_sleep_104 hl (by decide) rfl (fun ls hl => ?_)
            refine lv_aload_n hx hb dX14_sleep_106 rfl (lv_at hl 6 rfl) ?_
            refine lv_iload hx hb dX14_sleep_107 (lv_at hl 0 rfl) ?_
            refine lv_if_eq (tgt := 116) hx hb dX14_sleep_109 (by decide) (fun c109 => ?_) (fun c109 => (by first | exact absurd c109 (by decide) | exact (c109 (by decide)).elim))
            refine lv_aload_n hx hb dX14_sleep_116 rfl (lv_at hl 6 rfl) ?_
            refine gf_X14_61 F hB dX14_sleep_117 (inv_A hI3) ?_
            refine pf_X14_61 F hB dX14_sleep_120 (inv_A hI3) (fun H locs hBn => ?_)
            clear hB; have hB := hBn; clear hBn
            have hI120 := inv_PIc (t := 20) hB hI3 (inv_A hI3) (by unfold iCn; omega)
            refine lv_iinc (lv' := [(4, .int _), (6, .int _), (5, .ref _), (3, .int _), (2, .ref _), (1, .int _), (0, .ref _)]) hx hb dX14_sleep_123 hl (k := 2) rfl rfl (by decide) rfl (fun ls hl => ?_)
            refine lv_goto (tgt := 51) hx hb dX14_sleep_126 (by decide) ?_
            have hi3 := i_nle c54
            have e9 : (i9 + Int32.ofInt 1).toInt = i9.toInt + 1 := m_add1 (by omega) (by omega)
            exact ih51 _ (by subst hd51; rw [e9]; omega) _ _ _ _ _ _ hB (lv_sub hl [0, 3, 4, 5, 6] rfl) hI120 ⟨by rw [e9]; omega, by rw [e9]; omega⟩ (fun z => by rw [sgI_PI, if_pos ⟨rfl, rfl⟩] at z; first | exact hth z | exact absurd z (by decide)) rfl
          · refine lv_aload hx hb dX14_sleep_70 (lv_at hl 0 rfl) ?_
            refine lv_ifnull hx hb dX14_sleep_72 ?_
            refine lv_aload hx hb dX14_sleep_75 (lv_at hl 0 rfl) ?_
            refine gr_X14_199 F hB dX14_sleep_77 tp q1 ?_
            refine sg_callV (ci := 4) F hB (m_isEmpty l D cy q2 _) (cwV 0 F.1.2.2.2.2 (mgV (mm_7 _ (List.mem_of_getElem? (i := 8) rfl)) (mm_7 _ (List.mem_of_getElem? (i := 9) rfl)) (mm_7 _ (List.mem_of_getElem? (i := 10) rfl)) (mm_0 _ (List.mem_of_getElem? (i := 35) rfl)) (mm_7 _ (List.mem_of_getElem? (i := 7) rfl))) rfl rfl rfl ⟨rfl, by decide, by decide, by decide +kernel⟩ ⟨Nat.le_of_ble_eq_true rfl, Nat.le_of_ble_eq_true rfl⟩) rfl rfl (by decide) rfl hl.1 rfl (Nat.le_of_ble_eq_true rfl) dX14_sleep_80 (Nat.le_of_ble_eq_true rfl) (Nat.add_le_add_right (Nat.le_of_ble_eq_true rfl) _) q2 (fun H locs v σ80 N hBn hX80 hP => ?_)
            clear hB; have hB := hBn; clear hBn
            obtain ⟨b80, rfl, rfl, hb80⟩ := hP
            refine lv_if_ne (tgt := 103) hx hb dX14_sleep_83 (by decide) (fun c83 => ?_) (fun c83 => ?_)
            · refine lv_iconst (v := 0) hx hb dX14_sleep_103 (by decide) ?_
              refine lv_istore (lv' := [(6, .int _), (5, .ref _), (4, .int _), (3, .int _), (2, .ref _), (1, .int _), (0, .ref _)]) hx hb dX14_sleep_104 hl (by decide) rfl (fun ls hl => ?_)
              refine lv_aload_n hx hb dX14_sleep_106 rfl (lv_at hl 6 rfl) ?_
              refine lv_iload hx hb dX14_sleep_107 (lv_at hl 0 rfl) ?_
              refine lv_if_eq (tgt := 116) hx hb dX14_sleep_109 (by decide) (fun c109 => ?_) (fun c109 => (by first | exact absurd c109 (by decide) | exact (c109 (by decide)).elim))
              refine lv_aload_n hx hb dX14_sleep_116 rfl (lv_at hl 6 rfl) ?_
              refine gf_X14_61 F hB dX14_sleep_117 (inv_A hI3) ?_
              refine pf_X14_61 F hB dX14_sleep_120 (inv_A hI3) (fun H locs hBn => ?_)
              clear hB; have hB := hBn; clear hBn
              have hI120 := inv_PIc (t := 20) hB hI3 (inv_A hI3) (by unfold iCn; omega)
              refine lv_iinc (lv' := [(4, .int _), (6, .int _), (5, .ref _), (3, .int _), (2, .ref _), (1, .int _), (0, .ref _)]) hx hb dX14_sleep_123 hl (k := 2) rfl rfl (by decide) rfl (fun ls hl => ?_)
              refine lv_goto (tgt := 51) hx hb dX14_sleep_126 (by decide) ?_
              have hi3 := i_nle c54
              have e9 : (i9 + Int32.ofInt 1).toInt = i9.toInt + 1 := m_add1 (by omega) (by omega)
              exact ih51 _ (by subst hd51; rw [e9]; omega) _ _ _ _ _ _ hB (lv_sub hl [0, 3, 4, 5, 6] rfl) hI120 ⟨by rw [e9]; omega, by rw [e9]; omega⟩ (fun z => by rw [sgI_PI, if_pos ⟨rfl, rfl⟩] at z; first | exact hth z | exact absurd z (by decide)) rfl
            · have hx6 := hth c67
              refine lv_aload_n hx hb dX14_sleep_86 rfl (lv_at hl 5 rfl) ?_
              refine lv_aload hx hb dX14_sleep_87 (lv_at hl 0 rfl) ?_
              refine gf_X14_133 F hB dX14_sleep_89 tp ?_
              refine lv_iload_n hx hb dX14_sleep_92 rfl (lv_at hl 4 rfl) ?_
              refine sg_callV (ci := 19) F hB (m_isBelow l D cy hI3 _ (by omega) (by omega) x (by omega) _) (cwV 2 F.1.2.2.2.2 (mgV (mm_5 _ (List.mem_of_getElem? (i := 38) rfl)) (mm_5 _ (List.mem_of_getElem? (i := 39) rfl)) (mm_6 _ (List.mem_of_getElem? (i := 0) rfl)) (mm_3 _ (List.mem_of_getElem? (i := 23) rfl)) (mm_4 _ (List.mem_of_getElem? (i := 7) rfl))) rfl rfl rfl ⟨rfl, by decide, by decide, by decide +kernel⟩ ⟨Nat.le_of_ble_eq_true rfl, Nat.le_of_ble_eq_true rfl⟩) rfl rfl (by decide) rfl hl.1 rfl (Nat.le_of_ble_eq_true rfl) dX14_sleep_93 (Nat.le_of_ble_eq_true rfl) (Nat.add_le_add_right (Nat.le_of_ble_eq_true rfl) _) (inv_A hI3) (fun H locs v σ93 N hBn hX93 hP => ?_)
              clear hB; have hB := hBn; clear hBn
              obtain ⟨b93, rfl, rfl, hb93⟩ := hP
              refine lv_if_eq (tgt := 103) hx hb dX14_sleep_96 (by decide) (fun c96 => ?_) (fun c96 => ?_)
              · refine lv_iconst (v := 0) hx hb dX14_sleep_103 (by decide) ?_
                refine lv_istore (lv' := [(6, .int _), (5, .ref _), (4, .int _), (3, .int _), (2, .ref _), (1, .int _), (0, .ref _)]) hx hb dX14_sleep_104 hl (by decide) rfl (fun ls hl => ?_)
                refine lv_aload_n hx hb dX14_sleep_106 rfl (lv_at hl 6 rfl) ?_
                refine lv_iload hx hb dX14_sleep_107 (lv_at hl 0 rfl) ?_
                refine lv_if_eq (tgt := 116) hx hb dX14_sleep_109 (by decide) (fun c109 => ?_) (fun c109 => (by first | exact absurd c109 (by decide) | exact (c109 (by decide)).elim))
                refine lv_aload_n hx hb dX14_sleep_116 rfl (lv_at hl 6 rfl) ?_
                refine gf_X14_61 F hB dX14_sleep_117 (inv_A hI3) ?_
                refine pf_X14_61 F hB dX14_sleep_120 (inv_A hI3) (fun H locs hBn => ?_)
                clear hB; have hB := hBn; clear hBn
                have hI120 := inv_PIc (t := 20) hB hI3 (inv_A hI3) (by unfold iCn; omega)
                refine lv_iinc (lv' := [(4, .int _), (6, .int _), (5, .ref _), (3, .int _), (2, .ref _), (1, .int _), (0, .ref _)]) hx hb dX14_sleep_123 hl (k := 2) rfl rfl (by decide) rfl (fun ls hl => ?_)
                refine lv_goto (tgt := 51) hx hb dX14_sleep_126 (by decide) ?_
                have hi3 := i_nle c54
                have e9 : (i9 + Int32.ofInt 1).toInt = i9.toInt + 1 := m_add1 (by omega) (by omega)
                exact ih51 _ (by subst hd51; rw [e9]; omega) _ _ _ _ _ _ hB (lv_sub hl [0, 3, 4, 5, 6] rfl) hI120 ⟨by rw [e9]; omega, by rw [e9]; omega⟩ (fun z => by rw [sgI_PI, if_pos ⟨rfl, rfl⟩] at z; first | exact hth z | exact absurd z (by decide)) rfl
              · refine lv_iconst (v := 1) hx hb dX14_sleep_99 (by decide) ?_
                refine lv_goto (tgt := 104) hx hb dX14_sleep_100 (by decide) ?_
                refine lv_istore (lv' := [(6, .int _), (5, .ref _), (4, .int _), (3, .int _), (2, .ref _), (1, .int _), (0, .ref _)]) hx hb dX14_sleep_104 hl (by decide) rfl (fun ls hl => ?_)
                refine lv_aload_n hx hb dX14_sleep_106 rfl (lv_at hl 6 rfl) ?_
                refine lv_iload hx hb dX14_sleep_107 (lv_at hl 0 rfl) ?_
                refine lv_if_eq (tgt := 116) hx hb dX14_sleep_109 (by decide) (fun c109 => (by first | exact absurd c109 (by decide) | exact (c109 (by decide)).elim)) (fun c109 => ?_)
                refine lv_iconst (v := 2) hx hb dX14_sleep_112 (by decide) ?_
                refine lv_goto (tgt := 120) hx hb dX14_sleep_113 (by decide) ?_
                refine pf_X14_61 F hB dX14_sleep_120 (inv_A hI3) (fun H locs hBn => ?_)
                clear hB; have hB := hBn; clear hBn
                have hI120 := inv_PIc (t := 20) hB hI3 (inv_A hI3) (by unfold iCn; omega)
                refine lv_iinc (lv' := [(4, .int _), (6, .int _), (5, .ref _), (3, .int _), (2, .ref _), (1, .int _), (0, .ref _)]) hx hb dX14_sleep_123 hl (k := 2) rfl rfl (by decide) rfl (fun ls hl => ?_)
                refine lv_goto (tgt := 51) hx hb dX14_sleep_126 (by decide) ?_
                have hi3 := i_nle c54
                have e9 : (i9 + Int32.ofInt 1).toInt = i9.toInt + 1 := m_add1 (by omega) (by omega)
                exact ih51 _ (by subst hd51; rw [e9]; omega) _ _ _ _ _ _ hB (lv_sub hl [0, 3, 4, 5, 6] rfl) hI120 ⟨by rw [e9]; omega, by rw [e9]; omega⟩ (fun z => by rw [sgI_PI, if_pos ⟨rfl, rfl⟩] at z; first | exact hth z | exact absurd z (by decide)) rfl
  · refine lv_iconst (v := 1) hx hb dX14_sleep_9 (by decide) ?_
    refine lv_goto (tgt := 37) hx hb dX14_sleep_10 (by decide) ?_
    refine pf_X14_61 F hB dX14_sleep_37 (inv_A h) (fun H locs hBn => ?_)
    clear hB; have hB := hBn; clear hBn
    have hI37 := inv_PIc (t := 20) hB h (inv_A h) (by unfold iCn; omega)
    refine lv_aload_n hx hb dX14_sleep_40 rfl (lv_at hl 0 rfl) ?_
    refine gr_X14_18 F hB dX14_sleep_41 (inv_A hI37) (inv_r2 hI37) ?_
    refine lv_astore_n (lv' := [(2, .ref _), (0, .ref _), (1, .int _)]) hx hb dX14_sleep_44 rfl hl (by decide) rfl (fun ls hl => ?_)
    refine lv_aload_n hx hb dX14_sleep_45 rfl (lv_at hl 0 rfl) ?_
    refine sg_alen 9 hx hb F.2.1 hB.1 rfl dX14_sleep_46 (inv_tP hI37).1 ?_
    refine lv_istore_n (lv' := [(3, .int _), (2, .ref _), (0, .ref _), (1, .int _)]) hx hb dX14_sleep_47 rfl hl (by decide) rfl (fun ls hl => ?_)
    refine lv_iconst (v := 0) hx hb dX14_sleep_48 (by decide) ?_
    refine lv_istore (lv' := [(4, .int _), (3, .int _), (2, .ref _), (0, .ref _), (1, .int _)]) hx hb dX14_sleep_49 hl (by decide) rfl (fun ls hl => ?_)
    have key51 : ∃ (σ3 : SG) (i9 : Int32), sgB D cy s σ σ3 H locs N 0 ∧ lv_has ls 7 [(4, .int i9), (3, .int (nI (sgN σ (kP K)))), (2, .ref (kP K)), (1, .int x), (0, .ref (kA K))] ∧ Inv eda ia K g n S hw σ3 ∧ (0 ≤ i9.toInt ∧ i9.toInt ≤ 12) ∧ (sgI σ3 (kA K) 0 = 0 → 1 ≤ x.toInt ∧ x.toInt < n) := ⟨_, _, hB, (lv_sub hl [0, 1, 2, 4, 3] rfl), hI37, ⟨by decide, by decide⟩, by first | exact fun _ => hx5 | exact fun z => absurd (((by rw [sgI_PI, if_pos ⟨rfl, rfl⟩]) : sgI (sgPI σ (kA K) 0 _) (kA K) 0 = _).symm.trans z) (by decide)⟩
    clear hB hl
    obtain ⟨σ3, i9, hB, hl, hI3, hi, hth⟩ := key51
    obtain ⟨d51, hd51⟩ : ∃ d : Nat, d = 12 - i9.toInt.toNat := ⟨_, rfl⟩
    induction d51 using Nat.strongRecOn generalizing H locs ls N σ3 i9
    rename_i d51 ih51
    have hi1 := hi.1
    have hi2 := hi.2
    have hP3 := inv_tP hI3
    refine lv_iload hx hb dX14_sleep_51 (lv_at hl 0 rfl) ?_
    refine lv_iload_n hx hb dX14_sleep_53 rfl (lv_at hl 1 rfl) ?_
    refine lv_icmp_ge (tgt := 129) hx hb dX14_sleep_54 (by decide) (fun c54 => ?_) (fun c54 => ?_)
    · refine lv_iconst (v := 0) hx hb dX14_sleep_129 (by decide) ?_
      refine lv_istore_n (lv' := [(2, .int _), (4, .int _), (3, .int _), (1, .int _), (0, .ref _)]) hx hb dX14_sleep_130 rfl hl (by decide) rfl (fun ls hl => ?_)
      refine lv_iconst (v := 0) hx hb dX14_sleep_131 (by decide) ?_
      refine lv_istore_n (lv' := [(3, .int _), (2, .int _), (4, .int _), (1, .int _), (0, .ref _)]) hx hb dX14_sleep_132 rfl hl (by decide) rfl (fun ls hl => ?_)
      have key133 : ∃ (σ3 : SG) (k9 m9 : Int32), sgB D cy s σ σ3 H locs N 0 ∧ lv_has ls 7 [(3, .int k9), (2, .int m9), (1, .int x), (0, .ref (kA K))] ∧ Inv eda ia K g n S hw σ3 ∧ (0 ≤ k9.toInt ∧ k9.toInt ≤ n) ∧ (sgI σ3 (kA K) 0 = 0 → 1 ≤ x.toInt ∧ x.toInt < n) := ⟨σ3, _, _, hB, (lv_sub hl [0, 1, 3, 4] rfl), hI3, ⟨by decide, by rw [m_i0]; omega⟩, hth⟩
      clear hB hl
      obtain ⟨σ3, k9, m9, hB, hl, hI3, hi, hth⟩ := key133
      obtain ⟨d133, hd133⟩ : ∃ d : Nat, d = n - k9.toInt.toNat := ⟨_, rfl⟩
      induction d133 using Nat.strongRecOn generalizing H locs ls N σ3 k9 m9
      rename_i d133 ih133
      have hi1 := hi.1
      have hi2 := hi.2
      obtain ⟨y1, -⟩ := inv_sz hI3
      refine lv_iload_n hx hb dX14_sleep_133 rfl (lv_at hl 0 rfl) ?_
      refine lv_aload_n hx hb dX14_sleep_134 rfl (lv_at hl 3 rfl) ?_
      refine gr_X14_10 F hB dX14_sleep_135 (inv_A hI3) (inv_r1 hI3) ?_
      refine sg_callV (ci := 4) F hB (m_size l D cy (by exact (inv_tD hI3).1) _) (cwV 0 F.1.2.2.2.2 (mgV (mm_3 _ (List.mem_of_getElem? (i := 18) rfl)) (mm_3 _ (List.mem_of_getElem? (i := 19) rfl)) (mm_3 _ (List.mem_of_getElem? (i := 20) rfl)) (mm_0 _ (List.mem_of_getElem? (i := 35) rfl)) (mm_3 _ (List.mem_of_getElem? (i := 16) rfl))) rfl rfl rfl ⟨rfl, by decide, by decide, by decide +kernel⟩ ⟨Nat.le_of_ble_eq_true rfl, Nat.le_of_ble_eq_true rfl⟩) rfl rfl (by decide) rfl hl.1 rfl (Nat.le_of_ble_eq_true rfl) dX14_sleep_138 (Nat.le_of_ble_eq_true rfl) (Nat.add_le_add_right (Nat.le_of_ble_eq_true rfl) _) (inv_tD hI3).1 (fun H locs v σ138 N hBn hX138 hP => ?_)
      clear hB; have hB := hBn; clear hBn
      obtain ⟨rfl, rfl⟩ := hP
      refine lv_icmp_ge (tgt := 204) hx hb dX14_sleep_141 (by decide) (fun c141 => ?_) (fun c141 => ?_)
      · refine lv_iload_n hx hb dX14_sleep_204 rfl (lv_at hl 1 rfl) ?_
        exact sg_iret F hB hrt dX14_sleep_205 (by decide) (by decide) (⟨⟨_, rfl⟩, hI3⟩)
      · refine lv_aload_n hx hb dX14_sleep_144 rfl (lv_at hl 3 rfl) ?_
        refine gf_X14_61 F hB dX14_sleep_145 (inv_A hI3) ?_
        refine lv_if_ne (tgt := 204) hx hb dX14_sleep_148 (by decide) (fun c148 => ?_) (fun c148 => ?_)
        · refine lv_iload_n hx hb dX14_sleep_204 rfl (lv_at hl 1 rfl) ?_
          exact sg_iret F hB hrt dX14_sleep_205 (by decide) (by decide) (⟨⟨_, rfl⟩, hI3⟩)
        · have hi3 := i_nle c141
          refine lv_aload_n hx hb dX14_sleep_151 rfl (lv_at hl 3 rfl) ?_
          refine gr_X14_10 F hB dX14_sleep_152 (inv_A hI3) (inv_r1 hI3) ?_
          refine lv_iload_n hx hb dX14_sleep_155 rfl (lv_at hl 0 rfl) ?_
          refine sg_callV (ci := 4) F hB (m_getD l D cy hI3 k9 (by omega) (by omega) _) (cwV 1 F.1.2.2.2.2 (mgV (mm_4 _ (List.mem_of_getElem? (i := 3) rfl)) (mm_4 _ (List.mem_of_getElem? (i := 4) rfl)) (mm_4 _ (List.mem_of_getElem? (i := 5) rfl)) (mm_0 _ (List.mem_of_getElem? (i := 35) rfl)) (mm_3 _ (List.mem_of_getElem? (i := 34) rfl))) rfl rfl rfl ⟨rfl, by decide, by decide, by decide +kernel⟩ ⟨Nat.le_of_ble_eq_true rfl, Nat.le_of_ble_eq_true rfl⟩) rfl rfl (by decide) rfl hl.1 rfl (Nat.le_of_ble_eq_true rfl) dX14_sleep_156 (Nat.le_of_ble_eq_true rfl) (Nat.add_le_add_right (Nat.le_of_ble_eq_true rfl) _) (inv_tD hI3).1 (fun H locs v σ156 N hBn hX156 hP => ?_)
          clear hB; have hB := hBn; clear hBn
          obtain ⟨rfl, rfl⟩ := hP
          have dv156 := (inv_dv hI3 (k := (k9 : Int32).toInt.toNat) (by omega)).2.1
          refine va_castY hx hb hown (F.1.2.2.2.2 _ (List.mem_cons_of_mem _ (mm_4 _ (List.mem_of_getElem? (i := 2) rfl)))) (F.2.2.1.2.2 ("HubcascadeModel$Device", "HubcascadeModel$Device") (by decide +kernel)) (sg_recv (ci := 15) F.2.1 hB (by assumption) (by decide) rfl) dX14_sleep_159 ?_
          refine gf_X14_53 F hB dX14_sleep_162 (by assumption) ?_
          refine lv_bipush (v := 99) hx hb dX14_sleep_165 (by decide) ?_
          refine lv_icmp_ne (tgt := 198) hx hb dX14_sleep_167 (by decide) (fun c167 => ?_) (fun c167 => ?_)
          · refine lv_iinc (lv' := [(3, .int _), (2, .int _), (1, .int _), (0, .ref _)]) hx hb dX14_sleep_198 hl (k := 0) rfl rfl (by decide) rfl (fun ls hl => ?_)
            refine lv_goto (tgt := 133) hx hb dX14_sleep_201 (by decide) ?_
            have hi3 := i_nle c141
            have e9 : (k9 + Int32.ofInt 1).toInt = k9.toInt + 1 := m_add1 (by omega) (by omega)
            exact ih133 _ (by subst hd133; rw [e9]; omega) _ _ _ _ _ _ _ hB (lv_sub hl [0, 1, 2, 3] rfl) hI3 ⟨by rw [e9]; omega, by rw [e9]; omega⟩ (by first | exact hth | (rw [sgI_nk (by decide)]; exact hth)) rfl
          · have hx6 := hth c148
            refine lv_aload_n hx hb dX14_sleep_170 rfl (lv_at hl 3 rfl) ?_
            refine lv_iload_n hx hb dX14_sleep_171 rfl (lv_at hl 0 rfl) ?_
            refine lv_iload_n hx hb dX14_sleep_172 rfl (lv_at hl 2 rfl) ?_
            refine sg_callV (ci := 19) F hB (m_isBelow l D cy hI3 k9 (by omega) (by omega) x (by omega) _) (cwV 2 F.1.2.2.2.2 (mgV (mm_5 _ (List.mem_of_getElem? (i := 38) rfl)) (mm_5 _ (List.mem_of_getElem? (i := 39) rfl)) (mm_6 _ (List.mem_of_getElem? (i := 0) rfl)) (mm_3 _ (List.mem_of_getElem? (i := 23) rfl)) (mm_4 _ (List.mem_of_getElem? (i := 7) rfl))) rfl rfl rfl ⟨rfl, by decide, by decide, by decide +kernel⟩ ⟨Nat.le_of_ble_eq_true rfl, Nat.le_of_ble_eq_true rfl⟩) rfl rfl (by decide) rfl hl.1 rfl (Nat.le_of_ble_eq_true rfl) dX14_sleep_173 (Nat.le_of_ble_eq_true rfl) (Nat.add_le_add_right (Nat.le_of_ble_eq_true rfl) _) (inv_A hI3) (fun H locs v σ173 N hBn hX173 hP => ?_)
            clear hB; have hB := hBn; clear hBn
            obtain ⟨b173, rfl, rfl, hb173⟩ := hP
            refine lv_if_eq (tgt := 198) hx hb dX14_sleep_176 (by decide) (fun c176 => ?_) (fun c176 => ?_)
            · refine lv_iinc (lv' := [(3, .int _), (2, .int _), (1, .int _), (0, .ref _)]) hx hb dX14_sleep_198 hl (k := 0) rfl rfl (by decide) rfl (fun ls hl => ?_)
              refine lv_goto (tgt := 133) hx hb dX14_sleep_201 (by decide) ?_
              have hi3 := i_nle c141
              have e9 : (k9 + Int32.ofInt 1).toInt = k9.toInt + 1 := m_add1 (by omega) (by omega)
              exact ih133 _ (by subst hd133; rw [e9]; omega) _ _ _ _ _ _ _ hB (lv_sub hl [0, 1, 2, 3] rfl) hI3 ⟨by rw [e9]; omega, by rw [e9]; omega⟩ (by first | exact hth | (rw [sgI_nk (by decide)]; exact hth)) rfl
            · refine lv_aload_n hx hb dX14_sleep_179 rfl (lv_at hl 3 rfl) ?_
              refine gr_X14_10 F hB dX14_sleep_180 (inv_A hI3) (inv_r1 hI3) ?_
              refine lv_iload_n hx hb dX14_sleep_183 rfl (lv_at hl 0 rfl) ?_
              refine sg_callV (ci := 4) F hB (m_getD l D cy hI3 k9 (by omega) (by omega) _) (cwV 1 F.1.2.2.2.2 (mgV (mm_4 _ (List.mem_of_getElem? (i := 3) rfl)) (mm_4 _ (List.mem_of_getElem? (i := 4) rfl)) (mm_4 _ (List.mem_of_getElem? (i := 5) rfl)) (mm_0 _ (List.mem_of_getElem? (i := 35) rfl)) (mm_3 _ (List.mem_of_getElem? (i := 34) rfl))) rfl rfl rfl ⟨rfl, by decide, by decide, by decide +kernel⟩ ⟨Nat.le_of_ble_eq_true rfl, Nat.le_of_ble_eq_true rfl⟩) rfl rfl (by decide) rfl hl.1 rfl (Nat.le_of_ble_eq_true rfl) dX14_sleep_184 (Nat.le_of_ble_eq_true rfl) (Nat.add_le_add_right (Nat.le_of_ble_eq_true rfl) _) (inv_tD hI3).1 (fun H locs v σ184 N hBn hX184 hP => ?_)
              clear hB; have hB := hBn; clear hBn
              obtain ⟨rfl, rfl⟩ := hP
              have dv184 := (inv_dv hI3 (k := (k9 : Int32).toInt.toNat) (by omega)).2.1
              refine va_castY hx hb hown (F.1.2.2.2.2 _ (List.mem_cons_of_mem _ (mm_4 _ (List.mem_of_getElem? (i := 2) rfl)))) (F.2.2.1.2.2 ("HubcascadeModel$Device", "HubcascadeModel$Device") (by decide +kernel)) (sg_recv (ci := 15) F.2.1 hB (by assumption) (by decide) rfl) dX14_sleep_187 ?_
              refine lv_bipush (v := 122) hx hb dX14_sleep_190 (by decide) ?_
              refine pf_X14_53 F hB dX14_sleep_192 dv184 ⟨by decide, by decide⟩ (fun H locs hBn => ?_)
              clear hB; have hB := hBn; clear hBn
              have hk1 : 1 ≤ k9.toInt := by
                by_cases q : k9.toInt = 0
                · have qb := sgb_t hb173 c176
                  rw [q] at qb
                  exact absurd qb (iBw_host hI3 hx6.1)
                · omega
              have hI192 := inv_st (v := 122) hI3 (k := k9.toInt.toNat) (by omega) (by omega) (by decide) (fun z => by have q9 : iSt g σ3 k9.toInt.toNat = 99 := c167; rw [q9] at z; exact absurd z (by decide))
              refine lv_iinc (lv' := [(2, .int _), (3, .int _), (1, .int _), (0, .ref _)]) hx hb dX14_sleep_195 hl (k := 1) rfl rfl (by decide) rfl (fun ls hl => ?_)
              refine lv_iinc (lv' := [(3, .int _), (2, .int _), (1, .int _), (0, .ref _)]) hx hb dX14_sleep_198 hl (k := 1) rfl rfl (by decide) rfl (fun ls hl => ?_)
              refine lv_goto (tgt := 133) hx hb dX14_sleep_201 (by decide) ?_
              have hi3 := i_nle c141
              have e9 : (k9 + Int32.ofInt 1).toInt = k9.toInt + 1 := m_add1 (by omega) (by omega)
              exact ih133 _ (by subst hd133; rw [e9]; omega) _ _ _ _ _ _ _ hB (lv_sub hl [0, 1, 2, 3] rfl) hI192 ⟨by rw [e9]; omega, by rw [e9]; omega⟩ (by first | exact hth | (rw [sgI_nk (by decide)]; exact hth)) rfl
    · have hi3 := i_nle c54
      refine lv_aload_n hx hb dX14_sleep_57 rfl (lv_at hl 2 rfl) ?_
      refine lv_iload hx hb dX14_sleep_58 (lv_at hl 0 rfl) ?_
      refine sg_aald 9 hx hb F.2.1 hB.1 rfl rfl dX14_sleep_60 hP3.1 (by omega) (m_ltN (n := 12) hP3.2 (by omega)) (m_ltM hP3.2 (by decide)) ?_
      refine sg_split (fun hz60 => ?_) (fun b60 hz60 => ?_)
      · skip
        refine lv_astoreN (lv' := [(5, .null), (4, .int _), (3, .int _), (2, .ref _), (1, .int _), (0, .ref _)]) hx hb dX14_sleep_61 hl (by decide) rfl (fun ls hl => ?_)
        refine lv_aload_n hx hb dX14_sleep_63 rfl (lv_at hl 5 rfl) ?_
        refine gf_X14_61 F hB dX14_sleep_64 (inv_A hI3) ?_
        refine lv_if_ne (tgt := 103) hx hb dX14_sleep_67 (by decide) (fun c67 => ?_) (fun c67 => ?_)
        · refine lv_iconst (v := 0) hx hb dX14_sleep_103 (by decide) ?_
          refine lv_istore (lv' := [(6, .int _), (5, .null), (4, .int _), (3, .int _), (2, .ref _), (1, .int _), (0, .ref _)]) hx hb dX14_sleep_104 hl (by decide) rfl (fun ls hl => ?_)
          refine lv_aload_n hx hb dX14_sleep_106 rfl (lv_at hl 6 rfl) ?_
          refine lv_iload hx hb dX14_sleep_107 (lv_at hl 0 rfl) ?_
          refine lv_if_eq (tgt := 116) hx hb dX14_sleep_109 (by decide) (fun c109 => ?_) (fun c109 => (by first | exact absurd c109 (by decide) | exact (c109 (by decide)).elim))
          refine lv_aload_n hx hb dX14_sleep_116 rfl (lv_at hl 6 rfl) ?_
          refine gf_X14_61 F hB dX14_sleep_117 (inv_A hI3) ?_
          refine pf_X14_61 F hB dX14_sleep_120 (inv_A hI3) (fun H locs hBn => ?_)
          clear hB; have hB := hBn; clear hBn
          have hI120 := inv_PIc (t := 20) hB hI3 (inv_A hI3) (by unfold iCn; omega)
          refine lv_iinc (lv' := [(4, .int _), (6, .int _), (5, .null), (3, .int _), (2, .ref _), (1, .int _), (0, .ref _)]) hx hb dX14_sleep_123 hl (k := 2) rfl rfl (by decide) rfl (fun ls hl => ?_)
          refine lv_goto (tgt := 51) hx hb dX14_sleep_126 (by decide) ?_
          have hi3 := i_nle c54
          have e9 : (i9 + Int32.ofInt 1).toInt = i9.toInt + 1 := m_add1 (by omega) (by omega)
          exact ih51 _ (by subst hd51; rw [e9]; omega) _ _ _ _ _ _ hB (lv_sub hl [0, 3, 4, 5, 6] rfl) hI120 ⟨by rw [e9]; omega, by rw [e9]; omega⟩ (fun z => by rw [sgI_PI, if_pos ⟨rfl, rfl⟩] at z; first | exact hth z | exact absurd z (by decide)) rfl
        · refine lv_aloadN hx hb dX14_sleep_70 (lv_at hl 0 rfl) ?_
          refine lv_ifnullN (tgt := 103) hx hb dX14_sleep_72 (by decide) ?_
          refine lv_iconst (v := 0) hx hb dX14_sleep_103 (by decide) ?_
          refine lv_istore (lv' := [(6, .int _), (5, .null), (4, .int _), (3, .int _), (2, .ref _), (1, .int _), (0, .ref _)]) hx hb dX14_sleep_104 hl (by decide) rfl (fun ls hl => ?_)
          refine lv_aload_n hx hb dX14_sleep_106 rfl (lv_at hl 6 rfl) ?_
          refine lv_iload hx hb dX14_sleep_107 (lv_at hl 0 rfl) ?_
          refine lv_if_eq (tgt := 116) hx hb dX14_sleep_109 (by decide) (fun c109 => ?_) (fun c109 => (by first | exact absurd c109 (by decide) | exact (c109 (by decide)).elim))
          refine lv_aload_n hx hb dX14_sleep_116 rfl (lv_at hl 6 rfl) ?_
          refine gf_X14_61 F hB dX14_sleep_117 (inv_A hI3) ?_
          refine pf_X14_61 F hB dX14_sleep_120 (inv_A hI3) (fun H locs hBn => ?_)
          clear hB; have hB := hBn; clear hBn
          have hI120 := inv_PIc (t := 20) hB hI3 (inv_A hI3) (by unfold iCn; omega)
          refine lv_iinc (lv' := [(4, .int _), (6, .int _), (5, .null), (3, .int _), (2, .ref _), (1, .int _), (0, .ref _)]) hx hb dX14_sleep_123 hl (k := 2) rfl rfl (by decide) rfl (fun ls hl => ?_)
          refine lv_goto (tgt := 51) hx hb dX14_sleep_126 (by decide) ?_
          have hi3 := i_nle c54
          have e9 : (i9 + Int32.ofInt 1).toInt = i9.toInt + 1 := m_add1 (by omega) (by omega)
          exact ih51 _ (by subst hd51; rw [e9]; omega) _ _ _ _ _ _ hB (lv_sub hl [0, 3, 4, 5, 6] rfl) hI120 ⟨by rw [e9]; omega, by rw [e9]; omega⟩ (fun z => by rw [sgI_PI, if_pos ⟨rfl, rfl⟩] at z; first | exact hth z | exact absurd z (by decide)) rfl
      · skip
        have tp := inv_pp hI3 (j := i9.toInt.toNat) (by omega) hz60
        obtain ⟨l2, q1, q2, q3, q4, q5, q6⟩ := inv_pl hI3 tp
        obtain ⟨e2, x2, ⟨pn1, pn2, pn3, pn4, -⟩, -⟩ := inv_pe hI3 tp
        refine lv_astore (lv' := [(5, .ref _), (4, .int _), (3, .int _), (2, .ref _), (1, .int _), (0, .ref _)]) hx hb dX14_sleep_61 hl (by decide) rfl (fun ls hl => ?_)
        refine lv_aload_n hx hb dX14_sleep_63 rfl (lv_at hl 5 rfl) ?_
        refine gf_X14_61 F hB dX14_sleep_64 (inv_A hI3) ?_
        refine lv_if_ne (tgt := 103) hx hb dX14_sleep_67 (by decide) (fun c67 => ?_) (fun c67 => ?_)
        · refine lv_iconst (v := 0) hx hb dX14_sleep_103 (by decide) ?_
          refine lv_istore (lv' := [(6, .int _), (5, .ref _), (4, .int _), (3, .int _), (2, .ref _), (1, .int _), (0, .ref _)]) hx hb dX14_sleep_104 hl (by decide) rfl (fun ls hl => ?_)
          refine lv_aload_n hx hb dX14_sleep_106 rfl (lv_at hl 6 rfl) ?_
          refine lv_iload hx hb dX14_sleep_107 (lv_at hl 0 rfl) ?_
          refine lv_if_eq (tgt := 116) hx hb dX14_sleep_109 (by decide) (fun c109 => ?_) (fun c109 => (by first | exact absurd c109 (by decide) | exact (c109 (by decide)).elim))
          refine lv_aload_n hx hb dX14_sleep_116 rfl (lv_at hl 6 rfl) ?_
          refine gf_X14_61 F hB dX14_sleep_117 (inv_A hI3) ?_
          refine pf_X14_61 F hB dX14_sleep_120 (inv_A hI3) (fun H locs hBn => ?_)
          clear hB; have hB := hBn; clear hBn
          have hI120 := inv_PIc (t := 20) hB hI3 (inv_A hI3) (by unfold iCn; omega)
          refine lv_iinc (lv' := [(4, .int _), (6, .int _), (5, .ref _), (3, .int _), (2, .ref _), (1, .int _), (0, .ref _)]) hx hb dX14_sleep_123 hl (k := 2) rfl rfl (by decide) rfl (fun ls hl => ?_)
          refine lv_goto (tgt := 51) hx hb dX14_sleep_126 (by decide) ?_
          have hi3 := i_nle c54
          have e9 : (i9 + Int32.ofInt 1).toInt = i9.toInt + 1 := m_add1 (by omega) (by omega)
          exact ih51 _ (by subst hd51; rw [e9]; omega) _ _ _ _ _ _ hB (lv_sub hl [0, 3, 4, 5, 6] rfl) hI120 ⟨by rw [e9]; omega, by rw [e9]; omega⟩ (fun z => by rw [sgI_PI, if_pos ⟨rfl, rfl⟩] at z; first | exact hth z | exact absurd z (by decide)) rfl
        · refine lv_aload hx hb dX14_sleep_70 (lv_at hl 0 rfl) ?_
          refine lv_ifnull hx hb dX14_sleep_72 ?_
          refine lv_aload hx hb dX14_sleep_75 (lv_at hl 0 rfl) ?_
          refine gr_X14_199 F hB dX14_sleep_77 tp q1 ?_
          refine sg_callV (ci := 4) F hB (m_isEmpty l D cy q2 _) (cwV 0 F.1.2.2.2.2 (mgV (mm_7 _ (List.mem_of_getElem? (i := 8) rfl)) (mm_7 _ (List.mem_of_getElem? (i := 9) rfl)) (mm_7 _ (List.mem_of_getElem? (i := 10) rfl)) (mm_0 _ (List.mem_of_getElem? (i := 35) rfl)) (mm_7 _ (List.mem_of_getElem? (i := 7) rfl))) rfl rfl rfl ⟨rfl, by decide, by decide, by decide +kernel⟩ ⟨Nat.le_of_ble_eq_true rfl, Nat.le_of_ble_eq_true rfl⟩) rfl rfl (by decide) rfl hl.1 rfl (Nat.le_of_ble_eq_true rfl) dX14_sleep_80 (Nat.le_of_ble_eq_true rfl) (Nat.add_le_add_right (Nat.le_of_ble_eq_true rfl) _) q2 (fun H locs v σ80 N hBn hX80 hP => ?_)
          clear hB; have hB := hBn; clear hBn
          obtain ⟨b80, rfl, rfl, hb80⟩ := hP
          refine lv_if_ne (tgt := 103) hx hb dX14_sleep_83 (by decide) (fun c83 => ?_) (fun c83 => ?_)
          · refine lv_iconst (v := 0) hx hb dX14_sleep_103 (by decide) ?_
            refine lv_istore (lv' := [(6, .int _), (5, .ref _), (4, .int _), (3, .int _), (2, .ref _), (1, .int _), (0, .ref _)]) hx hb dX14_sleep_104 hl (by decide) rfl (fun ls hl => ?_)
            refine lv_aload_n hx hb dX14_sleep_106 rfl (lv_at hl 6 rfl) ?_
            refine lv_iload hx hb dX14_sleep_107 (lv_at hl 0 rfl) ?_
            refine lv_if_eq (tgt := 116) hx hb dX14_sleep_109 (by decide) (fun c109 => ?_) (fun c109 => (by first | exact absurd c109 (by decide) | exact (c109 (by decide)).elim))
            refine lv_aload_n hx hb dX14_sleep_116 rfl (lv_at hl 6 rfl) ?_
            refine gf_X14_61 F hB dX14_sleep_117 (inv_A hI3) ?_
            refine pf_X14_61 F hB dX14_sleep_120 (inv_A hI3) (fun H locs hBn => ?_)
            clear hB; have hB := hBn; clear hBn
            have hI120 := inv_PIc (t := 20) hB hI3 (inv_A hI3) (by unfold iCn; omega)
            refine lv_iinc (lv' := [(4, .int _), (6, .int _), (5, .ref _), (3, .int _), (2, .ref _), (1, .int _), (0, .ref _)]) hx hb dX14_sleep_123 hl (k := 2) rfl rfl (by decide) rfl (fun ls hl => ?_)
            refine lv_goto (tgt := 51) hx hb dX14_sleep_126 (by decide) ?_
            have hi3 := i_nle c54
            have e9 : (i9 + Int32.ofInt 1).toInt = i9.toInt + 1 := m_add1 (by omega) (by omega)
            exact ih51 _ (by subst hd51; rw [e9]; omega) _ _ _ _ _ _ hB (lv_sub hl [0, 3, 4, 5, 6] rfl) hI120 ⟨by rw [e9]; omega, by rw [e9]; omega⟩ (fun z => by rw [sgI_PI, if_pos ⟨rfl, rfl⟩] at z; first | exact hth z | exact absurd z (by decide)) rfl
          · have hx6 := hth c67
            refine lv_aload_n hx hb dX14_sleep_86 rfl (lv_at hl 5 rfl) ?_
            refine lv_aload hx hb dX14_sleep_87 (lv_at hl 0 rfl) ?_
            refine gf_X14_133 F hB dX14_sleep_89 tp ?_
            refine lv_iload_n hx hb dX14_sleep_92 rfl (lv_at hl 4 rfl) ?_
            refine sg_callV (ci := 19) F hB (m_isBelow l D cy hI3 _ (by omega) (by omega) x (by omega) _) (cwV 2 F.1.2.2.2.2 (mgV (mm_5 _ (List.mem_of_getElem? (i := 38) rfl)) (mm_5 _ (List.mem_of_getElem? (i := 39) rfl)) (mm_6 _ (List.mem_of_getElem? (i := 0) rfl)) (mm_3 _ (List.mem_of_getElem? (i := 23) rfl)) (mm_4 _ (List.mem_of_getElem? (i := 7) rfl))) rfl rfl rfl ⟨rfl, by decide, by decide, by decide +kernel⟩ ⟨Nat.le_of_ble_eq_true rfl, Nat.le_of_ble_eq_true rfl⟩) rfl rfl (by decide) rfl hl.1 rfl (Nat.le_of_ble_eq_true rfl) dX14_sleep_93 (Nat.le_of_ble_eq_true rfl) (Nat.add_le_add_right (Nat.le_of_ble_eq_true rfl) _) (inv_A hI3) (fun H locs v σ93 N hBn hX93 hP => ?_)
            clear hB; have hB := hBn; clear hBn
            obtain ⟨b93, rfl, rfl, hb93⟩ := hP
            refine lv_if_eq (tgt := 103) hx hb dX14_sleep_96 (by decide) (fun c96 => ?_) (fun c96 => ?_)
            · refine lv_iconst (v := 0) hx hb dX14_sleep_103 (by decide) ?_
              refine lv_istore (lv' := [(6, .int _), (5, .ref _), (4, .int _), (3, .int _), (2, .ref _), (1, .int _), (0, .ref _)]) hx hb dX14_sleep_104 hl (by decide) rfl (fun ls hl => ?_)
              refine lv_aload_n hx hb dX14_sleep_106 rfl (lv_at hl 6 rfl) ?_
              refine lv_iload hx hb dX14_sleep_107 (lv_at hl 0 rfl) ?_
              refine lv_if_eq (tgt := 116) hx hb dX14_sleep_109 (by decide) (fun c109 => ?_) (fun c109 => (by first | exact absurd c109 (by decide) | exact (c109 (by decide)).elim))
              refine lv_aload_n hx hb dX14_sleep_116 rfl (lv_at hl 6 rfl) ?_
              refine gf_X14_61 F hB dX14_sleep_117 (inv_A hI3) ?_
              refine pf_X14_61 F hB dX14_sleep_120 (inv_A hI3) (fun H locs hBn => ?_)
              clear hB; have hB := hBn; clear hBn
              have hI120 := inv_PIc (t := 20) hB hI3 (inv_A hI3) (by unfold iCn; omega)
              refine lv_iinc (lv' := [(4, .int _), (6, .int _), (5, .ref _), (3, .int _), (2, .ref _), (1, .int _), (0, .ref _)]) hx hb dX14_sleep_123 hl (k := 2) rfl rfl (by decide) rfl (fun ls hl => ?_)
              refine lv_goto (tgt := 51) hx hb dX14_sleep_126 (by decide) ?_
              have hi3 := i_nle c54
              have e9 : (i9 + Int32.ofInt 1).toInt = i9.toInt + 1 := m_add1 (by omega) (by omega)
              exact ih51 _ (by subst hd51; rw [e9]; omega) _ _ _ _ _ _ hB (lv_sub hl [0, 3, 4, 5, 6] rfl) hI120 ⟨by rw [e9]; omega, by rw [e9]; omega⟩ (fun z => by rw [sgI_PI, if_pos ⟨rfl, rfl⟩] at z; first | exact hth z | exact absurd z (by decide)) rfl
            · refine lv_iconst (v := 1) hx hb dX14_sleep_99 (by decide) ?_
              refine lv_goto (tgt := 104) hx hb dX14_sleep_100 (by decide) ?_
              refine lv_istore (lv' := [(6, .int _), (5, .ref _), (4, .int _), (3, .int _), (2, .ref _), (1, .int _), (0, .ref _)]) hx hb dX14_sleep_104 hl (by decide) rfl (fun ls hl => ?_)
              refine lv_aload_n hx hb dX14_sleep_106 rfl (lv_at hl 6 rfl) ?_
              refine lv_iload hx hb dX14_sleep_107 (lv_at hl 0 rfl) ?_
              refine lv_if_eq (tgt := 116) hx hb dX14_sleep_109 (by decide) (fun c109 => (by first | exact absurd c109 (by decide) | exact (c109 (by decide)).elim)) (fun c109 => ?_)
              refine lv_iconst (v := 2) hx hb dX14_sleep_112 (by decide) ?_
              refine lv_goto (tgt := 120) hx hb dX14_sleep_113 (by decide) ?_
              refine pf_X14_61 F hB dX14_sleep_120 (inv_A hI3) (fun H locs hBn => ?_)
              clear hB; have hB := hBn; clear hBn
              have hI120 := inv_PIc (t := 20) hB hI3 (inv_A hI3) (by unfold iCn; omega)
              refine lv_iinc (lv' := [(4, .int _), (6, .int _), (5, .ref _), (3, .int _), (2, .ref _), (1, .int _), (0, .ref _)]) hx hb dX14_sleep_123 hl (k := 2) rfl rfl (by decide) rfl (fun ls hl => ?_)
              refine lv_goto (tgt := 51) hx hb dX14_sleep_126 (by decide) ?_
              have hi3 := i_nle c54
              have e9 : (i9 + Int32.ofInt 1).toInt = i9.toInt + 1 := m_add1 (by omega) (by omega)
              exact ih51 _ (by subst hd51; rw [e9]; omega) _ _ _ _ _ _ hB (lv_sub hl [0, 3, 4, 5, 6] rfl) hI120 ⟨by rw [e9]; omega, by rw [e9]; omega⟩ (fun z => by rw [sgI_PI, if_pos ⟨rfl, rfl⟩] at z; first | exact hth z | exact absurd z (by decide)) rfl
theorem dX14_wake_0 : decode cX14_wake 0 = .ok (.aload_n 0, 1) := by decide +kernel
theorem dX14_wake_1 : decode cX14_wake 1 = .ok (.iload_n 1, 1) := by decide +kernel
theorem dX14_wake_2 : decode cX14_wake 2 = .ok (.invokevirtual 90, 3) := by decide +kernel
theorem dX14_wake_5 : decode cX14_wake 5 = .ok (.ifCond .eq 5, 3) := by decide +kernel
theorem dX14_wake_8 : decode cX14_wake 8 = .ok (.iconst 0, 1) := by decide +kernel
theorem dX14_wake_9 : decode cX14_wake 9 = .ok (.ireturn, 1) := by decide +kernel
theorem dX14_wake_10 : decode cX14_wake 10 = .ok (.aload_n 0, 1) := by decide +kernel
theorem dX14_wake_11 : decode cX14_wake 11 = .ok (.aload_n 0, 1) := by decide +kernel
theorem dX14_wake_12 : decode cX14_wake 12 = .ok (.getfield 10, 3) := by decide +kernel
theorem dX14_wake_15 : decode cX14_wake 15 = .ok (.iload_n 1, 1) := by decide +kernel
theorem dX14_wake_16 : decode cX14_wake 16 = .ok (.invokevirtual 76, 3) := by decide +kernel
theorem dX14_wake_19 : decode cX14_wake 19 = .ok (.checkcast 48, 3) := by decide +kernel
theorem dX14_wake_22 : decode cX14_wake 22 = .ok (.getfield 53, 3) := by decide +kernel
theorem dX14_wake_25 : decode cX14_wake 25 = .ok (.bipush 122, 2) := by decide +kernel
theorem dX14_wake_27 : decode cX14_wake 27 = .ok (.if_icmp .ne 7, 3) := by decide +kernel
theorem dX14_wake_30 : decode cX14_wake 30 = .ok (.iconst 0, 1) := by decide +kernel
theorem dX14_wake_31 : decode cX14_wake 31 = .ok (.goto 4, 3) := by decide +kernel
theorem dX14_wake_34 : decode cX14_wake 34 = .ok (.iconst 2, 1) := by decide +kernel
theorem dX14_wake_35 : decode cX14_wake 35 = .ok (.putfield 61, 3) := by decide +kernel
theorem dX14_wake_38 : decode cX14_wake 38 = .ok (.iconst 0, 1) := by decide +kernel
theorem dX14_wake_39 : decode cX14_wake 39 = .ok (.istore_n 2, 1) := by decide +kernel
theorem dX14_wake_40 : decode cX14_wake 40 = .ok (.iload_n 1, 1) := by decide +kernel
theorem dX14_wake_41 : decode cX14_wake 41 = .ok (.istore_n 3, 1) := by decide +kernel
theorem dX14_wake_42 : decode cX14_wake 42 = .ok (.iload_n 3, 1) := by decide +kernel
theorem dX14_wake_43 : decode cX14_wake 43 = .ok (.iconst (-1), 1) := by decide +kernel
theorem dX14_wake_44 : decode cX14_wake 44 = .ok (.if_icmp .eq 55, 3) := by decide +kernel
theorem dX14_wake_47 : decode cX14_wake 47 = .ok (.aload_n 0, 1) := by decide +kernel
theorem dX14_wake_48 : decode cX14_wake 48 = .ok (.getfield 61, 3) := by decide +kernel
theorem dX14_wake_51 : decode cX14_wake 51 = .ok (.ifCond .ne 48, 3) := by decide +kernel
theorem dX14_wake_54 : decode cX14_wake 54 = .ok (.iload_n 2, 1) := by decide +kernel
theorem dX14_wake_55 : decode cX14_wake 55 = .ok (.aload_n 0, 1) := by decide +kernel
theorem dX14_wake_56 : decode cX14_wake 56 = .ok (.getfield 10, 3) := by decide +kernel
theorem dX14_wake_59 : decode cX14_wake 59 = .ok (.iload_n 3, 1) := by decide +kernel
theorem dX14_wake_60 : decode cX14_wake 60 = .ok (.invokevirtual 76, 3) := by decide +kernel
theorem dX14_wake_63 : decode cX14_wake 63 = .ok (.checkcast 48, 3) := by decide +kernel
theorem dX14_wake_66 : decode cX14_wake 66 = .ok (.getfield 53, 3) := by decide +kernel
theorem dX14_wake_69 : decode cX14_wake 69 = .ok (.bipush 122, 2) := by decide +kernel
theorem dX14_wake_71 : decode cX14_wake 71 = .ok (.if_icmp .ne 7, 3) := by decide +kernel
theorem dX14_wake_74 : decode cX14_wake 74 = .ok (.iconst 1, 1) := by decide +kernel
theorem dX14_wake_75 : decode cX14_wake 75 = .ok (.goto 4, 3) := by decide +kernel
theorem dX14_wake_78 : decode cX14_wake 78 = .ok (.iconst 0, 1) := by decide +kernel
theorem dX14_wake_79 : decode cX14_wake 79 = .ok (.iadd, 1) := by decide +kernel
theorem dX14_wake_80 : decode cX14_wake 80 = .ok (.istore_n 2, 1) := by decide +kernel
theorem dX14_wake_81 : decode cX14_wake 81 = .ok (.aload_n 0, 1) := by decide +kernel
theorem dX14_wake_82 : decode cX14_wake 82 = .ok (.getfield 10, 3) := by decide +kernel
theorem dX14_wake_85 : decode cX14_wake 85 = .ok (.iload_n 3, 1) := by decide +kernel
theorem dX14_wake_86 : decode cX14_wake 86 = .ok (.invokevirtual 76, 3) := by decide +kernel
theorem dX14_wake_89 : decode cX14_wake 89 = .ok (.checkcast 48, 3) := by decide +kernel
theorem dX14_wake_92 : decode cX14_wake 92 = .ok (.getfield 80, 3) := by decide +kernel
theorem dX14_wake_95 : decode cX14_wake 95 = .ok (.istore_n 3, 1) := by decide +kernel
theorem dX14_wake_96 : decode cX14_wake 96 = .ok (.goto (-54), 3) := by decide +kernel
theorem dX14_wake_99 : decode cX14_wake 99 = .ok (.iload_n 1, 1) := by decide +kernel
theorem dX14_wake_100 : decode cX14_wake 100 = .ok (.istore_n 3, 1) := by decide +kernel
theorem dX14_wake_101 : decode cX14_wake 101 = .ok (.iload_n 3, 1) := by decide +kernel
theorem dX14_wake_102 : decode cX14_wake 102 = .ok (.iconst (-1), 1) := by decide +kernel
theorem dX14_wake_103 : decode cX14_wake 103 = .ok (.if_icmp .eq 83, 3) := by decide +kernel
theorem dX14_wake_106 : decode cX14_wake 106 = .ok (.aload_n 0, 1) := by decide +kernel
theorem dX14_wake_107 : decode cX14_wake 107 = .ok (.getfield 61, 3) := by decide +kernel
theorem dX14_wake_110 : decode cX14_wake 110 = .ok (.ifCond .ne 76, 3) := by decide +kernel
theorem dX14_wake_113 : decode cX14_wake 113 = .ok (.aload_n 0, 1) := by decide +kernel
theorem dX14_wake_114 : decode cX14_wake 114 = .ok (.getfield 10, 3) := by decide +kernel
theorem dX14_wake_117 : decode cX14_wake 117 = .ok (.iload_n 3, 1) := by decide +kernel
theorem dX14_wake_118 : decode cX14_wake 118 = .ok (.invokevirtual 76, 3) := by decide +kernel
theorem dX14_wake_121 : decode cX14_wake 121 = .ok (.checkcast 48, 3) := by decide +kernel
theorem dX14_wake_124 : decode cX14_wake 124 = .ok (.getfield 53, 3) := by decide +kernel
theorem dX14_wake_127 : decode cX14_wake 127 = .ok (.bipush 122, 2) := by decide +kernel
theorem dX14_wake_129 : decode cX14_wake 129 = .ok (.if_icmp .ne 39, 3) := by decide +kernel
theorem dX14_wake_132 : decode cX14_wake 132 = .ok (.aload_n 0, 1) := by decide +kernel
theorem dX14_wake_133 : decode cX14_wake 133 = .ok (.getfield 10, 3) := by decide +kernel
theorem dX14_wake_136 : decode cX14_wake 136 = .ok (.iload_n 3, 1) := by decide +kernel
theorem dX14_wake_137 : decode cX14_wake 137 = .ok (.invokevirtual 76, 3) := by decide +kernel
theorem dX14_wake_140 : decode cX14_wake 140 = .ok (.checkcast 48, 3) := by decide +kernel
theorem dX14_wake_143 : decode cX14_wake 143 = .ok (.bipush 99, 2) := by decide +kernel
theorem dX14_wake_145 : decode cX14_wake 145 = .ok (.putfield 53, 3) := by decide +kernel
theorem dX14_wake_148 : decode cX14_wake 148 = .ok (.aload_n 0, 1) := by decide +kernel
theorem dX14_wake_149 : decode cX14_wake 149 = .ok (.getfield 10, 3) := by decide +kernel
theorem dX14_wake_152 : decode cX14_wake 152 = .ok (.iload_n 3, 1) := by decide +kernel
theorem dX14_wake_153 : decode cX14_wake 153 = .ok (.invokevirtual 76, 3) := by decide +kernel
theorem dX14_wake_156 : decode cX14_wake 156 = .ok (.checkcast 48, 3) := by decide +kernel
theorem dX14_wake_159 : decode cX14_wake 159 = .ok (.aload_n 0, 1) := by decide +kernel
theorem dX14_wake_160 : decode cX14_wake 160 = .ok (.getfield 205, 3) := by decide +kernel
theorem dX14_wake_163 : decode cX14_wake 163 = .ok (.iload_n 2, 1) := by decide +kernel
theorem dX14_wake_164 : decode cX14_wake 164 = .ok (.iadd, 1) := by decide +kernel
theorem dX14_wake_165 : decode cX14_wake 165 = .ok (.putfield 146, 3) := by decide +kernel
theorem dX14_wake_168 : decode cX14_wake 168 = .ok (.aload_n 0, 1) := by decide +kernel
theorem dX14_wake_169 : decode cX14_wake 169 = .ok (.getfield 10, 3) := by decide +kernel
theorem dX14_wake_172 : decode cX14_wake 172 = .ok (.iload_n 3, 1) := by decide +kernel
theorem dX14_wake_173 : decode cX14_wake 173 = .ok (.invokevirtual 76, 3) := by decide +kernel
theorem dX14_wake_176 : decode cX14_wake 176 = .ok (.checkcast 48, 3) := by decide +kernel
theorem dX14_wake_179 : decode cX14_wake 179 = .ok (.getfield 80, 3) := by decide +kernel
theorem dX14_wake_182 : decode cX14_wake 182 = .ok (.istore_n 3, 1) := by decide +kernel
theorem dX14_wake_183 : decode cX14_wake 183 = .ok (.goto (-82), 3) := by decide +kernel
theorem dX14_wake_186 : decode cX14_wake 186 = .ok (.iload_n 2, 1) := by decide +kernel
theorem dX14_wake_187 : decode cX14_wake 187 = .ok (.ireturn, 1) := by decide +kernel
set_option maxRecDepth 100000 in
set_option maxHeartbeats 4000000 in
theorem m_wake (l : Launch) (D : va_G) (cy : Nat → ClassId) {eda ca : Nat} {ia : Nat → Nat} {σ : SG} {K : KM} {g : GH} {n S hw : Nat} (h : Inv eda ia K g n S hw σ) (x : Int32) (sz : Nat) : sgM l D cy eda ca ia σ sz yX14_wake (Cond.code yX14_wake cX14_wake 4 (some .int) :: mWall) 3 64 0 0 [.ref (kA K), .int x] (fun v σ2 => (∃ y : Int32, v = some (.int y)) ∧ Inv eda ia K g n S hw σ2) := by
  refine sg_ofW (cc := cX14_wake) (maxL := 4) (ret := (some .int)) (by decide) rfl (Nat.le_of_ble_eq_true rfl) (lv := [(0, .ref (kA K)), (1, .int x)]) rfl (fun p e s m below meth c ls H N hrt hnm F hB hl => ?_) sz
  have hx := F.1.1
  have hb := F.1.2.1
  have hown := F.1.2.2.2.1
  obtain ⟨z1, z2, z3⟩ := inv_sz h
  obtain ⟨rk, hrk⟩ := inv_hub h
  generalize hlo : ([] : List Loc) = locs at hB ⊢
  clear hlo
  refine lv_aload_n hx hb dX14_wake_0 rfl (lv_at hl 0 rfl) ?_
  refine lv_iload_n hx hb dX14_wake_1 rfl (lv_at hl 1 rfl) ?_
  refine sg_callV (ci := 19) F hB (m_noDevice l D cy h x _) (cwV 1 F.1.2.2.2.2 (mgV (mm_4 _ (List.mem_of_getElem? (i := 17) rfl)) (mm_4 _ (List.mem_of_getElem? (i := 18) rfl)) (mm_4 _ (List.mem_of_getElem? (i := 19) rfl)) (mm_3 _ (List.mem_of_getElem? (i := 23) rfl)) (mm_3 _ (List.mem_of_getElem? (i := 24) rfl))) rfl rfl rfl ⟨rfl, by decide, by decide, by decide +kernel⟩ ⟨Nat.le_of_ble_eq_true rfl, Nat.le_of_ble_eq_true rfl⟩) rfl rfl (by decide) rfl hl.1 rfl (Nat.le_of_ble_eq_true rfl) dX14_wake_2 (Nat.le_of_ble_eq_true rfl) (Nat.add_le_add_right (Nat.le_of_ble_eq_true rfl) _) (inv_A h) (fun H locs v σ2 N hBn hX2 hP => ?_)
  clear hB; have hB := hBn; clear hBn
  obtain ⟨y2, b2, rfl, rfl, hb2⟩ := hP
  have hI2 := inv_th h y2
  refine lv_if_eq (tgt := 10) hx hb dX14_wake_5 (by decide) (fun c5 => ?_) (fun c5 => ?_)
  · have hx5 := Classical.not_not.mp (sgb_f hb2 c5)
    refine lv_aload_n hx hb dX14_wake_10 rfl (lv_at hl 0 rfl) ?_
    refine lv_aload_n hx hb dX14_wake_11 rfl (lv_at hl 0 rfl) ?_
    refine gr_X14_10 F hB dX14_wake_12 (inv_A hI2) (inv_r1 hI2) ?_
    refine lv_iload_n hx hb dX14_wake_15 rfl (lv_at hl 1 rfl) ?_
    refine sg_callV (ci := 4) F hB (m_getD l D cy hI2 x (by omega) (by omega) _) (cwV 1 F.1.2.2.2.2 (mgV (mm_4 _ (List.mem_of_getElem? (i := 3) rfl)) (mm_4 _ (List.mem_of_getElem? (i := 4) rfl)) (mm_4 _ (List.mem_of_getElem? (i := 5) rfl)) (mm_0 _ (List.mem_of_getElem? (i := 35) rfl)) (mm_3 _ (List.mem_of_getElem? (i := 34) rfl))) rfl rfl rfl ⟨rfl, by decide, by decide, by decide +kernel⟩ ⟨Nat.le_of_ble_eq_true rfl, Nat.le_of_ble_eq_true rfl⟩) rfl rfl (by decide) rfl hl.1 rfl (Nat.le_of_ble_eq_true rfl) dX14_wake_16 (Nat.le_of_ble_eq_true rfl) (Nat.add_le_add_right (Nat.le_of_ble_eq_true rfl) _) (inv_tD hI2).1 (fun H locs v σ16 N hBn hX16 hP => ?_)
    clear hB; have hB := hBn; clear hBn
    obtain ⟨rfl, rfl⟩ := hP
    have dv16 := (inv_dv hI2 (k := (x : Int32).toInt.toNat) (by omega)).2.1
    refine va_castY hx hb hown (F.1.2.2.2.2 _ (List.mem_cons_of_mem _ (mm_4 _ (List.mem_of_getElem? (i := 2) rfl)))) (F.2.2.1.2.2 ("HubcascadeModel$Device", "HubcascadeModel$Device") (by decide +kernel)) (sg_recv (ci := 15) F.2.1 hB (by assumption) (by decide) rfl) dX14_wake_19 ?_
    refine gf_X14_53 F hB dX14_wake_22 (by assumption) ?_
    refine lv_bipush (v := 122) hx hb dX14_wake_25 (by decide) ?_
    refine lv_icmp_ne (tgt := 34) hx hb dX14_wake_27 (by decide) (fun c27 => ?_) (fun c27 => ?_)
    · refine lv_iconst (v := 2) hx hb dX14_wake_34 (by decide) ?_
      refine pf_X14_61 F hB dX14_wake_35 (inv_A hI2) (fun H locs hBn => ?_)
      clear hB; have hB := hBn; clear hBn
      have hI35 := inv_PIc (t := 20) hB hI2 (inv_A hI2) (by unfold iCn; omega)
      refine lv_iconst (v := 0) hx hb dX14_wake_38 (by decide) ?_
      refine lv_istore_n (lv' := [(2, .int _), (0, .ref _), (1, .int _)]) hx hb dX14_wake_39 rfl hl (by decide) rfl (fun ls hl => ?_)
      refine lv_iload_n hx hb dX14_wake_40 rfl (lv_at hl 2 rfl) ?_
      refine lv_istore_n (lv' := [(3, .int _), (2, .int _), (0, .ref _), (1, .int _)]) hx hb dX14_wake_41 rfl hl (by decide) rfl (fun ls hl => ?_)
      have key42 : ∃ (z m9 : Int32), sgB D cy s σ (sgPI (sgPI σ (kA K) 0 y2) (kA K) 0 2) H locs N 0 ∧ lv_has ls 4 [(3, .int z), (2, .int m9), (1, .int x), (0, .ref (kA K))] ∧ (z = -1 ∨ (0 ≤ z.toInt ∧ z.toInt < n)) := ⟨_, _, hB, (lv_sub hl [0, 1, 3, 2] rfl), Or.inr hx5⟩
      clear hB hl
      obtain ⟨z, m9, hB, hl, hzr⟩ := key42
      obtain ⟨d42, hd42⟩ : ∃ d : Nat, d = (if z = -1 then 0 else rk z.toInt.toNat + 1) := ⟨_, rfl⟩
      induction d42 using Nat.strongRecOn generalizing H locs ls N z m9
      rename_i d42 ih42
      refine lv_iload_n hx hb dX14_wake_42 rfl (lv_at hl 0 rfl) ?_
      refine lv_iconst (v := (-1)) hx hb dX14_wake_43 (by decide) ?_
      refine lv_icmp_eq (tgt := 99) hx hb dX14_wake_44 (by decide) (fun c44 => ?_) (fun c44 => ?_)
      · refine lv_iload_n hx hb dX14_wake_99 rfl (lv_at hl 2 rfl) ?_
        refine lv_istore_n (lv' := [(3, .int _), (2, .int _), (1, .int _), (0, .ref _)]) hx hb dX14_wake_100 rfl hl (by decide) rfl (fun ls hl => ?_)
        have key101 : ∃ (σ3 : SG) (z m9 : Int32), sgB D cy s σ σ3 H locs N 0 ∧ lv_has ls 4 [(3, .int z), (2, .int m9), (1, .int x), (0, .ref (kA K))] ∧ Inv eda ia K g n S hw σ3 ∧ (z = -1 ∨ (0 ≤ z.toInt ∧ z.toInt < n)) ∧ ∀ k, k < n → iHb g σ3 k = iHb g σ k := ⟨_, _, _, hB, (lv_sub hl [0, 1, 2, 3] rfl), hI35, Or.inr hx5, fun k hk => (iHb_nk (by decide)).trans (iHb_nk (by decide))⟩
        clear hB hl
        obtain ⟨σ3, z, m9, hB, hl, hI3, hzr, hhb⟩ := key101
        obtain ⟨d101, hd101⟩ : ∃ d : Nat, d = (if z = -1 then 0 else rk z.toInt.toNat + 1) := ⟨_, rfl⟩
        induction d101 using Nat.strongRecOn generalizing H locs ls N σ3 z m9
        rename_i d101 ih101
        refine lv_iload_n hx hb dX14_wake_101 rfl (lv_at hl 0 rfl) ?_
        refine lv_iconst (v := (-1)) hx hb dX14_wake_102 (by decide) ?_
        refine lv_icmp_eq (tgt := 186) hx hb dX14_wake_103 (by decide) (fun c103 => ?_) (fun c103 => ?_)
        · refine lv_iload_n hx hb dX14_wake_186 rfl (lv_at hl 1 rfl) ?_
          exact sg_iret F hB hrt dX14_wake_187 (by decide) (by decide) (⟨⟨_, rfl⟩, hI3⟩)
        · refine lv_aload_n hx hb dX14_wake_106 rfl (lv_at hl 3 rfl) ?_
          refine gf_X14_61 F hB dX14_wake_107 (inv_A hI3) ?_
          refine lv_if_ne (tgt := 186) hx hb dX14_wake_110 (by decide) (fun c110 => ?_) (fun c110 => ?_)
          · refine lv_iload_n hx hb dX14_wake_186 rfl (lv_at hl 1 rfl) ?_
            exact sg_iret F hB hrt dX14_wake_187 (by decide) (by decide) (⟨⟨_, rfl⟩, hI3⟩)
          · obtain ⟨z6, z7⟩ := hzr.resolve_left c103
            refine lv_aload_n hx hb dX14_wake_113 rfl (lv_at hl 3 rfl) ?_
            refine gr_X14_10 F hB dX14_wake_114 (inv_A hI3) (inv_r1 hI3) ?_
            refine lv_iload_n hx hb dX14_wake_117 rfl (lv_at hl 0 rfl) ?_
            refine sg_callV (ci := 4) F hB (m_getD l D cy hI3 z (by omega) (by omega) _) (cwV 1 F.1.2.2.2.2 (mgV (mm_4 _ (List.mem_of_getElem? (i := 3) rfl)) (mm_4 _ (List.mem_of_getElem? (i := 4) rfl)) (mm_4 _ (List.mem_of_getElem? (i := 5) rfl)) (mm_0 _ (List.mem_of_getElem? (i := 35) rfl)) (mm_3 _ (List.mem_of_getElem? (i := 34) rfl))) rfl rfl rfl ⟨rfl, by decide, by decide, by decide +kernel⟩ ⟨Nat.le_of_ble_eq_true rfl, Nat.le_of_ble_eq_true rfl⟩) rfl rfl (by decide) rfl hl.1 rfl (Nat.le_of_ble_eq_true rfl) dX14_wake_118 (Nat.le_of_ble_eq_true rfl) (Nat.add_le_add_right (Nat.le_of_ble_eq_true rfl) _) (inv_tD hI3).1 (fun H locs v σ118 N hBn hX118 hP => ?_)
            clear hB; have hB := hBn; clear hBn
            obtain ⟨rfl, rfl⟩ := hP
            have dv118 := (inv_dv hI3 (k := (z : Int32).toInt.toNat) (by omega)).2.1
            refine va_castY hx hb hown (F.1.2.2.2.2 _ (List.mem_cons_of_mem _ (mm_4 _ (List.mem_of_getElem? (i := 2) rfl)))) (F.2.2.1.2.2 ("HubcascadeModel$Device", "HubcascadeModel$Device") (by decide +kernel)) (sg_recv (ci := 15) F.2.1 hB (by assumption) (by decide) rfl) dX14_wake_121 ?_
            refine gf_X14_53 F hB dX14_wake_124 (by assumption) ?_
            refine lv_bipush (v := 122) hx hb dX14_wake_127 (by decide) ?_
            refine lv_icmp_ne (tgt := 168) hx hb dX14_wake_129 (by decide) (fun c129 => ?_) (fun c129 => ?_)
            · refine lv_aload_n hx hb dX14_wake_168 rfl (lv_at hl 3 rfl) ?_
              refine gr_X14_10 F hB dX14_wake_169 (inv_A hI3) (inv_r1 hI3) ?_
              refine lv_iload_n hx hb dX14_wake_172 rfl (lv_at hl 0 rfl) ?_
              refine sg_callV (ci := 4) F hB (m_getD l D cy hI3 z (by omega) (by omega) _) (cwV 1 F.1.2.2.2.2 (mgV (mm_4 _ (List.mem_of_getElem? (i := 3) rfl)) (mm_4 _ (List.mem_of_getElem? (i := 4) rfl)) (mm_4 _ (List.mem_of_getElem? (i := 5) rfl)) (mm_0 _ (List.mem_of_getElem? (i := 35) rfl)) (mm_3 _ (List.mem_of_getElem? (i := 34) rfl))) rfl rfl rfl ⟨rfl, by decide, by decide, by decide +kernel⟩ ⟨Nat.le_of_ble_eq_true rfl, Nat.le_of_ble_eq_true rfl⟩) rfl rfl (by decide) rfl hl.1 rfl (Nat.le_of_ble_eq_true rfl) dX14_wake_173 (Nat.le_of_ble_eq_true rfl) (Nat.add_le_add_right (Nat.le_of_ble_eq_true rfl) _) (inv_tD hI3).1 (fun H locs v σ173 N hBn hX173 hP => ?_)
              clear hB; have hB := hBn; clear hBn
              obtain ⟨rfl, rfl⟩ := hP
              have dv173 := (inv_dv hI3 (k := (z : Int32).toInt.toNat) (by omega)).2.1
              refine va_castY hx hb hown (F.1.2.2.2.2 _ (List.mem_cons_of_mem _ (mm_4 _ (List.mem_of_getElem? (i := 2) rfl)))) (F.2.2.1.2.2 ("HubcascadeModel$Device", "HubcascadeModel$Device") (by decide +kernel)) (sg_recv (ci := 15) F.2.1 hB (by assumption) (by decide) rfl) dX14_wake_176 ?_
              refine gf_X14_80 F hB dX14_wake_179 (by exact dv173) ?_
              refine lv_istore_n (lv' := [(3, .int _), (2, .int _), (1, .int _), (0, .ref _)]) hx hb dX14_wake_182 rfl hl (by decide) rfl (fun ls hl => ?_)
              refine lv_goto (tgt := 101) hx hb dX14_wake_183 (by decide) ?_
              try rw [sgI_nk (j := 7) (k := 12) (by decide), sgI_nk (j := 7) (k := 6) (by decide)] at hl
              have e8 := hhb z.toInt.toNat (by omega)
              refine ih101 _ ?_ _ _ _ _ _ _ _ hB (lv_sub hl [0, 1, 2, 3] rfl) hI3 ?_ (fun k hk => by first | exact hhb k hk | (rw [iHb_nk (by decide), iHb_nk (by decide)]; exact hhb k hk)) rfl
              · subst hd101
                rw [if_neg c103]
                by_cases q9 : sgI σ3 (gDv g z.toInt.toNat) 7 = -1
                · rw [if_pos q9]; omega
                · rw [if_neg q9]
                  have hk3 := (hrk z.toInt.toNat (by omega)).resolve_left (by rw [← e8]; exact m_zN q9)
                  have q8 := hk3.2.2
                  rw [← e8] at q8
                  unfold iHb at q8
                  omega
              · rcases hrk z.toInt.toNat (by omega) with q | q
                · exact Or.inl (i_eq.mpr (by rw [← e8] at q; exact q))
                · refine Or.inr ?_
                  rw [← e8] at q
                  exact ⟨q.1, q.2.1⟩
            · refine lv_aload_n hx hb dX14_wake_132 rfl (lv_at hl 3 rfl) ?_
              refine gr_X14_10 F hB dX14_wake_133 (inv_A hI3) (inv_r1 hI3) ?_
              refine lv_iload_n hx hb dX14_wake_136 rfl (lv_at hl 0 rfl) ?_
              refine sg_callV (ci := 4) F hB (m_getD l D cy hI3 z (by omega) (by omega) _) (cwV 1 F.1.2.2.2.2 (mgV (mm_4 _ (List.mem_of_getElem? (i := 3) rfl)) (mm_4 _ (List.mem_of_getElem? (i := 4) rfl)) (mm_4 _ (List.mem_of_getElem? (i := 5) rfl)) (mm_0 _ (List.mem_of_getElem? (i := 35) rfl)) (mm_3 _ (List.mem_of_getElem? (i := 34) rfl))) rfl rfl rfl ⟨rfl, by decide, by decide, by decide +kernel⟩ ⟨Nat.le_of_ble_eq_true rfl, Nat.le_of_ble_eq_true rfl⟩) rfl rfl (by decide) rfl hl.1 rfl (Nat.le_of_ble_eq_true rfl) dX14_wake_137 (Nat.le_of_ble_eq_true rfl) (Nat.add_le_add_right (Nat.le_of_ble_eq_true rfl) _) (inv_tD hI3).1 (fun H locs v σ137 N hBn hX137 hP => ?_)
              clear hB; have hB := hBn; clear hBn
              obtain ⟨rfl, rfl⟩ := hP
              have dv137 := (inv_dv hI3 (k := (z : Int32).toInt.toNat) (by omega)).2.1
              refine va_castY hx hb hown (F.1.2.2.2.2 _ (List.mem_cons_of_mem _ (mm_4 _ (List.mem_of_getElem? (i := 2) rfl)))) (F.2.2.1.2.2 ("HubcascadeModel$Device", "HubcascadeModel$Device") (by decide +kernel)) (sg_recv (ci := 15) F.2.1 hB (by assumption) (by decide) rfl) dX14_wake_140 ?_
              refine lv_bipush (v := 99) hx hb dX14_wake_143 (by decide) ?_
              refine pf_X14_53 F hB dX14_wake_145 dv137 ⟨by decide, by decide⟩ (fun H locs hBn => ?_)
              clear hB; have hB := hBn; clear hBn
              have hk1 : 1 ≤ z.toInt := by
                by_cases q : z.toInt = 0
                · have q9 : iSt g σ3 z.toInt.toNat = 122 := c129
                  rw [q] at q9
                  exact absurd ((iSt_host hI3).symm.trans q9) (by decide)
                · omega
              have hI145 := inv_st (v := 99) hI3 (k := z.toInt.toNat) (by omega) (by omega) (by decide) (fun z9 => by have q9 : iSt g σ3 z.toInt.toNat = 122 := c129; rw [q9] at z9; exact absurd z9 (by decide))
              refine lv_aload_n hx hb dX14_wake_148 rfl (lv_at hl 3 rfl) ?_
              refine gr_X14_10 F hB dX14_wake_149 (inv_A hI145) (inv_r1 hI145) ?_
              refine lv_iload_n hx hb dX14_wake_152 rfl (lv_at hl 0 rfl) ?_
              refine sg_callV (ci := 4) F hB (m_getD l D cy hI145 z (by omega) (by omega) _) (cwV 1 F.1.2.2.2.2 (mgV (mm_4 _ (List.mem_of_getElem? (i := 3) rfl)) (mm_4 _ (List.mem_of_getElem? (i := 4) rfl)) (mm_4 _ (List.mem_of_getElem? (i := 5) rfl)) (mm_0 _ (List.mem_of_getElem? (i := 35) rfl)) (mm_3 _ (List.mem_of_getElem? (i := 34) rfl))) rfl rfl rfl ⟨rfl, by decide, by decide, by decide +kernel⟩ ⟨Nat.le_of_ble_eq_true rfl, Nat.le_of_ble_eq_true rfl⟩) rfl rfl (by decide) rfl hl.1 rfl (Nat.le_of_ble_eq_true rfl) dX14_wake_153 (Nat.le_of_ble_eq_true rfl) (Nat.add_le_add_right (Nat.le_of_ble_eq_true rfl) _) (inv_tD hI145).1 (fun H locs v σ153 N hBn hX153 hP => ?_)
              clear hB; have hB := hBn; clear hBn
              obtain ⟨rfl, rfl⟩ := hP
              have dv153 := (inv_dv hI145 (k := (z : Int32).toInt.toNat) (by omega)).2.1
              refine va_castY hx hb hown (F.1.2.2.2.2 _ (List.mem_cons_of_mem _ (mm_4 _ (List.mem_of_getElem? (i := 2) rfl)))) (F.2.2.1.2.2 ("HubcascadeModel$Device", "HubcascadeModel$Device") (by decide +kernel)) (sg_recv (ci := 15) F.2.1 hB (by assumption) (by decide) rfl) dX14_wake_156 ?_
              refine lv_aload_n hx hb dX14_wake_159 rfl (lv_at hl 3 rfl) ?_
              refine gf_X14_205 F hB dX14_wake_160 (inv_A hI145) ?_
              refine lv_iload_n hx hb dX14_wake_163 rfl (lv_at hl 1 rfl) ?_
              refine lv_iadd hx hb dX14_wake_164 ?_
              refine pf_X14_146 F hB dX14_wake_165 (by exact dv153) (fun H locs hBn => ?_)
              clear hB; have hB := hBn; clear hBn
              have hI165 := inv_PIc (t := 16) hB hI145 (by exact dv153) (by unfold iCn; omega)
              refine lv_aload_n hx hb dX14_wake_168 rfl (lv_at hl 3 rfl) ?_
              refine gr_X14_10 F hB dX14_wake_169 (inv_A hI165) (inv_r1 hI165) ?_
              refine lv_iload_n hx hb dX14_wake_172 rfl (lv_at hl 0 rfl) ?_
              refine sg_callV (ci := 4) F hB (m_getD l D cy hI165 z (by omega) (by omega) _) (cwV 1 F.1.2.2.2.2 (mgV (mm_4 _ (List.mem_of_getElem? (i := 3) rfl)) (mm_4 _ (List.mem_of_getElem? (i := 4) rfl)) (mm_4 _ (List.mem_of_getElem? (i := 5) rfl)) (mm_0 _ (List.mem_of_getElem? (i := 35) rfl)) (mm_3 _ (List.mem_of_getElem? (i := 34) rfl))) rfl rfl rfl ⟨rfl, by decide, by decide, by decide +kernel⟩ ⟨Nat.le_of_ble_eq_true rfl, Nat.le_of_ble_eq_true rfl⟩) rfl rfl (by decide) rfl hl.1 rfl (Nat.le_of_ble_eq_true rfl) dX14_wake_173 (Nat.le_of_ble_eq_true rfl) (Nat.add_le_add_right (Nat.le_of_ble_eq_true rfl) _) (inv_tD hI165).1 (fun H locs v σ173 N hBn hX173 hP => ?_)
              clear hB; have hB := hBn; clear hBn
              obtain ⟨rfl, rfl⟩ := hP
              have dv173 := (inv_dv hI165 (k := (z : Int32).toInt.toNat) (by omega)).2.1
              refine va_castY hx hb hown (F.1.2.2.2.2 _ (List.mem_cons_of_mem _ (mm_4 _ (List.mem_of_getElem? (i := 2) rfl)))) (F.2.2.1.2.2 ("HubcascadeModel$Device", "HubcascadeModel$Device") (by decide +kernel)) (sg_recv (ci := 15) F.2.1 hB (by assumption) (by decide) rfl) dX14_wake_176 ?_
              refine gf_X14_80 F hB dX14_wake_179 (by exact dv173) ?_
              refine lv_istore_n (lv' := [(3, .int _), (2, .int _), (1, .int _), (0, .ref _)]) hx hb dX14_wake_182 rfl hl (by decide) rfl (fun ls hl => ?_)
              refine lv_goto (tgt := 101) hx hb dX14_wake_183 (by decide) ?_
              try rw [sgI_nk (j := 7) (k := 12) (by decide), sgI_nk (j := 7) (k := 6) (by decide)] at hl
              have e8 := hhb z.toInt.toNat (by omega)
              refine ih101 _ ?_ _ _ _ _ _ _ _ hB (lv_sub hl [0, 1, 2, 3] rfl) hI165 ?_ (fun k hk => by first | exact hhb k hk | (rw [iHb_nk (by decide), iHb_nk (by decide)]; exact hhb k hk)) rfl
              · subst hd101
                rw [if_neg c103]
                by_cases q9 : sgI σ3 (gDv g z.toInt.toNat) 7 = -1
                · rw [if_pos q9]; omega
                · rw [if_neg q9]
                  have hk3 := (hrk z.toInt.toNat (by omega)).resolve_left (by rw [← e8]; exact m_zN q9)
                  have q8 := hk3.2.2
                  rw [← e8] at q8
                  unfold iHb at q8
                  omega
              · rcases hrk z.toInt.toNat (by omega) with q | q
                · exact Or.inl (i_eq.mpr (by rw [← e8] at q; exact q))
                · refine Or.inr ?_
                  rw [← e8] at q
                  exact ⟨q.1, q.2.1⟩
      · refine lv_aload_n hx hb dX14_wake_47 rfl (lv_at hl 3 rfl) ?_
        refine gf_X14_61 F hB dX14_wake_48 (inv_A hI35) ?_
        rw [sgI_PI, if_pos ⟨rfl, rfl⟩]
        refine lv_if_ne (tgt := 99) hx hb dX14_wake_51 (by decide) (fun c51 => ?_) (fun c51 => (by first | exact absurd c51 (by decide) | exact (c51 (by decide)).elim))
        refine lv_iload_n hx hb dX14_wake_99 rfl (lv_at hl 2 rfl) ?_
        refine lv_istore_n (lv' := [(3, .int _), (2, .int _), (1, .int _), (0, .ref _)]) hx hb dX14_wake_100 rfl hl (by decide) rfl (fun ls hl => ?_)
        have key101 : ∃ (σ3 : SG) (z m9 : Int32), sgB D cy s σ σ3 H locs N 0 ∧ lv_has ls 4 [(3, .int z), (2, .int m9), (1, .int x), (0, .ref (kA K))] ∧ Inv eda ia K g n S hw σ3 ∧ (z = -1 ∨ (0 ≤ z.toInt ∧ z.toInt < n)) ∧ ∀ k, k < n → iHb g σ3 k = iHb g σ k := ⟨_, _, _, hB, (lv_sub hl [0, 1, 2, 3] rfl), hI35, Or.inr hx5, fun k hk => (iHb_nk (by decide)).trans (iHb_nk (by decide))⟩
        clear hB hl
        obtain ⟨σ3, z, m9, hB, hl, hI3, hzr, hhb⟩ := key101
        obtain ⟨d101, hd101⟩ : ∃ d : Nat, d = (if z = -1 then 0 else rk z.toInt.toNat + 1) := ⟨_, rfl⟩
        induction d101 using Nat.strongRecOn generalizing H locs ls N σ3 z m9
        rename_i d101 ih101
        refine lv_iload_n hx hb dX14_wake_101 rfl (lv_at hl 0 rfl) ?_
        refine lv_iconst (v := (-1)) hx hb dX14_wake_102 (by decide) ?_
        refine lv_icmp_eq (tgt := 186) hx hb dX14_wake_103 (by decide) (fun c103 => ?_) (fun c103 => ?_)
        · refine lv_iload_n hx hb dX14_wake_186 rfl (lv_at hl 1 rfl) ?_
          exact sg_iret F hB hrt dX14_wake_187 (by decide) (by decide) (⟨⟨_, rfl⟩, hI3⟩)
        · refine lv_aload_n hx hb dX14_wake_106 rfl (lv_at hl 3 rfl) ?_
          refine gf_X14_61 F hB dX14_wake_107 (inv_A hI3) ?_
          refine lv_if_ne (tgt := 186) hx hb dX14_wake_110 (by decide) (fun c110 => ?_) (fun c110 => ?_)
          · refine lv_iload_n hx hb dX14_wake_186 rfl (lv_at hl 1 rfl) ?_
            exact sg_iret F hB hrt dX14_wake_187 (by decide) (by decide) (⟨⟨_, rfl⟩, hI3⟩)
          · obtain ⟨z6, z7⟩ := hzr.resolve_left c103
            refine lv_aload_n hx hb dX14_wake_113 rfl (lv_at hl 3 rfl) ?_
            refine gr_X14_10 F hB dX14_wake_114 (inv_A hI3) (inv_r1 hI3) ?_
            refine lv_iload_n hx hb dX14_wake_117 rfl (lv_at hl 0 rfl) ?_
            refine sg_callV (ci := 4) F hB (m_getD l D cy hI3 z (by omega) (by omega) _) (cwV 1 F.1.2.2.2.2 (mgV (mm_4 _ (List.mem_of_getElem? (i := 3) rfl)) (mm_4 _ (List.mem_of_getElem? (i := 4) rfl)) (mm_4 _ (List.mem_of_getElem? (i := 5) rfl)) (mm_0 _ (List.mem_of_getElem? (i := 35) rfl)) (mm_3 _ (List.mem_of_getElem? (i := 34) rfl))) rfl rfl rfl ⟨rfl, by decide, by decide, by decide +kernel⟩ ⟨Nat.le_of_ble_eq_true rfl, Nat.le_of_ble_eq_true rfl⟩) rfl rfl (by decide) rfl hl.1 rfl (Nat.le_of_ble_eq_true rfl) dX14_wake_118 (Nat.le_of_ble_eq_true rfl) (Nat.add_le_add_right (Nat.le_of_ble_eq_true rfl) _) (inv_tD hI3).1 (fun H locs v σ118 N hBn hX118 hP => ?_)
            clear hB; have hB := hBn; clear hBn
            obtain ⟨rfl, rfl⟩ := hP
            have dv118 := (inv_dv hI3 (k := (z : Int32).toInt.toNat) (by omega)).2.1
            refine va_castY hx hb hown (F.1.2.2.2.2 _ (List.mem_cons_of_mem _ (mm_4 _ (List.mem_of_getElem? (i := 2) rfl)))) (F.2.2.1.2.2 ("HubcascadeModel$Device", "HubcascadeModel$Device") (by decide +kernel)) (sg_recv (ci := 15) F.2.1 hB (by assumption) (by decide) rfl) dX14_wake_121 ?_
            refine gf_X14_53 F hB dX14_wake_124 (by assumption) ?_
            refine lv_bipush (v := 122) hx hb dX14_wake_127 (by decide) ?_
            refine lv_icmp_ne (tgt := 168) hx hb dX14_wake_129 (by decide) (fun c129 => ?_) (fun c129 => ?_)
            · refine lv_aload_n hx hb dX14_wake_168 rfl (lv_at hl 3 rfl) ?_
              refine gr_X14_10 F hB dX14_wake_169 (inv_A hI3) (inv_r1 hI3) ?_
              refine lv_iload_n hx hb dX14_wake_172 rfl (lv_at hl 0 rfl) ?_
              refine sg_callV (ci := 4) F hB (m_getD l D cy hI3 z (by omega) (by omega) _) (cwV 1 F.1.2.2.2.2 (mgV (mm_4 _ (List.mem_of_getElem? (i := 3) rfl)) (mm_4 _ (List.mem_of_getElem? (i := 4) rfl)) (mm_4 _ (List.mem_of_getElem? (i := 5) rfl)) (mm_0 _ (List.mem_of_getElem? (i := 35) rfl)) (mm_3 _ (List.mem_of_getElem? (i := 34) rfl))) rfl rfl rfl ⟨rfl, by decide, by decide, by decide +kernel⟩ ⟨Nat.le_of_ble_eq_true rfl, Nat.le_of_ble_eq_true rfl⟩) rfl rfl (by decide) rfl hl.1 rfl (Nat.le_of_ble_eq_true rfl) dX14_wake_173 (Nat.le_of_ble_eq_true rfl) (Nat.add_le_add_right (Nat.le_of_ble_eq_true rfl) _) (inv_tD hI3).1 (fun H locs v σ173 N hBn hX173 hP => ?_)
              clear hB; have hB := hBn; clear hBn
              obtain ⟨rfl, rfl⟩ := hP
              have dv173 := (inv_dv hI3 (k := (z : Int32).toInt.toNat) (by omega)).2.1
              refine va_castY hx hb hown (F.1.2.2.2.2 _ (List.mem_cons_of_mem _ (mm_4 _ (List.mem_of_getElem? (i := 2) rfl)))) (F.2.2.1.2.2 ("HubcascadeModel$Device", "HubcascadeModel$Device") (by decide +kernel)) (sg_recv (ci := 15) F.2.1 hB (by assumption) (by decide) rfl) dX14_wake_176 ?_
              refine gf_X14_80 F hB dX14_wake_179 (by exact dv173) ?_
              refine lv_istore_n (lv' := [(3, .int _), (2, .int _), (1, .int _), (0, .ref _)]) hx hb dX14_wake_182 rfl hl (by decide) rfl (fun ls hl => ?_)
              refine lv_goto (tgt := 101) hx hb dX14_wake_183 (by decide) ?_
              try rw [sgI_nk (j := 7) (k := 12) (by decide), sgI_nk (j := 7) (k := 6) (by decide)] at hl
              have e8 := hhb z.toInt.toNat (by omega)
              refine ih101 _ ?_ _ _ _ _ _ _ _ hB (lv_sub hl [0, 1, 2, 3] rfl) hI3 ?_ (fun k hk => by first | exact hhb k hk | (rw [iHb_nk (by decide), iHb_nk (by decide)]; exact hhb k hk)) rfl
              · subst hd101
                rw [if_neg c103]
                by_cases q9 : sgI σ3 (gDv g z.toInt.toNat) 7 = -1
                · rw [if_pos q9]; omega
                · rw [if_neg q9]
                  have hk3 := (hrk z.toInt.toNat (by omega)).resolve_left (by rw [← e8]; exact m_zN q9)
                  have q8 := hk3.2.2
                  rw [← e8] at q8
                  unfold iHb at q8
                  omega
              · rcases hrk z.toInt.toNat (by omega) with q | q
                · exact Or.inl (i_eq.mpr (by rw [← e8] at q; exact q))
                · refine Or.inr ?_
                  rw [← e8] at q
                  exact ⟨q.1, q.2.1⟩
            · refine lv_aload_n hx hb dX14_wake_132 rfl (lv_at hl 3 rfl) ?_
              refine gr_X14_10 F hB dX14_wake_133 (inv_A hI3) (inv_r1 hI3) ?_
              refine lv_iload_n hx hb dX14_wake_136 rfl (lv_at hl 0 rfl) ?_
              refine sg_callV (ci := 4) F hB (m_getD l D cy hI3 z (by omega) (by omega) _) (cwV 1 F.1.2.2.2.2 (mgV (mm_4 _ (List.mem_of_getElem? (i := 3) rfl)) (mm_4 _ (List.mem_of_getElem? (i := 4) rfl)) (mm_4 _ (List.mem_of_getElem? (i := 5) rfl)) (mm_0 _ (List.mem_of_getElem? (i := 35) rfl)) (mm_3 _ (List.mem_of_getElem? (i := 34) rfl))) rfl rfl rfl ⟨rfl, by decide, by decide, by decide +kernel⟩ ⟨Nat.le_of_ble_eq_true rfl, Nat.le_of_ble_eq_true rfl⟩) rfl rfl (by decide) rfl hl.1 rfl (Nat.le_of_ble_eq_true rfl) dX14_wake_137 (Nat.le_of_ble_eq_true rfl) (Nat.add_le_add_right (Nat.le_of_ble_eq_true rfl) _) (inv_tD hI3).1 (fun H locs v σ137 N hBn hX137 hP => ?_)
              clear hB; have hB := hBn; clear hBn
              obtain ⟨rfl, rfl⟩ := hP
              have dv137 := (inv_dv hI3 (k := (z : Int32).toInt.toNat) (by omega)).2.1
              refine va_castY hx hb hown (F.1.2.2.2.2 _ (List.mem_cons_of_mem _ (mm_4 _ (List.mem_of_getElem? (i := 2) rfl)))) (F.2.2.1.2.2 ("HubcascadeModel$Device", "HubcascadeModel$Device") (by decide +kernel)) (sg_recv (ci := 15) F.2.1 hB (by assumption) (by decide) rfl) dX14_wake_140 ?_
              refine lv_bipush (v := 99) hx hb dX14_wake_143 (by decide) ?_
              refine pf_X14_53 F hB dX14_wake_145 dv137 ⟨by decide, by decide⟩ (fun H locs hBn => ?_)
              clear hB; have hB := hBn; clear hBn
              have hk1 : 1 ≤ z.toInt := by
                by_cases q : z.toInt = 0
                · have q9 : iSt g σ3 z.toInt.toNat = 122 := c129
                  rw [q] at q9
                  exact absurd ((iSt_host hI3).symm.trans q9) (by decide)
                · omega
              have hI145 := inv_st (v := 99) hI3 (k := z.toInt.toNat) (by omega) (by omega) (by decide) (fun z9 => by have q9 : iSt g σ3 z.toInt.toNat = 122 := c129; rw [q9] at z9; exact absurd z9 (by decide))
              refine lv_aload_n hx hb dX14_wake_148 rfl (lv_at hl 3 rfl) ?_
              refine gr_X14_10 F hB dX14_wake_149 (inv_A hI145) (inv_r1 hI145) ?_
              refine lv_iload_n hx hb dX14_wake_152 rfl (lv_at hl 0 rfl) ?_
              refine sg_callV (ci := 4) F hB (m_getD l D cy hI145 z (by omega) (by omega) _) (cwV 1 F.1.2.2.2.2 (mgV (mm_4 _ (List.mem_of_getElem? (i := 3) rfl)) (mm_4 _ (List.mem_of_getElem? (i := 4) rfl)) (mm_4 _ (List.mem_of_getElem? (i := 5) rfl)) (mm_0 _ (List.mem_of_getElem? (i := 35) rfl)) (mm_3 _ (List.mem_of_getElem? (i := 34) rfl))) rfl rfl rfl ⟨rfl, by decide, by decide, by decide +kernel⟩ ⟨Nat.le_of_ble_eq_true rfl, Nat.le_of_ble_eq_true rfl⟩) rfl rfl (by decide) rfl hl.1 rfl (Nat.le_of_ble_eq_true rfl) dX14_wake_153 (Nat.le_of_ble_eq_true rfl) (Nat.add_le_add_right (Nat.le_of_ble_eq_true rfl) _) (inv_tD hI145).1 (fun H locs v σ153 N hBn hX153 hP => ?_)
              clear hB; have hB := hBn; clear hBn
              obtain ⟨rfl, rfl⟩ := hP
              have dv153 := (inv_dv hI145 (k := (z : Int32).toInt.toNat) (by omega)).2.1
              refine va_castY hx hb hown (F.1.2.2.2.2 _ (List.mem_cons_of_mem _ (mm_4 _ (List.mem_of_getElem? (i := 2) rfl)))) (F.2.2.1.2.2 ("HubcascadeModel$Device", "HubcascadeModel$Device") (by decide +kernel)) (sg_recv (ci := 15) F.2.1 hB (by assumption) (by decide) rfl) dX14_wake_156 ?_
              refine lv_aload_n hx hb dX14_wake_159 rfl (lv_at hl 3 rfl) ?_
              refine gf_X14_205 F hB dX14_wake_160 (inv_A hI145) ?_
              refine lv_iload_n hx hb dX14_wake_163 rfl (lv_at hl 1 rfl) ?_
              refine lv_iadd hx hb dX14_wake_164 ?_
              refine pf_X14_146 F hB dX14_wake_165 (by exact dv153) (fun H locs hBn => ?_)
              clear hB; have hB := hBn; clear hBn
              have hI165 := inv_PIc (t := 16) hB hI145 (by exact dv153) (by unfold iCn; omega)
              refine lv_aload_n hx hb dX14_wake_168 rfl (lv_at hl 3 rfl) ?_
              refine gr_X14_10 F hB dX14_wake_169 (inv_A hI165) (inv_r1 hI165) ?_
              refine lv_iload_n hx hb dX14_wake_172 rfl (lv_at hl 0 rfl) ?_
              refine sg_callV (ci := 4) F hB (m_getD l D cy hI165 z (by omega) (by omega) _) (cwV 1 F.1.2.2.2.2 (mgV (mm_4 _ (List.mem_of_getElem? (i := 3) rfl)) (mm_4 _ (List.mem_of_getElem? (i := 4) rfl)) (mm_4 _ (List.mem_of_getElem? (i := 5) rfl)) (mm_0 _ (List.mem_of_getElem? (i := 35) rfl)) (mm_3 _ (List.mem_of_getElem? (i := 34) rfl))) rfl rfl rfl ⟨rfl, by decide, by decide, by decide +kernel⟩ ⟨Nat.le_of_ble_eq_true rfl, Nat.le_of_ble_eq_true rfl⟩) rfl rfl (by decide) rfl hl.1 rfl (Nat.le_of_ble_eq_true rfl) dX14_wake_173 (Nat.le_of_ble_eq_true rfl) (Nat.add_le_add_right (Nat.le_of_ble_eq_true rfl) _) (inv_tD hI165).1 (fun H locs v σ173 N hBn hX173 hP => ?_)
              clear hB; have hB := hBn; clear hBn
              obtain ⟨rfl, rfl⟩ := hP
              have dv173 := (inv_dv hI165 (k := (z : Int32).toInt.toNat) (by omega)).2.1
              refine va_castY hx hb hown (F.1.2.2.2.2 _ (List.mem_cons_of_mem _ (mm_4 _ (List.mem_of_getElem? (i := 2) rfl)))) (F.2.2.1.2.2 ("HubcascadeModel$Device", "HubcascadeModel$Device") (by decide +kernel)) (sg_recv (ci := 15) F.2.1 hB (by assumption) (by decide) rfl) dX14_wake_176 ?_
              refine gf_X14_80 F hB dX14_wake_179 (by exact dv173) ?_
              refine lv_istore_n (lv' := [(3, .int _), (2, .int _), (1, .int _), (0, .ref _)]) hx hb dX14_wake_182 rfl hl (by decide) rfl (fun ls hl => ?_)
              refine lv_goto (tgt := 101) hx hb dX14_wake_183 (by decide) ?_
              try rw [sgI_nk (j := 7) (k := 12) (by decide), sgI_nk (j := 7) (k := 6) (by decide)] at hl
              have e8 := hhb z.toInt.toNat (by omega)
              refine ih101 _ ?_ _ _ _ _ _ _ _ hB (lv_sub hl [0, 1, 2, 3] rfl) hI165 ?_ (fun k hk => by first | exact hhb k hk | (rw [iHb_nk (by decide), iHb_nk (by decide)]; exact hhb k hk)) rfl
              · subst hd101
                rw [if_neg c103]
                by_cases q9 : sgI σ3 (gDv g z.toInt.toNat) 7 = -1
                · rw [if_pos q9]; omega
                · rw [if_neg q9]
                  have hk3 := (hrk z.toInt.toNat (by omega)).resolve_left (by rw [← e8]; exact m_zN q9)
                  have q8 := hk3.2.2
                  rw [← e8] at q8
                  unfold iHb at q8
                  omega
              · rcases hrk z.toInt.toNat (by omega) with q | q
                · exact Or.inl (i_eq.mpr (by rw [← e8] at q; exact q))
                · refine Or.inr ?_
                  rw [← e8] at q
                  exact ⟨q.1, q.2.1⟩
    · refine lv_iconst (v := 0) hx hb dX14_wake_30 (by decide) ?_
      refine lv_goto (tgt := 35) hx hb dX14_wake_31 (by decide) ?_
      refine pf_X14_61 F hB dX14_wake_35 (inv_A hI2) (fun H locs hBn => ?_)
      clear hB; have hB := hBn; clear hBn
      have hI35 := inv_PIc (t := 20) hB hI2 (inv_A hI2) (by unfold iCn; omega)
      refine lv_iconst (v := 0) hx hb dX14_wake_38 (by decide) ?_
      refine lv_istore_n (lv' := [(2, .int _), (0, .ref _), (1, .int _)]) hx hb dX14_wake_39 rfl hl (by decide) rfl (fun ls hl => ?_)
      refine lv_iload_n hx hb dX14_wake_40 rfl (lv_at hl 2 rfl) ?_
      refine lv_istore_n (lv' := [(3, .int _), (2, .int _), (0, .ref _), (1, .int _)]) hx hb dX14_wake_41 rfl hl (by decide) rfl (fun ls hl => ?_)
      have key42 : ∃ (z m9 : Int32), sgB D cy s σ (sgPI (sgPI σ (kA K) 0 y2) (kA K) 0 0) H locs N 0 ∧ lv_has ls 4 [(3, .int z), (2, .int m9), (1, .int x), (0, .ref (kA K))] ∧ (z = -1 ∨ (0 ≤ z.toInt ∧ z.toInt < n)) := ⟨_, _, hB, (lv_sub hl [0, 1, 3, 2] rfl), Or.inr hx5⟩
      clear hB hl
      obtain ⟨z, m9, hB, hl, hzr⟩ := key42
      obtain ⟨d42, hd42⟩ : ∃ d : Nat, d = (if z = -1 then 0 else rk z.toInt.toNat + 1) := ⟨_, rfl⟩
      induction d42 using Nat.strongRecOn generalizing H locs ls N z m9
      rename_i d42 ih42
      refine lv_iload_n hx hb dX14_wake_42 rfl (lv_at hl 0 rfl) ?_
      refine lv_iconst (v := (-1)) hx hb dX14_wake_43 (by decide) ?_
      refine lv_icmp_eq (tgt := 99) hx hb dX14_wake_44 (by decide) (fun c44 => ?_) (fun c44 => ?_)
      · refine lv_iload_n hx hb dX14_wake_99 rfl (lv_at hl 2 rfl) ?_
        refine lv_istore_n (lv' := [(3, .int _), (2, .int _), (1, .int _), (0, .ref _)]) hx hb dX14_wake_100 rfl hl (by decide) rfl (fun ls hl => ?_)
        have key101 : ∃ (σ3 : SG) (z m9 : Int32), sgB D cy s σ σ3 H locs N 0 ∧ lv_has ls 4 [(3, .int z), (2, .int m9), (1, .int x), (0, .ref (kA K))] ∧ Inv eda ia K g n S hw σ3 ∧ (z = -1 ∨ (0 ≤ z.toInt ∧ z.toInt < n)) ∧ ∀ k, k < n → iHb g σ3 k = iHb g σ k := ⟨_, _, _, hB, (lv_sub hl [0, 1, 2, 3] rfl), hI35, Or.inr hx5, fun k hk => (iHb_nk (by decide)).trans (iHb_nk (by decide))⟩
        clear hB hl
        obtain ⟨σ3, z, m9, hB, hl, hI3, hzr, hhb⟩ := key101
        obtain ⟨d101, hd101⟩ : ∃ d : Nat, d = (if z = -1 then 0 else rk z.toInt.toNat + 1) := ⟨_, rfl⟩
        induction d101 using Nat.strongRecOn generalizing H locs ls N σ3 z m9
        rename_i d101 ih101
        refine lv_iload_n hx hb dX14_wake_101 rfl (lv_at hl 0 rfl) ?_
        refine lv_iconst (v := (-1)) hx hb dX14_wake_102 (by decide) ?_
        refine lv_icmp_eq (tgt := 186) hx hb dX14_wake_103 (by decide) (fun c103 => ?_) (fun c103 => ?_)
        · refine lv_iload_n hx hb dX14_wake_186 rfl (lv_at hl 1 rfl) ?_
          exact sg_iret F hB hrt dX14_wake_187 (by decide) (by decide) (⟨⟨_, rfl⟩, hI3⟩)
        · refine lv_aload_n hx hb dX14_wake_106 rfl (lv_at hl 3 rfl) ?_
          refine gf_X14_61 F hB dX14_wake_107 (inv_A hI3) ?_
          refine lv_if_ne (tgt := 186) hx hb dX14_wake_110 (by decide) (fun c110 => ?_) (fun c110 => ?_)
          · refine lv_iload_n hx hb dX14_wake_186 rfl (lv_at hl 1 rfl) ?_
            exact sg_iret F hB hrt dX14_wake_187 (by decide) (by decide) (⟨⟨_, rfl⟩, hI3⟩)
          · obtain ⟨z6, z7⟩ := hzr.resolve_left c103
            refine lv_aload_n hx hb dX14_wake_113 rfl (lv_at hl 3 rfl) ?_
            refine gr_X14_10 F hB dX14_wake_114 (inv_A hI3) (inv_r1 hI3) ?_
            refine lv_iload_n hx hb dX14_wake_117 rfl (lv_at hl 0 rfl) ?_
            refine sg_callV (ci := 4) F hB (m_getD l D cy hI3 z (by omega) (by omega) _) (cwV 1 F.1.2.2.2.2 (mgV (mm_4 _ (List.mem_of_getElem? (i := 3) rfl)) (mm_4 _ (List.mem_of_getElem? (i := 4) rfl)) (mm_4 _ (List.mem_of_getElem? (i := 5) rfl)) (mm_0 _ (List.mem_of_getElem? (i := 35) rfl)) (mm_3 _ (List.mem_of_getElem? (i := 34) rfl))) rfl rfl rfl ⟨rfl, by decide, by decide, by decide +kernel⟩ ⟨Nat.le_of_ble_eq_true rfl, Nat.le_of_ble_eq_true rfl⟩) rfl rfl (by decide) rfl hl.1 rfl (Nat.le_of_ble_eq_true rfl) dX14_wake_118 (Nat.le_of_ble_eq_true rfl) (Nat.add_le_add_right (Nat.le_of_ble_eq_true rfl) _) (inv_tD hI3).1 (fun H locs v σ118 N hBn hX118 hP => ?_)
            clear hB; have hB := hBn; clear hBn
            obtain ⟨rfl, rfl⟩ := hP
            have dv118 := (inv_dv hI3 (k := (z : Int32).toInt.toNat) (by omega)).2.1
            refine va_castY hx hb hown (F.1.2.2.2.2 _ (List.mem_cons_of_mem _ (mm_4 _ (List.mem_of_getElem? (i := 2) rfl)))) (F.2.2.1.2.2 ("HubcascadeModel$Device", "HubcascadeModel$Device") (by decide +kernel)) (sg_recv (ci := 15) F.2.1 hB (by assumption) (by decide) rfl) dX14_wake_121 ?_
            refine gf_X14_53 F hB dX14_wake_124 (by assumption) ?_
            refine lv_bipush (v := 122) hx hb dX14_wake_127 (by decide) ?_
            refine lv_icmp_ne (tgt := 168) hx hb dX14_wake_129 (by decide) (fun c129 => ?_) (fun c129 => ?_)
            · refine lv_aload_n hx hb dX14_wake_168 rfl (lv_at hl 3 rfl) ?_
              refine gr_X14_10 F hB dX14_wake_169 (inv_A hI3) (inv_r1 hI3) ?_
              refine lv_iload_n hx hb dX14_wake_172 rfl (lv_at hl 0 rfl) ?_
              refine sg_callV (ci := 4) F hB (m_getD l D cy hI3 z (by omega) (by omega) _) (cwV 1 F.1.2.2.2.2 (mgV (mm_4 _ (List.mem_of_getElem? (i := 3) rfl)) (mm_4 _ (List.mem_of_getElem? (i := 4) rfl)) (mm_4 _ (List.mem_of_getElem? (i := 5) rfl)) (mm_0 _ (List.mem_of_getElem? (i := 35) rfl)) (mm_3 _ (List.mem_of_getElem? (i := 34) rfl))) rfl rfl rfl ⟨rfl, by decide, by decide, by decide +kernel⟩ ⟨Nat.le_of_ble_eq_true rfl, Nat.le_of_ble_eq_true rfl⟩) rfl rfl (by decide) rfl hl.1 rfl (Nat.le_of_ble_eq_true rfl) dX14_wake_173 (Nat.le_of_ble_eq_true rfl) (Nat.add_le_add_right (Nat.le_of_ble_eq_true rfl) _) (inv_tD hI3).1 (fun H locs v σ173 N hBn hX173 hP => ?_)
              clear hB; have hB := hBn; clear hBn
              obtain ⟨rfl, rfl⟩ := hP
              have dv173 := (inv_dv hI3 (k := (z : Int32).toInt.toNat) (by omega)).2.1
              refine va_castY hx hb hown (F.1.2.2.2.2 _ (List.mem_cons_of_mem _ (mm_4 _ (List.mem_of_getElem? (i := 2) rfl)))) (F.2.2.1.2.2 ("HubcascadeModel$Device", "HubcascadeModel$Device") (by decide +kernel)) (sg_recv (ci := 15) F.2.1 hB (by assumption) (by decide) rfl) dX14_wake_176 ?_
              refine gf_X14_80 F hB dX14_wake_179 (by exact dv173) ?_
              refine lv_istore_n (lv' := [(3, .int _), (2, .int _), (1, .int _), (0, .ref _)]) hx hb dX14_wake_182 rfl hl (by decide) rfl (fun ls hl => ?_)
              refine lv_goto (tgt := 101) hx hb dX14_wake_183 (by decide) ?_
              try rw [sgI_nk (j := 7) (k := 12) (by decide), sgI_nk (j := 7) (k := 6) (by decide)] at hl
              have e8 := hhb z.toInt.toNat (by omega)
              refine ih101 _ ?_ _ _ _ _ _ _ _ hB (lv_sub hl [0, 1, 2, 3] rfl) hI3 ?_ (fun k hk => by first | exact hhb k hk | (rw [iHb_nk (by decide), iHb_nk (by decide)]; exact hhb k hk)) rfl
              · subst hd101
                rw [if_neg c103]
                by_cases q9 : sgI σ3 (gDv g z.toInt.toNat) 7 = -1
                · rw [if_pos q9]; omega
                · rw [if_neg q9]
                  have hk3 := (hrk z.toInt.toNat (by omega)).resolve_left (by rw [← e8]; exact m_zN q9)
                  have q8 := hk3.2.2
                  rw [← e8] at q8
                  unfold iHb at q8
                  omega
              · rcases hrk z.toInt.toNat (by omega) with q | q
                · exact Or.inl (i_eq.mpr (by rw [← e8] at q; exact q))
                · refine Or.inr ?_
                  rw [← e8] at q
                  exact ⟨q.1, q.2.1⟩
            · refine lv_aload_n hx hb dX14_wake_132 rfl (lv_at hl 3 rfl) ?_
              refine gr_X14_10 F hB dX14_wake_133 (inv_A hI3) (inv_r1 hI3) ?_
              refine lv_iload_n hx hb dX14_wake_136 rfl (lv_at hl 0 rfl) ?_
              refine sg_callV (ci := 4) F hB (m_getD l D cy hI3 z (by omega) (by omega) _) (cwV 1 F.1.2.2.2.2 (mgV (mm_4 _ (List.mem_of_getElem? (i := 3) rfl)) (mm_4 _ (List.mem_of_getElem? (i := 4) rfl)) (mm_4 _ (List.mem_of_getElem? (i := 5) rfl)) (mm_0 _ (List.mem_of_getElem? (i := 35) rfl)) (mm_3 _ (List.mem_of_getElem? (i := 34) rfl))) rfl rfl rfl ⟨rfl, by decide, by decide, by decide +kernel⟩ ⟨Nat.le_of_ble_eq_true rfl, Nat.le_of_ble_eq_true rfl⟩) rfl rfl (by decide) rfl hl.1 rfl (Nat.le_of_ble_eq_true rfl) dX14_wake_137 (Nat.le_of_ble_eq_true rfl) (Nat.add_le_add_right (Nat.le_of_ble_eq_true rfl) _) (inv_tD hI3).1 (fun H locs v σ137 N hBn hX137 hP => ?_)
              clear hB; have hB := hBn; clear hBn
              obtain ⟨rfl, rfl⟩ := hP
              have dv137 := (inv_dv hI3 (k := (z : Int32).toInt.toNat) (by omega)).2.1
              refine va_castY hx hb hown (F.1.2.2.2.2 _ (List.mem_cons_of_mem _ (mm_4 _ (List.mem_of_getElem? (i := 2) rfl)))) (F.2.2.1.2.2 ("HubcascadeModel$Device", "HubcascadeModel$Device") (by decide +kernel)) (sg_recv (ci := 15) F.2.1 hB (by assumption) (by decide) rfl) dX14_wake_140 ?_
              refine lv_bipush (v := 99) hx hb dX14_wake_143 (by decide) ?_
              refine pf_X14_53 F hB dX14_wake_145 dv137 ⟨by decide, by decide⟩ (fun H locs hBn => ?_)
              clear hB; have hB := hBn; clear hBn
              have hk1 : 1 ≤ z.toInt := by
                by_cases q : z.toInt = 0
                · have q9 : iSt g σ3 z.toInt.toNat = 122 := c129
                  rw [q] at q9
                  exact absurd ((iSt_host hI3).symm.trans q9) (by decide)
                · omega
              have hI145 := inv_st (v := 99) hI3 (k := z.toInt.toNat) (by omega) (by omega) (by decide) (fun z9 => by have q9 : iSt g σ3 z.toInt.toNat = 122 := c129; rw [q9] at z9; exact absurd z9 (by decide))
              refine lv_aload_n hx hb dX14_wake_148 rfl (lv_at hl 3 rfl) ?_
              refine gr_X14_10 F hB dX14_wake_149 (inv_A hI145) (inv_r1 hI145) ?_
              refine lv_iload_n hx hb dX14_wake_152 rfl (lv_at hl 0 rfl) ?_
              refine sg_callV (ci := 4) F hB (m_getD l D cy hI145 z (by omega) (by omega) _) (cwV 1 F.1.2.2.2.2 (mgV (mm_4 _ (List.mem_of_getElem? (i := 3) rfl)) (mm_4 _ (List.mem_of_getElem? (i := 4) rfl)) (mm_4 _ (List.mem_of_getElem? (i := 5) rfl)) (mm_0 _ (List.mem_of_getElem? (i := 35) rfl)) (mm_3 _ (List.mem_of_getElem? (i := 34) rfl))) rfl rfl rfl ⟨rfl, by decide, by decide, by decide +kernel⟩ ⟨Nat.le_of_ble_eq_true rfl, Nat.le_of_ble_eq_true rfl⟩) rfl rfl (by decide) rfl hl.1 rfl (Nat.le_of_ble_eq_true rfl) dX14_wake_153 (Nat.le_of_ble_eq_true rfl) (Nat.add_le_add_right (Nat.le_of_ble_eq_true rfl) _) (inv_tD hI145).1 (fun H locs v σ153 N hBn hX153 hP => ?_)
              clear hB; have hB := hBn; clear hBn
              obtain ⟨rfl, rfl⟩ := hP
              have dv153 := (inv_dv hI145 (k := (z : Int32).toInt.toNat) (by omega)).2.1
              refine va_castY hx hb hown (F.1.2.2.2.2 _ (List.mem_cons_of_mem _ (mm_4 _ (List.mem_of_getElem? (i := 2) rfl)))) (F.2.2.1.2.2 ("HubcascadeModel$Device", "HubcascadeModel$Device") (by decide +kernel)) (sg_recv (ci := 15) F.2.1 hB (by assumption) (by decide) rfl) dX14_wake_156 ?_
              refine lv_aload_n hx hb dX14_wake_159 rfl (lv_at hl 3 rfl) ?_
              refine gf_X14_205 F hB dX14_wake_160 (inv_A hI145) ?_
              refine lv_iload_n hx hb dX14_wake_163 rfl (lv_at hl 1 rfl) ?_
              refine lv_iadd hx hb dX14_wake_164 ?_
              refine pf_X14_146 F hB dX14_wake_165 (by exact dv153) (fun H locs hBn => ?_)
              clear hB; have hB := hBn; clear hBn
              have hI165 := inv_PIc (t := 16) hB hI145 (by exact dv153) (by unfold iCn; omega)
              refine lv_aload_n hx hb dX14_wake_168 rfl (lv_at hl 3 rfl) ?_
              refine gr_X14_10 F hB dX14_wake_169 (inv_A hI165) (inv_r1 hI165) ?_
              refine lv_iload_n hx hb dX14_wake_172 rfl (lv_at hl 0 rfl) ?_
              refine sg_callV (ci := 4) F hB (m_getD l D cy hI165 z (by omega) (by omega) _) (cwV 1 F.1.2.2.2.2 (mgV (mm_4 _ (List.mem_of_getElem? (i := 3) rfl)) (mm_4 _ (List.mem_of_getElem? (i := 4) rfl)) (mm_4 _ (List.mem_of_getElem? (i := 5) rfl)) (mm_0 _ (List.mem_of_getElem? (i := 35) rfl)) (mm_3 _ (List.mem_of_getElem? (i := 34) rfl))) rfl rfl rfl ⟨rfl, by decide, by decide, by decide +kernel⟩ ⟨Nat.le_of_ble_eq_true rfl, Nat.le_of_ble_eq_true rfl⟩) rfl rfl (by decide) rfl hl.1 rfl (Nat.le_of_ble_eq_true rfl) dX14_wake_173 (Nat.le_of_ble_eq_true rfl) (Nat.add_le_add_right (Nat.le_of_ble_eq_true rfl) _) (inv_tD hI165).1 (fun H locs v σ173 N hBn hX173 hP => ?_)
              clear hB; have hB := hBn; clear hBn
              obtain ⟨rfl, rfl⟩ := hP
              have dv173 := (inv_dv hI165 (k := (z : Int32).toInt.toNat) (by omega)).2.1
              refine va_castY hx hb hown (F.1.2.2.2.2 _ (List.mem_cons_of_mem _ (mm_4 _ (List.mem_of_getElem? (i := 2) rfl)))) (F.2.2.1.2.2 ("HubcascadeModel$Device", "HubcascadeModel$Device") (by decide +kernel)) (sg_recv (ci := 15) F.2.1 hB (by assumption) (by decide) rfl) dX14_wake_176 ?_
              refine gf_X14_80 F hB dX14_wake_179 (by exact dv173) ?_
              refine lv_istore_n (lv' := [(3, .int _), (2, .int _), (1, .int _), (0, .ref _)]) hx hb dX14_wake_182 rfl hl (by decide) rfl (fun ls hl => ?_)
              refine lv_goto (tgt := 101) hx hb dX14_wake_183 (by decide) ?_
              try rw [sgI_nk (j := 7) (k := 12) (by decide), sgI_nk (j := 7) (k := 6) (by decide)] at hl
              have e8 := hhb z.toInt.toNat (by omega)
              refine ih101 _ ?_ _ _ _ _ _ _ _ hB (lv_sub hl [0, 1, 2, 3] rfl) hI165 ?_ (fun k hk => by first | exact hhb k hk | (rw [iHb_nk (by decide), iHb_nk (by decide)]; exact hhb k hk)) rfl
              · subst hd101
                rw [if_neg c103]
                by_cases q9 : sgI σ3 (gDv g z.toInt.toNat) 7 = -1
                · rw [if_pos q9]; omega
                · rw [if_neg q9]
                  have hk3 := (hrk z.toInt.toNat (by omega)).resolve_left (by rw [← e8]; exact m_zN q9)
                  have q8 := hk3.2.2
                  rw [← e8] at q8
                  unfold iHb at q8
                  omega
              · rcases hrk z.toInt.toNat (by omega) with q | q
                · exact Or.inl (i_eq.mpr (by rw [← e8] at q; exact q))
                · refine Or.inr ?_
                  rw [← e8] at q
                  exact ⟨q.1, q.2.1⟩
      · refine lv_aload_n hx hb dX14_wake_47 rfl (lv_at hl 3 rfl) ?_
        refine gf_X14_61 F hB dX14_wake_48 (inv_A hI35) ?_
        rw [sgI_PI, if_pos ⟨rfl, rfl⟩]
        refine lv_if_ne (tgt := 99) hx hb dX14_wake_51 (by decide) (fun c51 => (by first | exact absurd c51 (by decide) | exact (c51 (by decide)).elim)) (fun c51 => ?_)
        obtain ⟨z6, z7⟩ := hzr.resolve_left c44
        refine lv_iload_n hx hb dX14_wake_54 rfl (lv_at hl 1 rfl) ?_
        refine lv_aload_n hx hb dX14_wake_55 rfl (lv_at hl 3 rfl) ?_
        refine gr_X14_10 F hB dX14_wake_56 (inv_A hI35) (inv_r1 hI35) ?_
        refine lv_iload_n hx hb dX14_wake_59 rfl (lv_at hl 0 rfl) ?_
        refine sg_callV (ci := 4) F hB (m_getD l D cy hI35 z (by omega) (by omega) _) (cwV 1 F.1.2.2.2.2 (mgV (mm_4 _ (List.mem_of_getElem? (i := 3) rfl)) (mm_4 _ (List.mem_of_getElem? (i := 4) rfl)) (mm_4 _ (List.mem_of_getElem? (i := 5) rfl)) (mm_0 _ (List.mem_of_getElem? (i := 35) rfl)) (mm_3 _ (List.mem_of_getElem? (i := 34) rfl))) rfl rfl rfl ⟨rfl, by decide, by decide, by decide +kernel⟩ ⟨Nat.le_of_ble_eq_true rfl, Nat.le_of_ble_eq_true rfl⟩) rfl rfl (by decide) rfl hl.1 rfl (Nat.le_of_ble_eq_true rfl) dX14_wake_60 (Nat.le_of_ble_eq_true rfl) (Nat.add_le_add_right (Nat.le_of_ble_eq_true rfl) _) (inv_tD hI35).1 (fun H locs v σ60 N hBn hX60 hP => ?_)
        clear hB; have hB := hBn; clear hBn
        obtain ⟨rfl, rfl⟩ := hP
        have dv60 := (inv_dv hI35 (k := (z : Int32).toInt.toNat) (by omega)).2.1
        refine va_castY hx hb hown (F.1.2.2.2.2 _ (List.mem_cons_of_mem _ (mm_4 _ (List.mem_of_getElem? (i := 2) rfl)))) (F.2.2.1.2.2 ("HubcascadeModel$Device", "HubcascadeModel$Device") (by decide +kernel)) (sg_recv (ci := 15) F.2.1 hB (by assumption) (by decide) rfl) dX14_wake_63 ?_
        refine gf_X14_53 F hB dX14_wake_66 (by assumption) ?_
        refine lv_bipush (v := 122) hx hb dX14_wake_69 (by decide) ?_
        refine lv_icmp_ne (tgt := 78) hx hb dX14_wake_71 (by decide) (fun c71 => ?_) (fun c71 => ?_)
        · refine lv_iconst (v := 0) hx hb dX14_wake_78 (by decide) ?_
          refine lv_iadd hx hb dX14_wake_79 ?_
          refine lv_istore_n (lv' := [(2, .int _), (3, .int _), (1, .int _), (0, .ref _)]) hx hb dX14_wake_80 rfl hl (by decide) rfl (fun ls hl => ?_)
          refine lv_aload_n hx hb dX14_wake_81 rfl (lv_at hl 3 rfl) ?_
          refine gr_X14_10 F hB dX14_wake_82 (inv_A hI35) (inv_r1 hI35) ?_
          refine lv_iload_n hx hb dX14_wake_85 rfl (lv_at hl 1 rfl) ?_
          refine sg_callV (ci := 4) F hB (m_getD l D cy hI35 z (by omega) (by omega) _) (cwV 1 F.1.2.2.2.2 (mgV (mm_4 _ (List.mem_of_getElem? (i := 3) rfl)) (mm_4 _ (List.mem_of_getElem? (i := 4) rfl)) (mm_4 _ (List.mem_of_getElem? (i := 5) rfl)) (mm_0 _ (List.mem_of_getElem? (i := 35) rfl)) (mm_3 _ (List.mem_of_getElem? (i := 34) rfl))) rfl rfl rfl ⟨rfl, by decide, by decide, by decide +kernel⟩ ⟨Nat.le_of_ble_eq_true rfl, Nat.le_of_ble_eq_true rfl⟩) rfl rfl (by decide) rfl hl.1 rfl (Nat.le_of_ble_eq_true rfl) dX14_wake_86 (Nat.le_of_ble_eq_true rfl) (Nat.add_le_add_right (Nat.le_of_ble_eq_true rfl) _) (inv_tD hI35).1 (fun H locs v σ86 N hBn hX86 hP => ?_)
          clear hB; have hB := hBn; clear hBn
          obtain ⟨rfl, rfl⟩ := hP
          have dv86 := (inv_dv hI35 (k := (z : Int32).toInt.toNat) (by omega)).2.1
          refine va_castY hx hb hown (F.1.2.2.2.2 _ (List.mem_cons_of_mem _ (mm_4 _ (List.mem_of_getElem? (i := 2) rfl)))) (F.2.2.1.2.2 ("HubcascadeModel$Device", "HubcascadeModel$Device") (by decide +kernel)) (sg_recv (ci := 15) F.2.1 hB (by assumption) (by decide) rfl) dX14_wake_89 ?_
          refine gf_X14_80 F hB dX14_wake_92 (by assumption) ?_
          refine lv_istore_n (lv' := [(3, .int _), (2, .int _), (1, .int _), (0, .ref _)]) hx hb dX14_wake_95 rfl hl (by decide) rfl (fun ls hl => ?_)
          refine lv_goto (tgt := 42) hx hb dX14_wake_96 (by decide) ?_
          have e7 : sgI (sgPI (sgPI σ (kA K) 0 y2) (kA K) 0 0) (gDv g z.toInt.toNat) 7 = sgI σ (gDv g z.toInt.toNat) 7 := (sgI_nk (by decide)).trans (sgI_nk (by decide))
          rw [e7] at hl
          refine ih42 _ ?_ _ _ _ _ _ _ hB (lv_sub hl [0, 1, 2, 3] rfl) ?_ rfl
          · subst hd42
            rw [if_neg c44]
            by_cases q9 : sgI σ (gDv g z.toInt.toNat) 7 = -1
            · rw [if_pos q9]; omega
            · rw [if_neg q9]
              have hk3 := (hrk z.toInt.toNat (by omega)).resolve_left (m_zN q9)
              have := hk3.2.2
              unfold iHb at this
              omega
          · rcases hrk z.toInt.toNat (by omega) with q | q
            · exact Or.inl (i_eq.mpr q)
            · exact Or.inr ⟨q.1, q.2.1⟩
        · refine lv_iconst (v := 1) hx hb dX14_wake_74 (by decide) ?_
          refine lv_goto (tgt := 79) hx hb dX14_wake_75 (by decide) ?_
          refine lv_iadd hx hb dX14_wake_79 ?_
          refine lv_istore_n (lv' := [(2, .int _), (3, .int _), (1, .int _), (0, .ref _)]) hx hb dX14_wake_80 rfl hl (by decide) rfl (fun ls hl => ?_)
          refine lv_aload_n hx hb dX14_wake_81 rfl (lv_at hl 3 rfl) ?_
          refine gr_X14_10 F hB dX14_wake_82 (inv_A hI35) (inv_r1 hI35) ?_
          refine lv_iload_n hx hb dX14_wake_85 rfl (lv_at hl 1 rfl) ?_
          refine sg_callV (ci := 4) F hB (m_getD l D cy hI35 z (by omega) (by omega) _) (cwV 1 F.1.2.2.2.2 (mgV (mm_4 _ (List.mem_of_getElem? (i := 3) rfl)) (mm_4 _ (List.mem_of_getElem? (i := 4) rfl)) (mm_4 _ (List.mem_of_getElem? (i := 5) rfl)) (mm_0 _ (List.mem_of_getElem? (i := 35) rfl)) (mm_3 _ (List.mem_of_getElem? (i := 34) rfl))) rfl rfl rfl ⟨rfl, by decide, by decide, by decide +kernel⟩ ⟨Nat.le_of_ble_eq_true rfl, Nat.le_of_ble_eq_true rfl⟩) rfl rfl (by decide) rfl hl.1 rfl (Nat.le_of_ble_eq_true rfl) dX14_wake_86 (Nat.le_of_ble_eq_true rfl) (Nat.add_le_add_right (Nat.le_of_ble_eq_true rfl) _) (inv_tD hI35).1 (fun H locs v σ86 N hBn hX86 hP => ?_)
          clear hB; have hB := hBn; clear hBn
          obtain ⟨rfl, rfl⟩ := hP
          have dv86 := (inv_dv hI35 (k := (z : Int32).toInt.toNat) (by omega)).2.1
          refine va_castY hx hb hown (F.1.2.2.2.2 _ (List.mem_cons_of_mem _ (mm_4 _ (List.mem_of_getElem? (i := 2) rfl)))) (F.2.2.1.2.2 ("HubcascadeModel$Device", "HubcascadeModel$Device") (by decide +kernel)) (sg_recv (ci := 15) F.2.1 hB (by assumption) (by decide) rfl) dX14_wake_89 ?_
          refine gf_X14_80 F hB dX14_wake_92 (by assumption) ?_
          refine lv_istore_n (lv' := [(3, .int _), (2, .int _), (1, .int _), (0, .ref _)]) hx hb dX14_wake_95 rfl hl (by decide) rfl (fun ls hl => ?_)
          refine lv_goto (tgt := 42) hx hb dX14_wake_96 (by decide) ?_
          have e7 : sgI (sgPI (sgPI σ (kA K) 0 y2) (kA K) 0 0) (gDv g z.toInt.toNat) 7 = sgI σ (gDv g z.toInt.toNat) 7 := (sgI_nk (by decide)).trans (sgI_nk (by decide))
          rw [e7] at hl
          refine ih42 _ ?_ _ _ _ _ _ _ hB (lv_sub hl [0, 1, 2, 3] rfl) ?_ rfl
          · subst hd42
            rw [if_neg c44]
            by_cases q9 : sgI σ (gDv g z.toInt.toNat) 7 = -1
            · rw [if_pos q9]; omega
            · rw [if_neg q9]
              have hk3 := (hrk z.toInt.toNat (by omega)).resolve_left (m_zN q9)
              have := hk3.2.2
              unfold iHb at this
              omega
          · rcases hrk z.toInt.toNat (by omega) with q | q
            · exact Or.inl (i_eq.mpr q)
            · exact Or.inr ⟨q.1, q.2.1⟩
  · refine lv_iconst (v := 0) hx hb dX14_wake_8 (by decide) ?_
    exact sg_iret F hB hrt dX14_wake_9 (by decide) (by decide) (⟨⟨_, rfl⟩, hI2⟩)
end MM20
