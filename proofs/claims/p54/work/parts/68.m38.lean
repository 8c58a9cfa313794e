section MM38
theorem oFr_tr {σ0 σ σ2 : SG} (h : oFr σ0 σ) (h2 : oFr σ σ2) : oFr σ0 σ2 := fun a ha => by
  obtain ⟨q1, q2, q3⟩ := h a ha
  obtain ⟨w1, w2, w3⟩ := h2 a (by rw [q1]; exact ha)
  exact ⟨w1.trans q1, w2.trans q2, fun k => ⟨(w3 k).1.trans (q3 k).1, (w3 k).2.trans (q3 k).2⟩⟩
theorem inv_R4 {eda n S hw : Nat} {ia : Nat → Nat} {K : KM} {g : GH} {σ : SG} (h : Inv eda ia K g n S hw σ) : sgR σ (kA K) 4 = some (kT K) := by
  obtain ⟨-, -, -, -, q, -⟩ := inv_Mr h
  exact q
theorem nw_c {σ : SG} {q t n9 : Nat} (a : Nat) (z : sgT σ a = 0) : sgT (sgNw σ q t n9) a = 0 ∨ sgT (sgNw σ q t n9) a = t := by
  by_cases c : a = q
  · exact Or.inr (by rw [sgNw_T, if_pos c])
  · exact Or.inl (by rw [sgNw_T, if_neg c]; exact z)
theorem m_1n {x : Int32} {n : Nat} (h : x.toInt = n) (h2 : n ≤ 16) (c : ¬ x.toInt = 0) : 0 < x.toInt ∧ x.toInt ≤ 16 ∧ x.toInt = n := by omega
theorem dX14_send_0 : decode cX14_send 0 = .ok (.aload_n 0, 1) := by decide +kernel
theorem dX14_send_1 : decode cX14_send 1 = .ok (.iload_n 1, 1) := by decide +kernel
theorem dX14_send_2 : decode cX14_send 2 = .ok (.invokevirtual 293, 3) := by decide +kernel
theorem dX14_send_5 : decode cX14_send 5 = .ok (.ifCond .eq 5, 3) := by decide +kernel
theorem dX14_send_8 : decode cX14_send 8 = .ok (.iconst 0, 1) := by decide +kernel
theorem dX14_send_9 : decode cX14_send 9 = .ok (.ireturn, 1) := by decide +kernel
theorem dX14_send_10 : decode cX14_send 10 = .ok (.aload_n 0, 1) := by decide +kernel
theorem dX14_send_11 : decode cX14_send 11 = .ok (.getfield 18, 3) := by decide +kernel
theorem dX14_send_14 : decode cX14_send 14 = .ok (.iload_n 1, 1) := by decide +kernel
theorem dX14_send_15 : decode cX14_send 15 = .ok (.aaload, 1) := by decide +kernel
theorem dX14_send_16 : decode cX14_send 16 = .ok (.astore_n 2, 1) := by decide +kernel
theorem dX14_send_17 : decode cX14_send 17 = .ok (.aload_n 0, 1) := by decide +kernel
theorem dX14_send_18 : decode cX14_send 18 = .ok (.aload_n 0, 1) := by decide +kernel
theorem dX14_send_19 : decode cX14_send 19 = .ok (.aload_n 2, 1) := by decide +kernel
theorem dX14_send_20 : decode cX14_send 20 = .ok (.invokevirtual 296, 3) := by decide +kernel
theorem dX14_send_23 : decode cX14_send 23 = .ok (.getfield 300, 3) := by decide +kernel
theorem dX14_send_26 : decode cX14_send 26 = .ok (.ifCond .ne 13, 3) := by decide +kernel
theorem dX14_send_29 : decode cX14_send 29 = .ok (.aload_n 0, 1) := by decide +kernel
theorem dX14_send_30 : decode cX14_send 30 = .ok (.getfield 25, 3) := by decide +kernel
theorem dX14_send_33 : decode cX14_send 33 = .ok (.invokevirtual 202, 3) := by decide +kernel
theorem dX14_send_36 : decode cX14_send 36 = .ok (.ifCond .eq 7, 3) := by decide +kernel
theorem dX14_send_39 : decode cX14_send 39 = .ok (.iconst 2, 1) := by decide +kernel
theorem dX14_send_40 : decode cX14_send 40 = .ok (.goto 19, 3) := by decide +kernel
theorem dX14_send_43 : decode cX14_send 43 = .ok (.aload_n 2, 1) := by decide +kernel
theorem dX14_send_44 : decode cX14_send 44 = .ok (.getfield 199, 3) := by decide +kernel
theorem dX14_send_47 : decode cX14_send 47 = .ok (.invokevirtual 64, 3) := by decide +kernel
theorem dX14_send_50 : decode cX14_send 50 = .ok (.iconst 4, 1) := by decide +kernel
theorem dX14_send_51 : decode cX14_send 51 = .ok (.if_icmp .ne 7, 3) := by decide +kernel
theorem dX14_send_54 : decode cX14_send 54 = .ok (.iconst 3, 1) := by decide +kernel
theorem dX14_send_55 : decode cX14_send 55 = .ok (.goto 4, 3) := by decide +kernel
theorem dX14_send_58 : decode cX14_send 58 = .ok (.iconst 0, 1) := by decide +kernel
theorem dX14_send_59 : decode cX14_send 59 = .ok (.putfield 61, 3) := by decide +kernel
theorem dX14_send_62 : decode cX14_send 62 = .ok (.aload_n 0, 1) := by decide +kernel
theorem dX14_send_63 : decode cX14_send 63 = .ok (.getfield 61, 3) := by decide +kernel
theorem dX14_send_66 : decode cX14_send 66 = .ok (.ifCond .le 5, 3) := by decide +kernel
theorem dX14_send_69 : decode cX14_send 69 = .ok (.iconst 0, 1) := by decide +kernel
theorem dX14_send_70 : decode cX14_send 70 = .ok (.ireturn, 1) := by decide +kernel
theorem dX14_send_71 : decode cX14_send 71 = .ok (.aload_n 2, 1) := by decide +kernel
theorem dX14_send_72 : decode cX14_send 72 = .ok (.getfield 199, 3) := by decide +kernel
theorem dX14_send_75 : decode cX14_send 75 = .ok (.new 275, 3) := by decide +kernel
theorem dX14_send_78 : decode cX14_send 78 = .ok (.dup, 1) := by decide +kernel
theorem dX14_send_79 : decode cX14_send 79 = .ok (.aload_n 0, 1) := by decide +kernel
theorem dX14_send_80 : decode cX14_send 80 = .ok (.invokevirtual 303, 3) := by decide +kernel
theorem dX14_send_83 : decode cX14_send 83 = .ok (.aload_n 0, 1) := by decide +kernel
theorem dX14_send_84 : decode cX14_send 84 = .ok (.getfield 25, 3) := by decide +kernel
theorem dX14_send_87 : decode cX14_send 87 = .ok (.invokevirtual 64, 3) := by decide +kernel
theorem dX14_send_90 : decode cX14_send 90 = .ok (.invokespecial 307, 3) := by decide +kernel
theorem dX14_send_93 : decode cX14_send 93 = .ok (.invokevirtual 57, 3) := by decide +kernel
theorem dX14_send_96 : decode cX14_send 96 = .ok (.pop, 1) := by decide +kernel
theorem dX14_send_97 : decode cX14_send 97 = .ok (.aload_n 0, 1) := by decide +kernel
theorem dX14_send_98 : decode cX14_send 98 = .ok (.getfield 25, 3) := by decide +kernel
theorem dX14_send_101 : decode cX14_send 101 = .ok (.invokevirtual 218, 3) := by decide +kernel
theorem dX14_send_104 : decode cX14_send 104 = .ok (.aload_n 2, 1) := by decide +kernel
theorem dX14_send_105 : decode cX14_send 105 = .ok (.getfield 199, 3) := by decide +kernel
theorem dX14_send_108 : decode cX14_send 108 = .ok (.invokevirtual 64, 3) := by decide +kernel
theorem dX14_send_111 : decode cX14_send 111 = .ok (.ireturn, 1) := by decide +kernel
set_option maxRecDepth 100000 in
set_option maxHeartbeats 4000000 in
theorem m_send (l : Launch) (D : va_G) (cy : Nat → ClassId) {eda ca : Nat} {ia : Nat → Nat} {σ : SG} {K : KM} {g : GH} {n S hw : Nat} (h : Inv eda ia K g n S hw σ) (hY : nY g) (hH : nH g) (x : Int32) (sz : Nat) : sgM l D cy eda ca ia σ sz yX14_send (Cond.code yX14_send cX14_send 3 (some .int) :: mWall) 7 171 3 36 [.ref (kA K), .int x] (fun v σ2 => (∃ y : Int32, v = some (.int y)) ∧ ∃ g2, (nY g2 ∧ nH g2) ∧ Inv eda ia K g2 n S hw σ2) := by
  refine sg_ofW (cc := cX14_send) (maxL := 3) (ret := (some .int)) (by decide) rfl (Nat.le_of_ble_eq_true rfl) (lv := [(0, .ref (kA K)), (1, .int x)]) rfl (fun p e s m below meth c ls H N hrt hnm F hB hl => ?_) sz
  have hx := F.1.1
  have hb := F.1.2.1
  have hown := F.1.2.2.2.1
  generalize hlo : ([] : List Loc) = locs at hB ⊢
  clear hlo
  refine lv_aload_n hx hb dX14_send_0 rfl (lv_at hl 0 rfl) ?_
  refine lv_iload_n hx hb dX14_send_1 rfl (lv_at hl 1 rfl) ?_
  refine sg_callV (ci := 19) F hB (m_noPipe l D cy h x _) (cwV 1 F.1.2.2.2.2 (mgV (mm_8 _ (List.mem_of_getElem? (i := 39) rfl)) (mm_9 _ (List.mem_of_getElem? (i := 0) rfl)) (mm_9 _ (List.mem_of_getElem? (i := 1) rfl)) (mm_3 _ (List.mem_of_getElem? (i := 23) rfl)) (mm_8 _ (List.mem_of_getElem? (i := 38) rfl))) rfl rfl rfl ⟨rfl, by decide, by decide, by decide +kernel⟩ ⟨Nat.le_of_ble_eq_true rfl, Nat.le_of_ble_eq_true rfl⟩) rfl rfl (by decide) rfl hl.1 rfl (Nat.le_of_ble_eq_true rfl) dX14_send_2 (Nat.le_of_ble_eq_true rfl) (Nat.add_le_add_right (Nat.le_of_ble_eq_true rfl) _) (inv_A h) (fun H locs v σ2 N hBn hX2 hP => ?_)
  clear hB; have hB := hBn; clear hBn
  obtain ⟨y2, b2, rfl, rfl, hb2⟩ := hP
  have hI2 := inv_th h y2
  refine lv_if_eq (tgt := 10) hx hb dX14_send_5 (by decide) (fun c5 => ?_) (fun c5 => ?_)
  · obtain ⟨hx5, pp, hpp⟩ := Classical.not_not.mp (sgb_f hb2 c5)
    have tp := inv_pp hI2 (j := x.toInt.toNat) (by omega) hpp
    obtain ⟨l1, hl1, tl, rl, ol, sl, sl4⟩ := inv_pl hI2 tp
    refine lv_aload_n hx hb dX14_send_10 rfl (lv_at hl 0 rfl) ?_
    refine gr_X14_18 F hB dX14_send_11 (inv_A hI2) (inv_r2 hI2) ?_
    refine lv_iload_n hx hb dX14_send_14 rfl (lv_at hl 1 rfl) ?_
    refine sg_aaldR 9 hx hb F.2.1 hB.1 rfl rfl dX14_send_15 (inv_tP hI2).1 (by omega) (by rw [(inv_tP hI2).2]; omega) (by rw [(inv_tP hI2).2]; omega) hpp ?_
    refine lv_astore_n (lv' := [(2, .ref _), (0, .ref _), (1, .int _)]) hx hb dX14_send_16 rfl hl (by decide) rfl (fun ls hl => ?_)
    refine lv_aload_n hx hb dX14_send_17 rfl (lv_at hl 1 rfl) ?_
    refine lv_aload_n hx hb dX14_send_18 rfl (lv_at hl 1 rfl) ?_
    refine lv_aload_n hx hb dX14_send_19 rfl (lv_at hl 0 rfl) ?_
    refine sg_callV (ci := 19) F hB (m_endOf l D cy hI2 tp _) (cwV 1 F.1.2.2.2.2 (mgV (mm_9 _ (List.mem_of_getElem? (i := 10) rfl)) (mm_9 _ (List.mem_of_getElem? (i := 11) rfl)) (mm_9 _ (List.mem_of_getElem? (i := 12) rfl)) (mm_3 _ (List.mem_of_getElem? (i := 23) rfl)) (mm_9 _ (List.mem_of_getElem? (i := 5) rfl))) rfl rfl rfl ⟨rfl, by decide, by decide, by decide +kernel⟩ ⟨Nat.le_of_ble_eq_true rfl, Nat.le_of_ble_eq_true rfl⟩) rfl rfl (by decide) rfl hl.1 rfl (Nat.le_of_ble_eq_true rfl) dX14_send_20 (Nat.le_of_ble_eq_true rfl) (Nat.add_le_add_right (Nat.le_of_ble_eq_true rfl) _) (inv_A hI2) (fun H locs v σ20 N hBn hX20 hP => ?_)
    clear hB; have hB := hBn; clear hBn
    obtain ⟨x20, rfl, rfl, tx20, en20⟩ := hP
    refine gf_X14_300 F hB dX14_send_23 tx20 ?_
    refine lv_if_ne (tgt := 39) hx hb dX14_send_26 (by decide) (fun c26 => ?_) (fun c26 => ?_)
    · refine lv_iconst (v := 2) hx hb dX14_send_39 (by decide) ?_
      refine lv_goto (tgt := 59) hx hb dX14_send_40 (by decide) ?_
      refine pf_X14_61 F hB dX14_send_59 (inv_A hI2) (fun H locs hBn => ?_)
      clear hB; have hB := hBn; clear hBn
      have hI59 := inv_PIc (t := 20) hB hI2 (inv_A hI2) (by unfold iCn; omega)
      refine lv_aload_n hx hb dX14_send_62 rfl (lv_at hl 1 rfl) ?_
      refine gf_X14_61 F hB dX14_send_63 (inv_A hI59) ?_
      rw [sgI_PI, if_pos ⟨rfl, rfl⟩]
      refine lv_if_le (tgt := 71) hx hb dX14_send_66 (by decide) (fun c66 => (by first | exact absurd c66 (by decide) | exact (c66 (by decide)).elim)) (fun c66 => ?_)
      refine lv_iconst (v := 0) hx hb dX14_send_69 (by decide) ?_
      exact sg_iret F hB hrt dX14_send_70 (by decide) (by decide) (⟨⟨_, rfl⟩, g, ⟨hY, hH⟩, hI59⟩)
    · refine lv_aload_n hx hb dX14_send_29 rfl (lv_at hl 1 rfl) ?_
      refine gr_X14_25 F hB dX14_send_30 (inv_A hI2) (inv_r4 hI2) ?_
      refine sg_callV (ci := 4) F hB (m_isEmpty l D cy (by exact (inv_tT hI2).1) _) (cwV 0 F.1.2.2.2.2 (mgV (mm_7 _ (List.mem_of_getElem? (i := 8) rfl)) (mm_7 _ (List.mem_of_getElem? (i := 9) rfl)) (mm_7 _ (List.mem_of_getElem? (i := 10) rfl)) (mm_0 _ (List.mem_of_getElem? (i := 35) rfl)) (mm_7 _ (List.mem_of_getElem? (i := 7) rfl))) rfl rfl rfl ⟨rfl, by decide, by decide, by decide +kernel⟩ ⟨Nat.le_of_ble_eq_true rfl, Nat.le_of_ble_eq_true rfl⟩) rfl rfl (by decide) rfl hl.1 rfl (Nat.le_of_ble_eq_true rfl) dX14_send_33 (Nat.le_of_ble_eq_true rfl) (Nat.add_le_add_right (Nat.le_of_ble_eq_true rfl) _) (inv_tT hI2).1 (fun H locs v σ33 N hBn hX33 hP => ?_)
      clear hB; have hB := hBn; clear hBn
      obtain ⟨b33, rfl, rfl, hb33⟩ := hP
      refine lv_if_eq (tgt := 43) hx hb dX14_send_36 (by decide) (fun c36 => ?_) (fun c36 => ?_)
      · refine lv_aload_n hx hb dX14_send_43 rfl (lv_at hl 0 rfl) ?_
        refine gr_X14_199 F hB dX14_send_44 tp hl1 ?_
        refine sg_callV (ci := 4) F hB (m_size l D cy (by exact tl) _) (cwV 0 F.1.2.2.2.2 (mgV (mm_3 _ (List.mem_of_getElem? (i := 18) rfl)) (mm_3 _ (List.mem_of_getElem? (i := 19) rfl)) (mm_3 _ (List.mem_of_getElem? (i := 20) rfl)) (mm_0 _ (List.mem_of_getElem? (i := 35) rfl)) (mm_3 _ (List.mem_of_getElem? (i := 16) rfl))) rfl rfl rfl ⟨rfl, by decide, by decide, by decide +kernel⟩ ⟨Nat.le_of_ble_eq_true rfl, Nat.le_of_ble_eq_true rfl⟩) rfl rfl (by decide) rfl hl.1 rfl (Nat.le_of_ble_eq_true rfl) dX14_send_47 (Nat.le_of_ble_eq_true rfl) (Nat.add_le_add_right (Nat.le_of_ble_eq_true rfl) _) tl (fun H locs v σ47 N hBn hX47 hP => ?_)
        clear hB; have hB := hBn; clear hBn
        obtain ⟨rfl, rfl⟩ := hP
        refine lv_iconst (v := 4) hx hb dX14_send_50 (by decide) ?_
        refine lv_icmp_ne (tgt := 58) hx hb dX14_send_51 (by decide) (fun c51 => ?_) (fun c51 => ?_)
        · refine lv_iconst (v := 0) hx hb dX14_send_58 (by decide) ?_
          refine pf_X14_61 F hB dX14_send_59 (inv_A hI2) (fun H locs hBn => ?_)
          clear hB; have hB := hBn; clear hBn
          have hI59 := inv_PIc (t := 20) hB hI2 (inv_A hI2) (by unfold iCn; omega)
          refine lv_aload_n hx hb dX14_send_62 rfl (lv_at hl 1 rfl) ?_
          refine gf_X14_61 F hB dX14_send_63 (inv_A hI59) ?_
          rw [sgI_PI, if_pos ⟨rfl, rfl⟩]
          refine lv_if_le (tgt := 71) hx hb dX14_send_66 (by decide) (fun c66 => ?_) (fun c66 => (by first | exact absurd c66 (by decide) | exact (c66 (by decide)).elim))
          refine lv_aload_n hx hb dX14_send_71 rfl (lv_at hl 0 rfl) ?_
          refine gr_X14_199 F hB dX14_send_72 (by exact tp) (by exact hl1) ?_
          refine sg_new (C := RX13) (T := TX13) (N0 := 5) (ci := 18) (ty0 := tyX13) F hB (fun w h => List.mem_cons_of_mem _ (mmu_X13 w h)) tyX13_ok (F.1.2.2.2.2 _ (List.mem_cons_of_mem _ (mm_9 _ (List.mem_of_getElem? (i := 7) rfl)))) (F.1.2.2.2.2 _ (List.mem_cons_of_mem _ (mm_9 _ (List.mem_of_getElem? (i := 8) rfl)))) (F.1.2.2.2.2 _ (List.mem_cons_of_mem _ (mm_9 _ (List.mem_of_getElem? (i := 9) rfl)))) rfl (by decide) (by decide +kernel) (Nat.le_of_ble_eq_true rfl) (Nat.add_le_add_right (Nat.le_of_ble_eq_true rfl) _) dX14_send_75 (fun q75 H N hq75 hs75 hBn => ?_)
          clear hB; have hB := hBn; clear hBn
          refine lv_dup hx hb dX14_send_78 rfl ?_
          refine lv_aload_n hx hb dX14_send_79 rfl (lv_at hl 1 rfl) ?_
          have hO75 : oFr (sgPI (sgPI σ (kA K) 0 y2) (kA K) 0 0) (sgNw (sgPI (sgPI σ (kA K) 0 y2) (kA K) 0 0) q75 19 0) := oFr_nw oFr_rf hq75
          have hL75 := sgLS_nw (inv_LS hI59) hO75 (fun a z q => (nw_c a z).elim (fun w => absurd (w.symm.trans q) (by decide)) (fun w => absurd (w.symm.trans q) (by decide))) (fun a z q => (nw_c a z).elim (fun w => absurd (w.symm.trans q) (by decide)) (fun w => absurd (w.symm.trans q) (by decide))) (sg_eda F hB)
          have A75 : sgT (sgNw (sgPI (sgPI σ (kA K) 0 y2) (kA K) 0 0) q75 19 0) (kA K) = 20 := (hO75 _ (t_nz (inv_A hI59) (by decide))).1.trans (inv_A hI59)
          have R75 : sgR (sgNw (sgPI (sgPI σ (kA K) 0 y2) (kA K) 0 0) q75 19 0) (kA K) 4 = some (kT K) := ((hO75 _ (t_nz (inv_A hI59) (by decide))).2.2 4).2.trans (inv_R4 hI59)
          have T75 : sgT (sgNw (sgPI (sgPI σ (kA K) 0 y2) (kA K) 0 0) q75 19 0) (kT K) = 5 := (hO75 _ (t_nz (inv_tT hI59).1 (by decide))).1.trans (inv_tT hI59).1
          have sz75 : sgSz (sgNw (sgPI (sgPI σ (kA K) 0 y2) (kA K) 0 0) q75 19 0) (kT K) = sgSz (sgPI (sgPI σ (kA K) 0 y2) (kA K) 0 0) (kT K) := (hL75.2 (kT K) (inv_tT hI59).1 id).1
          have zt75 := inv_szT hI59
          have hs75 : (sgI (sgNw (sgPI (sgPI σ (kA K) 0 y2) (kA K) 0 0) q75 19 0) (kT K) 2).toInt = sgSz (sgNw (sgPI (sgPI σ (kA K) 0 y2) (kA K) 0 0) q75 19 0) (kT K) := by rw [sz75, ((hO75 _ (t_nz (inv_tT hI59).1 (by decide))).2.2 2).1]; exact zt75.1
          have h16_75 : sgSz (sgNw (sgPI (sgPI σ (kA K) 0 y2) (kA K) 0 0) q75 19 0) (kT K) ≤ 16 := by rw [sz75]; exact zt75.2
          have hel75 : ∀ k, k < sgSz (sgNw (sgPI (sgPI σ (kA K) 0 y2) (kA K) 0 0) q75 19 0) (kT K) → ∃ y, sgAt (sgNw (sgPI (sgPI σ (kA K) 0 y2) (kA K) 0 0) q75 19 0) (kT K) k = some y ∧ sgBx ia (sgNw (sgPI (sgPI σ (kA K) 0 y2) (kA K) 0 0) q75 19 0) y := fun k hk => by
            rw [sz75] at hk
            obtain ⟨y, e1, e2⟩ := inv_L hI59 _ (inv_tT hI59).1 k hk
            unfold iEl at e2
            rw [(inv_tT hI59).2] at e2
            exact ⟨y, ((hL75.2 _ (inv_tT hI59).1 id).2 k hk).trans e1, sgBx_mono (fun a ha => ⟨(hO75 a ha).1, (hO75 a ha).2.1⟩) e2⟩
          refine sg_callV (ci := 19) F hB (m_taken l D cy A75 R75 T75 hL75.1 hs75 h16_75 hel75 _) (cwV 0 F.1.2.2.2.2 (mgV (mm_9 _ (List.mem_of_getElem? (i := 13) rfl)) (mm_9 _ (List.mem_of_getElem? (i := 14) rfl)) (mm_9 _ (List.mem_of_getElem? (i := 15) rfl)) (mm_3 _ (List.mem_of_getElem? (i := 23) rfl)) (mm_9 _ (List.mem_of_getElem? (i := 6) rfl))) rfl rfl rfl ⟨rfl, by decide, by decide, by decide +kernel⟩ ⟨Nat.le_of_ble_eq_true rfl, Nat.le_of_ble_eq_true rfl⟩) rfl rfl (by decide) rfl hl.1 rfl (Nat.le_of_ble_eq_true rfl) dX14_send_80 (Nat.le_of_ble_eq_true rfl) (Nat.add_le_add_right (Nat.le_of_ble_eq_true rfl) _) A75 (fun H locs v σ80 N hBn hX80 hP => ?_)
          clear hB; have hB := hBn; clear hBn
          obtain ⟨r80, rfl, z80, hO80, t80, n80, w80⟩ := hP
          have q80 : sgT σ80 q75 = 19 := (hO80 q75 (by rw [sgNw_T, if_pos rfl]; decide)).1.trans (by rw [sgNw_T, if_pos rfl])
          have hO2 : oFr (sgPI (sgPI σ (kA K) 0 y2) (kA K) 0 0) σ80 := oFr_tr hO75 hO80
          have A80 : sgT σ80 (kA K) = 20 := (hO2 _ (t_nz (inv_A hI59) (by decide))).1.trans (inv_A hI59)
          have R80 : sgR σ80 (kA K) 4 = some (kT K) := ((hO2 _ (t_nz (inv_A hI59) (by decide))).2.2 4).2.trans (inv_R4 hI59)
          have T80 : sgT σ80 (kT K) = 5 := (hO2 _ (t_nz (inv_tT hI59).1 (by decide))).1.trans (inv_tT hI59).1
          have f80 : sgI σ80 q75 2 = 0 := ((hO80 q75 (by rw [sgNw_T, if_pos rfl]; decide)).2.2 2).1.trans (by rw [sgNw_I, if_pos rfl])
          have m80 : sgI σ80 (kT K) 2 = sgI (sgPI (sgPI σ (kA K) 0 y2) (kA K) 0 0) (kT K) 2 := ((hO2 _ (t_nz (inv_tT hI59).1 (by decide))).2.2 2).1
          have n80b : sgN σ80 r80 = sgSz (sgPI (sgPI σ (kA K) 0 y2) (kA K) 0 0) (kT K) := n80.trans sz75
          refine lv_aload_n hx hb dX14_send_83 rfl (lv_at hl 1 rfl) ?_
          refine gr_X14_25 F hB dX14_send_84 A80 R80 ?_
          refine sg_callV (ci := 4) F hB (m_size l D cy (by exact T80) _) (cwV 0 F.1.2.2.2.2 (mgV (mm_3 _ (List.mem_of_getElem? (i := 18) rfl)) (mm_3 _ (List.mem_of_getElem? (i := 19) rfl)) (mm_3 _ (List.mem_of_getElem? (i := 20) rfl)) (mm_0 _ (List.mem_of_getElem? (i := 35) rfl)) (mm_3 _ (List.mem_of_getElem? (i := 16) rfl))) rfl rfl rfl ⟨rfl, by decide, by decide, by decide +kernel⟩ ⟨Nat.le_of_ble_eq_true rfl, Nat.le_of_ble_eq_true rfl⟩) rfl rfl (by decide) rfl hl.1 rfl (Nat.le_of_ble_eq_true rfl) dX14_send_87 (Nat.le_of_ble_eq_true rfl) (Nat.add_le_add_right (Nat.le_of_ble_eq_true rfl) _) T80 (fun H locs v σ87 N hBn hX87 hP => ?_)
          clear hB; have hB := hBn; clear hBn
          obtain ⟨rfl, rfl⟩ := hP
          refine sg_callI F hB (m_trI l D cy q80 (sgI σ80 (kT K) 2) _) (cwI 2 F.1.2.2.2.2 (mgN (mm_1 _ (List.mem_of_getElem? (i := 15) rfl))) rfl rfl rfl (F.1.2.2.2.2 _ (List.mem_cons_of_mem _ (mm_9 _ (List.mem_of_getElem? (i := 9) rfl)))) (F.1.2.2.2.2 _ (List.mem_cons_of_mem _ (mm_9 _ (List.mem_of_getElem? (i := 16) rfl)))) (F.1.2.2.2.2 _ (List.mem_cons_of_mem _ (mm_9 _ (List.mem_of_getElem? (i := 17) rfl)))) rfl ⟨by decide, by decide, by decide +kernel⟩ ⟨Nat.le_of_ble_eq_true rfl, Nat.le_of_ble_eq_true rfl⟩) rfl hl.1 rfl (Nat.le_of_ble_eq_true rfl) dX14_send_90 (Nat.le_of_ble_eq_true rfl) (Nat.add_le_add_right (Nat.le_of_ble_eq_true rfl) _)  (fun H locs v σ90 N hBn hX90 hP => ?_)
          clear hB; have hB := hBn; clear hBn
          obtain ⟨rfl, rfl⟩ := hP
          have hO90 : oFr (sgPI (sgPI σ (kA K) 0 y2) (kA K) 0 0) (trT σ80 q75 r80 (sgI σ80 (kT K) 2)) := oFr_PI (oFr_PR hO2 hq75) hq75
          have b90 : sgR (trT σ80 q75 r80 (sgI σ80 (kT K) 2)) q75 0 = some r80 := if_pos ⟨rfl, rfl⟩
          have f1_90 : sgI (trT σ80 q75 r80 (sgI σ80 (kT K) 2)) q75 1 = sgI σ80 (kT K) 2 := if_pos ⟨rfl, rfl⟩
          have f2_90 : sgI (trT σ80 q75 r80 (sgI σ80 (kT K) 2)) q75 2 = 0 := (if_neg (fun z => absurd z.2 (by decide))).trans f80
          obtain ⟨hI90, lq90⟩ := inv_trG (F := (trT σ80 q75 r80 (sgI σ80 (kT K) 2))) hI59 hq75 hO90 q80 b90 t80 (by rw [show sgN (trT σ80 q75 r80 (sgI σ80 (kT K) 2)) r80 = sgN σ80 r80 from rfl, n80b]; exact zt75.2) (fun a z => (Classical.em (a = q75)).elim (fun c => Or.inr (Or.inr c)) (fun c => (w80 a (by rw [sgNw_T, if_neg c]; exact z)).elim (fun w => Or.inl w) (fun w => Or.inr (Or.inl w)))) (by exact sg_eda F hB) pp
          obtain ⟨hE90, hN90⟩ := tr_row (F := (trT σ80 q75 r80 (sgI σ80 (kT K) 2))) hI59 hq75 q80 lq90 (by exact tl) rl ol
          have tl90 : sgT (trT σ80 q75 r80 (sgI σ80 (kT K) 2)) l1 = 5 := (hO90 l1 (by exact t_nz tl (by decide))).1.trans tl
          have eI : ∀ b k, sgT σ b ≠ 20 → sgI (sgPI (sgPI σ (kA K) 0 y2) (kA K) 0 0) b k = sgI (sgPI σ (kA K) 0 y2) b k := fun b k hb9 => by rw [sgI_PI, if_neg (fun z => hb9 (by rw [z.1]; exact inv_A h))]
          have tpS : sgT σ pp = 18 := tp
          have txS : sgT σ x20 = 17 := tx20
          have en63 : iEn g (sgPI (sgPI σ (kA K) 0 y2) (kA K) 0 0) (sgI (sgPI (sgPI σ (kA K) 0 y2) (kA K) 0 0) pp 0).toInt.toNat (sgI (sgPI (sgPI σ (kA K) 0 y2) (kA K) 0 0) pp 1).toInt.toNat = some x20 := by rw [eI pp 0 (by rw [tpS]; decide), eI pp 1 (by rw [tpS]; decide)]; exact en20
          have hx90 := tr_x (g2 := gT g q75 pp) hI59 hO90 (fun _ => rfl) (by exact tp) en63
          have hf90 : (0 : Int) < (sgI σ80 (kT K) 2).toInt ∧ (sgI σ80 (kT K) 2).toInt ≤ 16 ∧ (sgI σ80 (kT K) 2).toInt = sgSz (sgPI (sgPI σ (kA K) 0 y2) (kA K) 0 0) (kT K) := by rw [m80]; exact m_1n zt75.1 zt75.2 (by rw [sgI_nk (by decide)]; exact sgb_f hb33 c36)
          have nl90 : l1 ≠ kA K := fun z => by have q : sgT σ l1 = 5 := tl; rw [z, inv_A h] at q; exact absurd q (by decide)
          have sz90 : sgSz (trT σ80 q75 r80 (sgI σ80 (kT K) 2)) l1 + 1 ≤ 4 := by rw [(lq90 l1 tl id).1]; exact (show sgSz (sgPI (sgPI σ (kA K) 0 y2) (kA K) 0 0) l1 + 1 ≤ 4 from by rw [show sgSz (sgPI (sgPI σ (kA K) 0 y2) (kA K) 0 0) l1 = sgSz (sgPI σ (kA K) 0 y2) l1 from sgSz_ne (a := kA K) (Ne.symm nl90)]; exact m_n4 sl sl4 c51)
          have ow90 : gOw (gT g q75 pp) l1 = pp := (show (if l1 = q75 then pp else gOw g l1) = pp from by split <;> first | rfl | exact ol)
          obtain ⟨ra93, za93, zb93⟩ := (inv_LS hI90).1 _ tl90 id
          refine sg_callV (ci := 4) F hB (m_add l D cy (by exact za93) (fun j y h1 h2 => (inv_LS hI90).2.2.1 ra93 j y h1 h2) q75 (iEl_K (l0 := _) (g := gT g q75 pp) (j := sgSz _ l1) (by exact hE90)) zb93 _) (cwV 1 F.1.2.2.2.2 (mgV (mm_3 _ (List.mem_of_getElem? (i := 9) rfl)) (mm_3 _ (List.mem_of_getElem? (i := 10) rfl)) (mm_3 _ (List.mem_of_getElem? (i := 11) rfl)) (mm_0 _ (List.mem_of_getElem? (i := 35) rfl)) (mm_2 _ (List.mem_of_getElem? (i := 29) rfl))) rfl rfl rfl ⟨rfl, by decide, by decide, by decide +kernel⟩ ⟨Nat.le_of_ble_eq_true rfl, Nat.le_of_ble_eq_true rfl⟩) rfl rfl (by decide) rfl hl.1 rfl (Nat.le_of_ble_eq_true rfl) dX14_send_93 (Nat.le_of_ble_eq_true rfl) (Nat.add_le_add_right (Nat.le_of_ble_eq_true rfl) _) (by exact tl90) (fun H locs v σ93 N hBn hX93 hP => ?_)
          clear hB; have hB := hBn; clear hBn
          obtain ⟨rfl, hAd93⟩ := hP
          obtain ⟨hI93, ada93, adb93, adc93, add93, ade93, adf93, adg93, adh93⟩ := inv_ad (n2 := n) hI90 tl90 za93 hAd93 (sg_eda F hB) hE90 (by rw [show gRo (gT g q75 pp) l1 = 7 from rl]; exact sz90) (Or.inl ⟨inv_nD hI90 (by rw [show gRo (gT g q75 pp) l1 = 7 from rl]; decide), rfl⟩) (fun _ => ⟨hN90, fun e1 x9 q1 q2 q3 => Or.inr ⟨by rw [f2_90]; decide, by rw [f2_90, f1_90]; exact hf90.1, by rw [f1_90]; exact hf90.2.1, fun _ b q4 => by rw [b90] at q4; obtain rfl := Option.some.inj q4; rw [f1_90, show sgN (trT σ80 q75 r80 (sgI σ80 (kT K) 2)) r80 = sgN σ80 r80 from rfl, n80b]; exact Int.le_of_eq hf90.2.2⟩⟩)
          have tp93 : sgT σ93 pp = 18 := tFr_T add93 ((hO90 pp (by exact t_nz tp (by decide))).1.trans tp) (by decide)
          refine lv_pop hx hb dX14_send_96 rfl ?_
          refine lv_aload_n hx hb dX14_send_97 rfl (lv_at hl 1 rfl) ?_
          refine gr_X14_25 F hB dX14_send_98 (inv_A hI93) (inv_r4 hI93) ?_
          obtain ⟨ra101, za101, zb101⟩ := (inv_LS hI93).1 _ (inv_tT hI93).1 id
          refine sg_callV (ci := 4) F hB (m_clr l D cy za101 _) (cwV 0 F.1.2.2.2.2 (mgV (mm_7 _ (List.mem_of_getElem? (i := 38) rfl)) (mm_7 _ (List.mem_of_getElem? (i := 39) rfl)) (mm_8 _ (List.mem_of_getElem? (i := 0) rfl)) (mm_0 _ (List.mem_of_getElem? (i := 35) rfl)) (mm_7 _ (List.mem_of_getElem? (i := 36) rfl))) rfl rfl rfl ⟨rfl, by decide, by decide, by decide +kernel⟩ ⟨Nat.le_of_ble_eq_true rfl, Nat.le_of_ble_eq_true rfl⟩) rfl rfl (by decide) rfl hl.1 rfl (Nat.le_of_ble_eq_true rfl) dX14_send_101 (Nat.le_of_ble_eq_true rfl) (Nat.add_le_add_right (Nat.le_of_ble_eq_true rfl) _) (inv_tT hI93).1 (fun H locs v σ101 N hBn hX101 hP => ?_)
          clear hB; have hB := hBn; clear hBn
          obtain ⟨rfl, ho, ho2, ho3, ho4⟩ := hP
          obtain ⟨hI101, -⟩ := inv_clr hI93 (inv_tT hI93).1 za101 ho ho2 ho3 ho4 (inv_tT hI93).2 (inv_nD hI93 (by rw [(inv_tT hI93).2]; decide))
          have tp101 : sgT σ101 pp = 18 := (ho.1 pp).1.trans tp93
          obtain ⟨l2, hl2, tl2, -⟩ := inv_pl hI101 tp101
          refine lv_aload_n hx hb dX14_send_104 rfl (lv_at hl 0 rfl) ?_
          refine gr_X14_199 F hB dX14_send_105 tp101 hl2 ?_
          refine sg_callV (ci := 4) F hB (m_size l D cy (by exact tl2) _) (cwV 0 F.1.2.2.2.2 (mgV (mm_3 _ (List.mem_of_getElem? (i := 18) rfl)) (mm_3 _ (List.mem_of_getElem? (i := 19) rfl)) (mm_3 _ (List.mem_of_getElem? (i := 20) rfl)) (mm_0 _ (List.mem_of_getElem? (i := 35) rfl)) (mm_3 _ (List.mem_of_getElem? (i := 16) rfl))) rfl rfl rfl ⟨rfl, by decide, by decide, by decide +kernel⟩ ⟨Nat.le_of_ble_eq_true rfl, Nat.le_of_ble_eq_true rfl⟩) rfl rfl (by decide) rfl hl.1 rfl (Nat.le_of_ble_eq_true rfl) dX14_send_108 (Nat.le_of_ble_eq_true rfl) (Nat.add_le_add_right (Nat.le_of_ble_eq_true rfl) _) tl2 (fun H locs v σ108 N hBn hX108 hP => ?_)
          clear hB; have hB := hBn; clear hBn
          obtain ⟨rfl, rfl⟩ := hP
          exact sg_iret F hB hrt dX14_send_111 (by decide) (by decide) (⟨⟨_, rfl⟩, _, ⟨(by exact hY), nH_T hH ol (inv_hd hI59 (by exact tp) (by decide))⟩, hI101⟩)
        · refine lv_iconst (v := 3) hx hb dX14_send_54 (by decide) ?_
          refine lv_goto (tgt := 59) hx hb dX14_send_55 (by decide) ?_
          refine pf_X14_61 F hB dX14_send_59 (inv_A hI2) (fun H locs hBn => ?_)
          clear hB; have hB := hBn; clear hBn
          have hI59 := inv_PIc (t := 20) hB hI2 (inv_A hI2) (by unfold iCn; omega)
          refine lv_aload_n hx hb dX14_send_62 rfl (lv_at hl 1 rfl) ?_
          refine gf_X14_61 F hB dX14_send_63 (inv_A hI59) ?_
          rw [sgI_PI, if_pos ⟨rfl, rfl⟩]
          refine lv_if_le (tgt := 71) hx hb dX14_send_66 (by decide) (fun c66 => (by first | exact absurd c66 (by decide) | exact (c66 (by decide)).elim)) (fun c66 => ?_)
          refine lv_iconst (v := 0) hx hb dX14_send_69 (by decide) ?_
          exact sg_iret F hB hrt dX14_send_70 (by decide) (by decide) (⟨⟨_, rfl⟩, g, ⟨hY, hH⟩, hI59⟩)
      · refine lv_iconst (v := 2) hx hb dX14_send_39 (by decide) ?_
        refine lv_goto (tgt := 59) hx hb dX14_send_40 (by decide) ?_
        refine pf_X14_61 F hB dX14_send_59 (inv_A hI2) (fun H locs hBn => ?_)
        clear hB; have hB := hBn; clear hBn
        have hI59 := inv_PIc (t := 20) hB hI2 (inv_A hI2) (by unfold iCn; omega)
        refine lv_aload_n hx hb dX14_send_62 rfl (lv_at hl 1 rfl) ?_
        refine gf_X14_61 F hB dX14_send_63 (inv_A hI59) ?_
        rw [sgI_PI, if_pos ⟨rfl, rfl⟩]
        refine lv_if_le (tgt := 71) hx hb dX14_send_66 (by decide) (fun c66 => (by first | exact absurd c66 (by decide) | exact (c66 (by decide)).elim)) (fun c66 => ?_)
        refine lv_iconst (v := 0) hx hb dX14_send_69 (by decide) ?_
        exact sg_iret F hB hrt dX14_send_70 (by decide) (by decide) (⟨⟨_, rfl⟩, g, ⟨hY, hH⟩, hI59⟩)
  · refine lv_iconst (v := 0) hx hb dX14_send_8 (by decide) ?_
    exact sg_iret F hB hrt dX14_send_9 (by decide) (by decide) (⟨⟨_, rfl⟩, g, ⟨hY, hH⟩, hI2⟩)
end MM38
