section MM36
theorem t_nz {σ : SG} {a t : Nat} (h : sgT σ a = t) (h0 : t ≠ 0) : sgT σ a ≠ 0 := by rw [h]; exact h0
theorem m_n4 {x : Int32} {n : Nat} (h : x.toInt = n) (h2 : n ≤ 4) (c : ¬ x = 4) : n + 1 ≤ 4 := by
  have q := m_neI c
  have : (4 : Int32).toInt = 4 := rfl
  omega
theorem dX14_ask_0 : decode cX14_ask 0 = .ok (.aload_n 0, 1) := by decide +kernel
theorem dX14_ask_1 : decode cX14_ask 1 = .ok (.iload_n 1, 1) := by decide +kernel
theorem dX14_ask_2 : decode cX14_ask 2 = .ok (.invokevirtual 293, 3) := by decide +kernel
theorem dX14_ask_5 : decode cX14_ask 5 = .ok (.ifCond .eq 5, 3) := by decide +kernel
theorem dX14_ask_8 : decode cX14_ask 8 = .ok (.iconst 0, 1) := by decide +kernel
theorem dX14_ask_9 : decode cX14_ask 9 = .ok (.ireturn, 1) := by decide +kernel
theorem dX14_ask_10 : decode cX14_ask 10 = .ok (.aload_n 0, 1) := by decide +kernel
theorem dX14_ask_11 : decode cX14_ask 11 = .ok (.getfield 18, 3) := by decide +kernel
theorem dX14_ask_14 : decode cX14_ask 14 = .ok (.iload_n 1, 1) := by decide +kernel
theorem dX14_ask_15 : decode cX14_ask 15 = .ok (.aaload, 1) := by decide +kernel
theorem dX14_ask_16 : decode cX14_ask 16 = .ok (.astore_n 3, 1) := by decide +kernel
theorem dX14_ask_17 : decode cX14_ask 17 = .ok (.aload_n 0, 1) := by decide +kernel
theorem dX14_ask_18 : decode cX14_ask 18 = .ok (.iload_n 2, 1) := by decide +kernel
theorem dX14_ask_19 : decode cX14_ask 19 = .ok (.iconst 1, 1) := by decide +kernel
theorem dX14_ask_20 : decode cX14_ask 20 = .ok (.bipush 16, 2) := by decide +kernel
theorem dX14_ask_22 : decode cX14_ask 22 = .ok (.invokestatic 68, 3) := by decide +kernel
theorem dX14_ask_25 : decode cX14_ask 25 = .ok (.ifCond .ne 7, 3) := by decide +kernel
theorem dX14_ask_28 : decode cX14_ask 28 = .ok (.iconst 2, 1) := by decide +kernel
theorem dX14_ask_29 : decode cX14_ask 29 = .ok (.goto 34, 3) := by decide +kernel
theorem dX14_ask_32 : decode cX14_ask 32 = .ok (.aload_n 0, 1) := by decide +kernel
theorem dX14_ask_33 : decode cX14_ask 33 = .ok (.aload_n 3, 1) := by decide +kernel
theorem dX14_ask_34 : decode cX14_ask 34 = .ok (.invokevirtual 296, 3) := by decide +kernel
theorem dX14_ask_37 : decode cX14_ask 37 = .ok (.getfield 300, 3) := by decide +kernel
theorem dX14_ask_40 : decode cX14_ask 40 = .ok (.ifCond .ne 7, 3) := by decide +kernel
theorem dX14_ask_43 : decode cX14_ask 43 = .ok (.iconst 3, 1) := by decide +kernel
theorem dX14_ask_44 : decode cX14_ask 44 = .ok (.goto 19, 3) := by decide +kernel
theorem dX14_ask_47 : decode cX14_ask 47 = .ok (.aload_n 3, 1) := by decide +kernel
theorem dX14_ask_48 : decode cX14_ask 48 = .ok (.getfield 199, 3) := by decide +kernel
theorem dX14_ask_51 : decode cX14_ask 51 = .ok (.invokevirtual 64, 3) := by decide +kernel
theorem dX14_ask_54 : decode cX14_ask 54 = .ok (.iconst 4, 1) := by decide +kernel
theorem dX14_ask_55 : decode cX14_ask 55 = .ok (.if_icmp .ne 7, 3) := by decide +kernel
theorem dX14_ask_58 : decode cX14_ask 58 = .ok (.iconst 4, 1) := by decide +kernel
theorem dX14_ask_59 : decode cX14_ask 59 = .ok (.goto 4, 3) := by decide +kernel
theorem dX14_ask_62 : decode cX14_ask 62 = .ok (.iconst 0, 1) := by decide +kernel
theorem dX14_ask_63 : decode cX14_ask 63 = .ok (.putfield 61, 3) := by decide +kernel
theorem dX14_ask_66 : decode cX14_ask 66 = .ok (.aload_n 0, 1) := by decide +kernel
theorem dX14_ask_67 : decode cX14_ask 67 = .ok (.getfield 61, 3) := by decide +kernel
theorem dX14_ask_70 : decode cX14_ask 70 = .ok (.ifCond .le 5, 3) := by decide +kernel
theorem dX14_ask_73 : decode cX14_ask 73 = .ok (.iconst 0, 1) := by decide +kernel
theorem dX14_ask_74 : decode cX14_ask 74 = .ok (.ireturn, 1) := by decide +kernel
theorem dX14_ask_75 : decode cX14_ask 75 = .ok (.aload_n 3, 1) := by decide +kernel
theorem dX14_ask_76 : decode cX14_ask 76 = .ok (.getfield 199, 3) := by decide +kernel
theorem dX14_ask_79 : decode cX14_ask 79 = .ok (.new 275, 3) := by decide +kernel
theorem dX14_ask_82 : decode cX14_ask 82 = .ok (.dup, 1) := by decide +kernel
theorem dX14_ask_83 : decode cX14_ask 83 = .ok (.iconst 0, 1) := by decide +kernel
theorem dX14_ask_84 : decode cX14_ask 84 = .ok (.newarray .int, 2) := by decide +kernel
theorem dX14_ask_86 : decode cX14_ask 86 = .ok (.iload_n 2, 1) := by decide +kernel
theorem dX14_ask_87 : decode cX14_ask 87 = .ok (.invokespecial 307, 3) := by decide +kernel
theorem dX14_ask_90 : decode cX14_ask 90 = .ok (.invokevirtual 57, 3) := by decide +kernel
theorem dX14_ask_93 : decode cX14_ask 93 = .ok (.pop, 1) := by decide +kernel
theorem dX14_ask_94 : decode cX14_ask 94 = .ok (.aload_n 3, 1) := by decide +kernel
theorem dX14_ask_95 : decode cX14_ask 95 = .ok (.getfield 199, 3) := by decide +kernel
theorem dX14_ask_98 : decode cX14_ask 98 = .ok (.invokevirtual 64, 3) := by decide +kernel
theorem dX14_ask_101 : decode cX14_ask 101 = .ok (.ireturn, 1) := by decide +kernel
set_option maxRecDepth 100000 in
set_option maxHeartbeats 4000000 in
theorem m_ask (l : Launch) (D : va_G) (cy : Nat → ClassId) {eda ca : Nat} {ia : Nat → Nat} {σ : SG} {K : KM} {g : GH} {n S hw : Nat} (h : Inv eda ia K g n S hw σ) (hY : nY g) (hH : nH g) (x w : Int32) (sz : Nat) : sgM l D cy eda ca ia σ sz yX14_ask (Cond.code yX14_ask cX14_ask 4 (some .int) :: mWall) 7 171 3 20 [.ref (kA K), .int x, .int w] (fun v σ2 => (∃ y : Int32, v = some (.int y)) ∧ ∃ g2, (nY g2 ∧ nH g2) ∧ Inv eda ia K g2 n S hw σ2) := by
  refine sg_ofW (cc := cX14_ask) (maxL := 4) (ret := (some .int)) (by decide) rfl (Nat.le_of_ble_eq_true rfl) (lv := [(0, .ref (kA K)), (1, .int x), (2, .int w)]) rfl (fun p e s m below meth c ls H N hrt hnm F hB hl => ?_) sz
  have hx := F.1.1
  have hb := F.1.2.1
  have hown := F.1.2.2.2.1
  have m1 : (1 : Int32).toInt = 1 := rfl
  have m16 : (16 : Int32).toInt = 16 := rfl
  refine lv_aload_n hx hb dX14_ask_0 rfl (lv_at hl 0 rfl) ?_
  refine lv_iload_n hx hb dX14_ask_1 rfl (lv_at hl 1 rfl) ?_
  refine sg_callV (ci := 19) F hB (m_noPipe l D cy h x _) (cwV 1 F.1.2.2.2.2 (mgV (mm_8 _ (List.mem_of_getElem? (i := 39) rfl)) (mm_9 _ (List.mem_of_getElem? (i := 0) rfl)) (mm_9 _ (List.mem_of_getElem? (i := 1) rfl)) (mm_3 _ (List.mem_of_getElem? (i := 23) rfl)) (mm_8 _ (List.mem_of_getElem? (i := 38) rfl))) rfl rfl rfl ⟨rfl, by decide, by decide, by decide +kernel⟩ ⟨Nat.le_of_ble_eq_true rfl, Nat.le_of_ble_eq_true rfl⟩) rfl rfl (by decide) rfl hl.1 rfl (Nat.le_of_ble_eq_true rfl) dX14_ask_2 (Nat.le_of_ble_eq_true rfl) (Nat.add_le_add_right (Nat.le_of_ble_eq_true rfl) _) (inv_A h) (fun H locs v σ2 N hBn hX2 hP => ?_)
  clear hB; have hB := hBn; clear hBn
  obtain ⟨y2, b2, rfl, rfl, hb2⟩ := hP
  have hI2 := inv_th h y2
  refine lv_if_eq (tgt := 10) hx hb dX14_ask_5 (by decide) (fun c5 => ?_) (fun c5 => ?_)
  · obtain ⟨hx5, pp, hpp⟩ := Classical.not_not.mp (sgb_f hb2 c5)
    have tp := inv_pp hI2 (j := x.toInt.toNat) (by omega) hpp
    obtain ⟨l1, hl1, tl, rl, ol, sl, sl4⟩ := inv_pl hI2 tp
    refine lv_aload_n hx hb dX14_ask_10 rfl (lv_at hl 0 rfl) ?_
    refine gr_X14_18 F hB dX14_ask_11 (inv_A hI2) (inv_r2 hI2) ?_
    refine lv_iload_n hx hb dX14_ask_14 rfl (lv_at hl 1 rfl) ?_
    refine sg_aaldR 9 hx hb F.2.1 hB.1 rfl rfl dX14_ask_15 (inv_tP hI2).1 (by omega) (by rw [(inv_tP hI2).2]; omega) (by rw [(inv_tP hI2).2]; omega) hpp ?_
    refine lv_astore_n (lv' := [(3, .ref _), (0, .ref _), (1, .int _), (2, .int _)]) hx hb dX14_ask_16 rfl hl (by decide) rfl (fun ls hl => ?_)
    refine lv_aload_n hx hb dX14_ask_17 rfl (lv_at hl 1 rfl) ?_
    refine lv_iload_n hx hb dX14_ask_18 rfl (lv_at hl 3 rfl) ?_
    refine lv_iconst (v := 1) hx hb dX14_ask_19 (by decide) ?_
    refine lv_bipush (v := 16) hx hb dX14_ask_20 (by decide) ?_
    refine sg_callS F hB (m_in l D cy w 1 16 _) (cwS 3 F.1.2.2.2.2 (mgS (mm_3 _ (List.mem_of_getElem? (i := 21) rfl)) (mm_3 _ (List.mem_of_getElem? (i := 22) rfl)) (mm_3 _ (List.mem_of_getElem? (i := 23) rfl)) (mm_1 _ (List.mem_of_getElem? (i := 19) rfl))) rfl rfl rfl ⟨rfl, by decide, by decide, by decide +kernel⟩ ⟨Nat.le_of_ble_eq_true rfl, Nat.le_of_ble_eq_true rfl⟩) rfl hl.1 rfl (Nat.le_of_ble_eq_true rfl) dX14_ask_22 (Nat.le_of_ble_eq_true rfl) (Nat.add_le_add_right (Nat.le_of_ble_eq_true rfl) _)  (fun H locs v σ22 N hBn hX22 hP => ?_)
    clear hB; have hB := hBn; clear hBn
    obtain ⟨b22, rfl, rfl, hb22⟩ := hP
    refine lv_if_ne (tgt := 32) hx hb dX14_ask_25 (by decide) (fun c25 => ?_) (fun c25 => ?_)
    · refine lv_aload_n hx hb dX14_ask_32 rfl (lv_at hl 1 rfl) ?_
      refine lv_aload_n hx hb dX14_ask_33 rfl (lv_at hl 0 rfl) ?_
      refine sg_callV (ci := 19) F hB (m_endOf l D cy hI2 tp _) (cwV 1 F.1.2.2.2.2 (mgV (mm_9 _ (List.mem_of_getElem? (i := 10) rfl)) (mm_9 _ (List.mem_of_getElem? (i := 11) rfl)) (mm_9 _ (List.mem_of_getElem? (i := 12) rfl)) (mm_3 _ (List.mem_of_getElem? (i := 23) rfl)) (mm_9 _ (List.mem_of_getElem? (i := 5) rfl))) rfl rfl rfl ⟨rfl, by decide, by decide, by decide +kernel⟩ ⟨Nat.le_of_ble_eq_true rfl, Nat.le_of_ble_eq_true rfl⟩) rfl rfl (by decide) rfl hl.1 rfl (Nat.le_of_ble_eq_true rfl) dX14_ask_34 (Nat.le_of_ble_eq_true rfl) (Nat.add_le_add_right (Nat.le_of_ble_eq_true rfl) _) (inv_A hI2) (fun H locs v σ34 N hBn hX34 hP => ?_)
      clear hB; have hB := hBn; clear hBn
      obtain ⟨x34, rfl, rfl, tx34, en34⟩ := hP
      refine gf_X14_300 F hB dX14_ask_37 tx34 ?_
      refine lv_if_ne (tgt := 47) hx hb dX14_ask_40 (by decide) (fun c40 => ?_) (fun c40 => ?_)
      · refine lv_aload_n hx hb dX14_ask_47 rfl (lv_at hl 0 rfl) ?_
        refine gr_X14_199 F hB dX14_ask_48 tp hl1 ?_
        refine sg_callV (ci := 4) F hB (m_size l D cy (by exact tl) _) (cwV 0 F.1.2.2.2.2 (mgV (mm_3 _ (List.mem_of_getElem? (i := 18) rfl)) (mm_3 _ (List.mem_of_getElem? (i := 19) rfl)) (mm_3 _ (List.mem_of_getElem? (i := 20) rfl)) (mm_0 _ (List.mem_of_getElem? (i := 35) rfl)) (mm_3 _ (List.mem_of_getElem? (i := 16) rfl))) rfl rfl rfl ⟨rfl, by decide, by decide, by decide +kernel⟩ ⟨Nat.le_of_ble_eq_true rfl, Nat.le_of_ble_eq_true rfl⟩) rfl rfl (by decide) rfl hl.1 rfl (Nat.le_of_ble_eq_true rfl) dX14_ask_51 (Nat.le_of_ble_eq_true rfl) (Nat.add_le_add_right (Nat.le_of_ble_eq_true rfl) _) tl (fun H locs v σ51 N hBn hX51 hP => ?_)
        clear hB; have hB := hBn; clear hBn
        obtain ⟨rfl, rfl⟩ := hP
        refine lv_iconst (v := 4) hx hb dX14_ask_54 (by decide) ?_
        refine lv_icmp_ne (tgt := 62) hx hb dX14_ask_55 (by decide) (fun c55 => ?_) (fun c55 => ?_)
        · refine lv_iconst (v := 0) hx hb dX14_ask_62 (by decide) ?_
          refine pf_X14_61 F hB dX14_ask_63 (inv_A hI2) (fun H locs hBn => ?_)
          clear hB; have hB := hBn; clear hBn
          have hI63 := inv_PIc (t := 20) hB hI2 (inv_A hI2) (by unfold iCn; omega)
          refine lv_aload_n hx hb dX14_ask_66 rfl (lv_at hl 1 rfl) ?_
          refine gf_X14_61 F hB dX14_ask_67 (inv_A hI63) ?_
          rw [sgI_PI, if_pos ⟨rfl, rfl⟩]
          refine lv_if_le (tgt := 75) hx hb dX14_ask_70 (by decide) (fun c70 => ?_) (fun c70 => (by first | exact absurd c70 (by decide) | exact (c70 (by decide)).elim))
          refine lv_aload_n hx hb dX14_ask_75 rfl (lv_at hl 0 rfl) ?_
          refine gr_X14_199 F hB dX14_ask_76 (by exact tp) (by exact hl1) ?_
          refine sg_new (C := RX13) (T := TX13) (N0 := 5) (ci := 18) (ty0 := tyX13) F hB (fun w h => List.mem_cons_of_mem _ (mmu_X13 w h)) tyX13_ok (F.1.2.2.2.2 _ (List.mem_cons_of_mem _ (mm_9 _ (List.mem_of_getElem? (i := 7) rfl)))) (F.1.2.2.2.2 _ (List.mem_cons_of_mem _ (mm_9 _ (List.mem_of_getElem? (i := 8) rfl)))) (F.1.2.2.2.2 _ (List.mem_cons_of_mem _ (mm_9 _ (List.mem_of_getElem? (i := 9) rfl)))) rfl (by decide) (by decide +kernel) (Nat.le_of_ble_eq_true rfl) (Nat.add_le_add_right (Nat.le_of_ble_eq_true rfl) _) dX14_ask_79 (fun q79 H N hq79 hs79 hBn => ?_)
          clear hB; have hB := hBn; clear hBn
          refine lv_dup hx hb dX14_ask_82 rfl ?_
          refine lv_iconst (v := 0) hx hb dX14_ask_83 (by decide) ?_
          refine sg_newa 0 (atype := .int) (ty := .int) (N' := 0) F hB (F.1.2.2.2.2 _ (List.mem_cons_of_mem _ (mm_0 _ (List.mem_of_getElem? (i := 11) rfl)))) rfl rfl (fun C z => by cases z) rfl (fun _ => rfl) (by decide) rfl (by decide) (Nat.le_of_ble_eq_true rfl) (Nat.add_le_add_right (Nat.le_of_ble_eq_true rfl) _) dX14_ask_84 (fun q84 H N hq84 hs84 hBn => ?_)
          clear hB; have hB := hBn; clear hBn
          obtain ⟨hQ84, tq84, nq84⟩ := sgB_nwf hB hq84 (by decide)
          refine lv_iload_n hx hb dX14_ask_86 rfl (lv_at hl 3 rfl) ?_
          refine sg_callI F hB (m_trI l D cy (show sgT (sgNw (sgNw _ q79 19 0) q84 100 0) q79 = 19 from nw_k (by rw [sgNw_T, if_pos rfl]) (by decide) hq84) w _) (cwI 2 F.1.2.2.2.2 (mgN (mm_1 _ (List.mem_of_getElem? (i := 15) rfl))) rfl rfl rfl (F.1.2.2.2.2 _ (List.mem_cons_of_mem _ (mm_9 _ (List.mem_of_getElem? (i := 9) rfl)))) (F.1.2.2.2.2 _ (List.mem_cons_of_mem _ (mm_9 _ (List.mem_of_getElem? (i := 16) rfl)))) (F.1.2.2.2.2 _ (List.mem_cons_of_mem _ (mm_9 _ (List.mem_of_getElem? (i := 17) rfl)))) rfl ⟨by decide, by decide, by decide +kernel⟩ ⟨Nat.le_of_ble_eq_true rfl, Nat.le_of_ble_eq_true rfl⟩) rfl hl.1 rfl (Nat.le_of_ble_eq_true rfl) dX14_ask_87 (Nat.le_of_ble_eq_true rfl) (Nat.add_le_add_right (Nat.le_of_ble_eq_true rfl) _)  (fun H locs v σ87 N hBn hX87 hP => ?_)
          clear hB; have hB := hBn; clear hBn
          obtain ⟨rfl, rfl⟩ := hP
          obtain ⟨hI87, hO87, tt87, f1_87, f2_87, lq87⟩ := inv_trN hI63 hq79 (by exact hq84) (by exact sg_eda F hB) pp
          obtain ⟨hE87, hN87⟩ := tr_row hI63 hq79 tt87 lq87 (by exact tl) rl ol
          have tl87 : sgT (trF (sgPI (sgPI σ (kA K) 0 y2) (kA K) 0 0) q79 q84 w) l1 = 5 := (hO87 l1 (by exact t_nz tl (by decide))).1.trans tl
          have eI : ∀ b k, sgT σ b ≠ 20 → sgI (sgPI (sgPI σ (kA K) 0 y2) (kA K) 0 0) b k = sgI (sgPI σ (kA K) 0 y2) b k := fun b k hb9 => by rw [sgI_PI, if_neg (fun z => hb9 (by rw [z.1]; exact inv_A h))]
          have tpS : sgT σ pp = 18 := tp
          have txS : sgT σ x34 = 17 := tx34
          have en63 : iEn g (sgPI (sgPI σ (kA K) 0 y2) (kA K) 0 0) (sgI (sgPI (sgPI σ (kA K) 0 y2) (kA K) 0 0) pp 0).toInt.toNat (sgI (sgPI (sgPI σ (kA K) 0 y2) (kA K) 0 0) pp 1).toInt.toNat = some x34 := by rw [eI pp 0 (by rw [tpS]; decide), eI pp 1 (by rw [tpS]; decide)]; exact en34
          have hx87 := tr_x (g2 := gT g q79 pp) hI63 hO87 (fun _ => rfl) (by exact tp) en63
          have in87 : ¬ sgI (trF (sgPI (sgPI σ (kA K) 0 y2) (kA K) 0 0) q79 q84 w) x34 0 = 0 := by rw [((hO87 x34 (by exact t_nz tx34 (by decide))).2.2 0).1, eI x34 0 (by rw [txS]; decide)]; exact c40
          have hw87 := sgb_t hb22 c25
          rw [m1, m16] at hw87
          have nl87 : l1 ≠ kA K := fun z => by have q : sgT σ l1 = 5 := tl; rw [z, inv_A h] at q; exact absurd q (by decide)
          have sz87 : sgSz (trF (sgPI (sgPI σ (kA K) 0 y2) (kA K) 0 0) q79 q84 w) l1 + 1 ≤ 4 := by rw [(lq87 l1 tl id).1]; exact (show sgSz (sgPI (sgPI σ (kA K) 0 y2) (kA K) 0 0) l1 + 1 ≤ 4 from by rw [show sgSz (sgPI (sgPI σ (kA K) 0 y2) (kA K) 0 0) l1 = sgSz (sgPI σ (kA K) 0 y2) l1 from sgSz_ne (a := kA K) (Ne.symm nl87)]; exact m_n4 sl sl4 c55)
          have ow87 : gOw (gT g q79 pp) l1 = pp := (show (if l1 = q79 then pp else gOw g l1) = pp from by split <;> first | rfl | exact ol)
          obtain ⟨ra90, za90, zb90⟩ := (inv_LS hI87).1 _ tl87 id
          refine sg_callV (ci := 4) F hB (m_add l D cy (by exact za90) (fun j y h1 h2 => (inv_LS hI87).2.2.1 ra90 j y h1 h2) q79 (iEl_K (l0 := _) (g := gT g q79 pp) (j := sgSz _ l1) (by exact hE87)) zb90 _) (cwV 1 F.1.2.2.2.2 (mgV (mm_3 _ (List.mem_of_getElem? (i := 9) rfl)) (mm_3 _ (List.mem_of_getElem? (i := 10) rfl)) (mm_3 _ (List.mem_of_getElem? (i := 11) rfl)) (mm_0 _ (List.mem_of_getElem? (i := 35) rfl)) (mm_2 _ (List.mem_of_getElem? (i := 29) rfl))) rfl rfl rfl ⟨rfl, by decide, by decide, by decide +kernel⟩ ⟨Nat.le_of_ble_eq_true rfl, Nat.le_of_ble_eq_true rfl⟩) rfl rfl (by decide) rfl hl.1 rfl (Nat.le_of_ble_eq_true rfl) dX14_ask_90 (Nat.le_of_ble_eq_true rfl) (Nat.add_le_add_right (Nat.le_of_ble_eq_true rfl) _) (by exact tl87) (fun H locs v σ90 N hBn hX90 hP => ?_)
          clear hB; have hB := hBn; clear hBn
          obtain ⟨rfl, hAd90⟩ := hP
          obtain ⟨hI90, ada90, adb90, adc90, add90, ade90, adf90, adg90, adh90⟩ := inv_ad (n2 := n) hI87 tl87 za90 hAd90 (sg_eda F hB) hE87 (by rw [show gRo (gT g q79 pp) l1 = 7 from rl]; exact sz87) (Or.inl ⟨inv_nD hI87 (by rw [show gRo (gT g q79 pp) l1 = 7 from rl]; decide), rfl⟩) (fun _ => ⟨hN87, fun e1 x9 q1 q2 q3 => Or.inr ⟨by rw [f2_87]; decide, by rw [f2_87, f1_87]; show (0 : Int) < _; omega, by rw [f1_87]; exact hw87.2, fun z => absurd z (by rw [ow87] at q1 q2; rw [hx87 e1 x9 q1 q2]; exact in87)⟩⟩)
          have tp90 : sgT σ90 pp = 18 := tFr_T add90 ((hO87 pp (by exact t_nz tp (by decide))).1.trans tp) (by decide)
          obtain ⟨l2, hl2, tl2, -⟩ := inv_pl hI90 tp90
          refine lv_pop hx hb dX14_ask_93 rfl ?_
          refine lv_aload_n hx hb dX14_ask_94 rfl (lv_at hl 0 rfl) ?_
          refine gr_X14_199 F hB dX14_ask_95 tp90 hl2 ?_
          refine sg_callV (ci := 4) F hB (m_size l D cy (by exact tl2) _) (cwV 0 F.1.2.2.2.2 (mgV (mm_3 _ (List.mem_of_getElem? (i := 18) rfl)) (mm_3 _ (List.mem_of_getElem? (i := 19) rfl)) (mm_3 _ (List.mem_of_getElem? (i := 20) rfl)) (mm_0 _ (List.mem_of_getElem? (i := 35) rfl)) (mm_3 _ (List.mem_of_getElem? (i := 16) rfl))) rfl rfl rfl ⟨rfl, by decide, by decide, by decide +kernel⟩ ⟨Nat.le_of_ble_eq_true rfl, Nat.le_of_ble_eq_true rfl⟩) rfl rfl (by decide) rfl hl.1 rfl (Nat.le_of_ble_eq_true rfl) dX14_ask_98 (Nat.le_of_ble_eq_true rfl) (Nat.add_le_add_right (Nat.le_of_ble_eq_true rfl) _) tl2 (fun H locs v σ98 N hBn hX98 hP => ?_)
          clear hB; have hB := hBn; clear hBn
          obtain ⟨rfl, rfl⟩ := hP
          exact sg_iret F hB hrt dX14_ask_101 (by decide) (by decide) (⟨⟨_, rfl⟩, _, ⟨(by exact hY), nH_T hH ol (inv_hd hI63 (by exact tp) (by decide))⟩, hI90⟩)
        · refine lv_iconst (v := 4) hx hb dX14_ask_58 (by decide) ?_
          refine lv_goto (tgt := 63) hx hb dX14_ask_59 (by decide) ?_
          refine pf_X14_61 F hB dX14_ask_63 (inv_A hI2) (fun H locs hBn => ?_)
          clear hB; have hB := hBn; clear hBn
          have hI63 := inv_PIc (t := 20) hB hI2 (inv_A hI2) (by unfold iCn; omega)
          refine lv_aload_n hx hb dX14_ask_66 rfl (lv_at hl 1 rfl) ?_
          refine gf_X14_61 F hB dX14_ask_67 (inv_A hI63) ?_
          rw [sgI_PI, if_pos ⟨rfl, rfl⟩]
          refine lv_if_le (tgt := 75) hx hb dX14_ask_70 (by decide) (fun c70 => (by first | exact absurd c70 (by decide) | exact (c70 (by decide)).elim)) (fun c70 => ?_)
          refine lv_iconst (v := 0) hx hb dX14_ask_73 (by decide) ?_
          exact sg_iret F hB hrt dX14_ask_74 (by decide) (by decide) (⟨⟨_, rfl⟩, g, ⟨hY, hH⟩, hI63⟩)
      · refine lv_iconst (v := 3) hx hb dX14_ask_43 (by decide) ?_
        refine lv_goto (tgt := 63) hx hb dX14_ask_44 (by decide) ?_
        refine pf_X14_61 F hB dX14_ask_63 (inv_A hI2) (fun H locs hBn => ?_)
        clear hB; have hB := hBn; clear hBn
        have hI63 := inv_PIc (t := 20) hB hI2 (inv_A hI2) (by unfold iCn; omega)
        refine lv_aload_n hx hb dX14_ask_66 rfl (lv_at hl 1 rfl) ?_
        refine gf_X14_61 F hB dX14_ask_67 (inv_A hI63) ?_
        rw [sgI_PI, if_pos ⟨rfl, rfl⟩]
        refine lv_if_le (tgt := 75) hx hb dX14_ask_70 (by decide) (fun c70 => (by first | exact absurd c70 (by decide) | exact (c70 (by decide)).elim)) (fun c70 => ?_)
        refine lv_iconst (v := 0) hx hb dX14_ask_73 (by decide) ?_
        exact sg_iret F hB hrt dX14_ask_74 (by decide) (by decide) (⟨⟨_, rfl⟩, g, ⟨hY, hH⟩, hI63⟩)
    · refine lv_iconst (v := 2) hx hb dX14_ask_28 (by decide) ?_
      refine lv_goto (tgt := 63) hx hb dX14_ask_29 (by decide) ?_
      refine pf_X14_61 F hB dX14_ask_63 (inv_A hI2) (fun H locs hBn => ?_)
      clear hB; have hB := hBn; clear hBn
      have hI63 := inv_PIc (t := 20) hB hI2 (inv_A hI2) (by unfold iCn; omega)
      refine lv_aload_n hx hb dX14_ask_66 rfl (lv_at hl 1 rfl) ?_
      refine gf_X14_61 F hB dX14_ask_67 (inv_A hI63) ?_
      rw [sgI_PI, if_pos ⟨rfl, rfl⟩]
      refine lv_if_le (tgt := 75) hx hb dX14_ask_70 (by decide) (fun c70 => (by first | exact absurd c70 (by decide) | exact (c70 (by decide)).elim)) (fun c70 => ?_)
      refine lv_iconst (v := 0) hx hb dX14_ask_73 (by decide) ?_
      exact sg_iret F hB hrt dX14_ask_74 (by decide) (by decide) (⟨⟨_, rfl⟩, g, ⟨hY, hH⟩, hI63⟩)
  · refine lv_iconst (v := 0) hx hb dX14_ask_8 (by decide) ?_
    exact sg_iret F hB hrt dX14_ask_9 (by decide) (by decide) (⟨⟨_, rfl⟩, g, ⟨hY, hH⟩, hI2⟩)
end MM36
