section CLK10
theorem dX9_detach_0 : decode cX9_detach 0 = .ok (.iconst 0, 1) := by decide +kernel
theorem dX9_detach_1 : decode cX9_detach 1 = .ok (.istore_n 3, 1) := by decide +kernel
theorem dX9_detach_2 : decode cX9_detach 2 = .ok (.iload_n 3, 1) := by decide +kernel
theorem dX9_detach_3 : decode cX9_detach 3 = .ok (.bipush 16, 2) := by decide +kernel
theorem dX9_detach_5 : decode cX9_detach 5 = .ok (.if_icmp .ge 38, 3) := by decide +kernel
theorem dX9_detach_8 : decode cX9_detach 8 = .ok (.aload_n 0, 1) := by decide +kernel
theorem dX9_detach_9 : decode cX9_detach 9 = .ok (.getfield 11, 3) := by decide +kernel
theorem dX9_detach_12 : decode cX9_detach 12 = .ok (.iload_n 3, 1) := by decide +kernel
theorem dX9_detach_13 : decode cX9_detach 13 = .ok (.aaload, 1) := by decide +kernel
theorem dX9_detach_14 : decode cX9_detach 14 = .ok (.astore 4, 2) := by decide +kernel
theorem dX9_detach_16 : decode cX9_detach 16 = .ok (.aload 4, 2) := by decide +kernel
theorem dX9_detach_18 : decode cX9_detach 18 = .ok (.aload 4, 2) := by decide +kernel
theorem dX9_detach_20 : decode cX9_detach 20 = .ok (.aload_n 1, 1) := by decide +kernel
theorem dX9_detach_21 : decode cX9_detach 21 = .ok (.if_acmp .ne 7, 3) := by decide +kernel
theorem dX9_detach_24 : decode cX9_detach 24 = .ok (.iload_n 2, 1) := by decide +kernel
theorem dX9_detach_25 : decode cX9_detach 25 = .ok (.goto 9, 3) := by decide +kernel
theorem dX9_detach_28 : decode cX9_detach 28 = .ok (.aload 4, 2) := by decide +kernel
theorem dX9_detach_30 : decode cX9_detach 30 = .ok (.aload_n 1, 1) := by decide +kernel
theorem dX9_detach_31 : decode cX9_detach 31 = .ok (.invokestatic 246, 3) := by decide +kernel
theorem dX9_detach_34 : decode cX9_detach 34 = .ok (.putfield 543, 3) := by decide +kernel
theorem dX9_detach_37 : decode cX9_detach 37 = .ok (.iinc 3 1, 3) := by decide +kernel
theorem dX9_detach_40 : decode cX9_detach 40 = .ok (.goto (-38), 3) := by decide +kernel
theorem dX9_detach_43 : decode cX9_detach 43 = .ok (.iconst 0, 1) := by decide +kernel
theorem dX9_detach_44 : decode cX9_detach 44 = .ok (.istore_n 3, 1) := by decide +kernel
theorem dX9_detach_45 : decode cX9_detach 45 = .ok (.iload_n 3, 1) := by decide +kernel
theorem dX9_detach_46 : decode cX9_detach 46 = .ok (.bipush 12, 2) := by decide +kernel
theorem dX9_detach_48 : decode cX9_detach 48 = .ok (.if_icmp .ge 46, 3) := by decide +kernel
theorem dX9_detach_51 : decode cX9_detach 51 = .ok (.aload_n 0, 1) := by decide +kernel
theorem dX9_detach_52 : decode cX9_detach 52 = .ok (.getfield 24, 3) := by decide +kernel
theorem dX9_detach_55 : decode cX9_detach 55 = .ok (.iload_n 3, 1) := by decide +kernel
theorem dX9_detach_56 : decode cX9_detach 56 = .ok (.aaload, 1) := by decide +kernel
theorem dX9_detach_57 : decode cX9_detach 57 = .ok (.getfield 546, 3) := by decide +kernel
theorem dX9_detach_60 : decode cX9_detach 60 = .ok (.astore 4, 2) := by decide +kernel
theorem dX9_detach_62 : decode cX9_detach 62 = .ok (.aload 4, 2) := by decide +kernel
theorem dX9_detach_64 : decode cX9_detach 64 = .ok (.ifnull 24, 3) := by decide +kernel
theorem dX9_detach_67 : decode cX9_detach 67 = .ok (.aload 4, 2) := by decide +kernel
theorem dX9_detach_69 : decode cX9_detach 69 = .ok (.getfield 543, 3) := by decide +kernel
theorem dX9_detach_72 : decode cX9_detach 72 = .ok (.ifCond .eq 16, 3) := by decide +kernel
theorem dX9_detach_75 : decode cX9_detach 75 = .ok (.aload_n 0, 1) := by decide +kernel
theorem dX9_detach_76 : decode cX9_detach 76 = .ok (.aload_n 0, 1) := by decide +kernel
theorem dX9_detach_77 : decode cX9_detach 77 = .ok (.getfield 24, 3) := by decide +kernel
theorem dX9_detach_80 : decode cX9_detach 80 = .ok (.iload_n 3, 1) := by decide +kernel
theorem dX9_detach_81 : decode cX9_detach 81 = .ok (.aaload, 1) := by decide +kernel
theorem dX9_detach_82 : decode cX9_detach 82 = .ok (.bipush 103, 2) := by decide +kernel
theorem dX9_detach_84 : decode cX9_detach 84 = .ok (.invokevirtual 338, 3) := by decide +kernel
theorem dX9_detach_87 : decode cX9_detach 87 = .ok (.pop, 1) := by decide +kernel
theorem dX9_detach_88 : decode cX9_detach 88 = .ok (.iinc 3 1, 3) := by decide +kernel
theorem dX9_detach_91 : decode cX9_detach 91 = .ok (.goto (-46), 3) := by decide +kernel
theorem dX9_detach_94 : decode cX9_detach 94 = .ok (.iconst 0, 1) := by decide +kernel
theorem dX9_detach_95 : decode cX9_detach 95 = .ok (.istore_n 3, 1) := by decide +kernel
theorem dX9_detach_96 : decode cX9_detach 96 = .ok (.iconst 0, 1) := by decide +kernel
theorem dX9_detach_97 : decode cX9_detach 97 = .ok (.istore 4, 2) := by decide +kernel
theorem dX9_detach_99 : decode cX9_detach 99 = .ok (.iload 4, 2) := by decide +kernel
theorem dX9_detach_101 : decode cX9_detach 101 = .ok (.bipush 16, 2) := by decide +kernel
theorem dX9_detach_103 : decode cX9_detach 103 = .ok (.if_icmp .ge 35, 3) := by decide +kernel
theorem dX9_detach_106 : decode cX9_detach 106 = .ok (.aload_n 0, 1) := by decide +kernel
theorem dX9_detach_107 : decode cX9_detach 107 = .ok (.getfield 11, 3) := by decide +kernel
theorem dX9_detach_110 : decode cX9_detach 110 = .ok (.iload 4, 2) := by decide +kernel
theorem dX9_detach_112 : decode cX9_detach 112 = .ok (.aaload, 1) := by decide +kernel
theorem dX9_detach_113 : decode cX9_detach 113 = .ok (.getfield 543, 3) := by decide +kernel
theorem dX9_detach_116 : decode cX9_detach 116 = .ok (.ifCond .eq 16, 3) := by decide +kernel
theorem dX9_detach_119 : decode cX9_detach 119 = .ok (.aload_n 0, 1) := by decide +kernel
theorem dX9_detach_120 : decode cX9_detach 120 = .ok (.getfield 11, 3) := by decide +kernel
theorem dX9_detach_123 : decode cX9_detach 123 = .ok (.iload 4, 2) := by decide +kernel
theorem dX9_detach_125 : decode cX9_detach 125 = .ok (.aaload, 1) := by decide +kernel
theorem dX9_detach_126 : decode cX9_detach 126 = .ok (.invokevirtual 549, 3) := by decide +kernel
theorem dX9_detach_129 : decode cX9_detach 129 = .ok (.iinc 3 1, 3) := by decide +kernel
theorem dX9_detach_132 : decode cX9_detach 132 = .ok (.iinc 4 1, 3) := by decide +kernel
theorem dX9_detach_135 : decode cX9_detach 135 = .ok (.goto (-36), 3) := by decide +kernel
theorem dX9_detach_138 : decode cX9_detach 138 = .ok (.iload_n 3, 1) := by decide +kernel
theorem dX9_detach_139 : decode cX9_detach 139 = .ok (.ireturn, 1) := by decide +kernel
set_option maxRecDepth 100000 in
set_option maxHeartbeats 4000000 in
theorem k_det (l : Launch) (D : va_G) (cy : Nat → ClassId) {ad τ : List Nat} {Y : CY} {σ : SG} (hst : l.stackTraces = false) (hs : vi_s1 vSG τ) (hV : VL cy ad τ Y σ) {B : Int} {t9 : Nat} {wt : Int32} (hI : SI Y σ B) (ht9 : t9 < 16) (hw2 : sgF 2 wt) (hw0 : t9 = 0 → wt = 0) (sz : Nat) : clM l D cy ad τ Y σ sz yX9_detach (Cond.code yX9_detach cX9_detach 5 (some .int) :: vWall) 3 77 [.ref (yX Y), .ref (yd Y t9), .int wt] (fun v s2 => (∃ x : Int32, v = some (.int x)) ∧ SI Y s2 B) := by
  refine cl_ofW (cc := cX9_detach) (maxL := 5) (ret := (some .int)) hV (by decide) rfl (Nat.le_of_ble_eq_true rfl) (lv := [(0, .ref (yX Y)), (1, .ref (yd Y t9)), (2, .int wt)]) rfl (fun p e s m below meth c ls H hrt hnm F hB hl => ?_) sz
  have hx := F.1.1
  have hb := F.1.2.1
  have hown := F.1.2.2.2.1
  generalize hlo : ([] : List Loc) = locs at hB ⊢
  clear hlo
  have e0 : (0 : Int32).toInt = 0 := rfl
  have e1 : (1 : Int32).toInt = 1 := rfl
  have e16 : (16 : Int32).toInt = 16 := rfl
  have e12 : (12 : Int32).toInt = 12 := rfl
  refine lv_iconst (v := 0) hx hb dX9_detach_0 (by decide) ?_
  refine lv_istore_n (lv' := [(3, .int _), (0, .ref _), (1, .ref _), (2, .int _)]) hx hb dX9_detach_1 rfl hl (by decide) rfl (fun ls hl => ?_)
  have key2 : ∃ (i3 : Int32) (σ1 : SG), clB D cy ad τ Y s σ1 H locs ∧ lv_has ls 5 [(3, .int i3), (2, .int wt), (1, .ref (yd Y t9)), (0, .ref (yX Y))] ∧ (0 ≤ i3.toInt ∧ i3.toInt ≤ 16) ∧ mk17 Y σ σ1 (lvP Y σ (yd Y t9) wt) i3.toInt.toNat := ⟨_, _, hB, (lv_sub hl [0, 3, 2, 1] rfl), ⟨by decide, by decide⟩, mk_0⟩
  clear hB hl
  obtain ⟨i3, σ1, hB, hl, hi3, hm1⟩ := key2
  obtain ⟨d2, hd2⟩ : ∃ d : Nat, d = 20 - i3.toInt.toNat := ⟨_, rfl⟩
  induction d2 using Nat.strongRecOn generalizing H locs ls i3 σ1
  rename_i d2 ih2
  have hV1 := hB.2
  obtain ⟨LX1, LD1, Ld1, LE1, Le1, LP91, Lp1, Lt1, LU1, LA1, Lz1⟩ := hV1.2
  refine lv_iload_n hx hb dX9_detach_2 rfl (lv_at hl 0 rfl) ?_
  refine lv_bipush (v := 16) hx hb dX9_detach_3 (by decide) ?_
  refine lv_icmp_ge (tgt := 43) hx hb dX9_detach_5 (by decide) (fun c5 => ?_) (fun c5 => ?_)
  · refine lv_iconst (v := 0) hx hb dX9_detach_43 (by decide) ?_
    refine lv_istore_n (lv' := [(3, .int _), (2, .int _), (1, .ref _), (0, .ref _)]) hx hb dX9_detach_44 rfl hl (by decide) rfl (fun ls hl => ?_)
    have key45 : ∃ (i4 : Int32) (σ2 : SG), clB D cy ad τ Y s σ2 H locs ∧ lv_has ls 5 [(3, .int i4), (2, .int wt), (1, .ref (yd Y t9)), (0, .ref (yX Y))] ∧ (0 ≤ i4.toInt ∧ i4.toInt ≤ 12) ∧ SI Y σ2 B ∧ dvS Y σ1 σ2 ∧ ∀ n, n < i4.toInt.toNat → n < 12 → qp Y σ2 n := ⟨_, _, hB, (lv_sub hl [0, 1, 2, 3] rfl), ⟨by decide, by decide⟩, mk_SI hV hI hm1, fun n hn => ⟨fun _ _ => rfl, rfl⟩, fun n hn => absurd hn (by rw [e0]; exact Nat.not_lt_zero n)⟩
    clear hB hl
    obtain ⟨i4, σ2, hB, hl, hi4, hI2, hdv2, hq2⟩ := key45
    obtain ⟨d45, hd45⟩ : ∃ d : Nat, d = 20 - i4.toInt.toNat := ⟨_, rfl⟩
    induction d45 using Nat.strongRecOn generalizing H locs ls i4 σ2
    rename_i d45 ih45
    have hV2 := hB.2
    obtain ⟨LX2, LD2, Ld2, LE2, Le2, LP92, Lp2, Lt2, LU2, LA2, Lz2⟩ := hV2.2
    have hm1 : mk17 Y σ σ1 (lvP Y σ (yd Y t9) wt) 16 := by have := i_le c5; rw [show 16 = i3.toInt.toNat by omega]; exact hm1
    refine lv_iload_n hx hb dX9_detach_45 rfl (lv_at hl 0 rfl) ?_
    refine lv_bipush (v := 12) hx hb dX9_detach_46 (by decide) ?_
    refine lv_icmp_ge (tgt := 94) hx hb dX9_detach_48 (by decide) (fun c48 => ?_) (fun c48 => ?_)
    · refine lv_iconst (v := 0) hx hb dX9_detach_94 (by decide) ?_
      refine lv_istore_n (lv' := [(3, .int _), (2, .int _), (1, .ref _), (0, .ref _)]) hx hb dX9_detach_95 rfl hl (by decide) rfl (fun ls hl => ?_)
      refine lv_iconst (v := 0) hx hb dX9_detach_96 (by decide) ?_
      refine lv_istore (lv' := [(4, .int _), (3, .int _), (2, .int _), (1, .ref _), (0, .ref _)]) hx hb dX9_detach_97 hl (by decide) rfl (fun ls hl => ?_)
      have key99 : ∃ (i5 x3 : Int32) (σ3 : SG), clB D cy ad τ Y s σ3 H locs ∧ lv_has ls 5 [(4, .int i5), (3, .int x3), (2, .int wt), (1, .ref (yd Y t9)), (0, .ref (yX Y))] ∧ (0 ≤ i5.toInt ∧ i5.toInt ≤ 16) ∧ lvJ Y σ2 σ3 i5.toInt.toNat := ⟨_, _, _, hB, (lv_sub hl [0, 1, 2, 3, 4] rfl), ⟨by decide, by decide⟩, lvJ_0⟩
      clear hB hl
      obtain ⟨i5, x3, σ3, hB, hl, hi5, hJ3⟩ := key99
      obtain ⟨d99, hd99⟩ : ∃ d : Nat, d = 20 - i5.toInt.toNat := ⟨_, rfl⟩
      induction d99 using Nat.strongRecOn generalizing H locs ls i5 x3 σ3
      rename_i d99 ih99
      have hV3 := hB.2
      obtain ⟨LX3, LD3, Ld3, LE3, Le3, LP93, Lp3, Lt3, LU3, LA3, Lz3⟩ := hV3.2
      refine lv_iload hx hb dX9_detach_99 (lv_at hl 0 rfl) ?_
      refine lv_bipush (v := 16) hx hb dX9_detach_101 (by decide) ?_
      refine lv_icmp_ge (tgt := 138) hx hb dX9_detach_103 (by decide) (fun c103 => ?_) (fun c103 => ?_)
      · refine lv_iload_n hx hb dX9_detach_138 rfl (lv_at hl 1 rfl) ?_
        exact cl_iret F hB hrt dX9_detach_139 (⟨⟨_, rfl⟩, SI_det hV hI hm1 hdv2 hV2 hI2 (fun n hn => hq2 n (by have := i_le c48; omega) hn) (by have := i_le c103; rw [show 16 = i5.toInt.toNat by omega]; exact hJ3) ht9 hw0⟩)
      · refine lv_aload_n hx hb dX9_detach_106 rfl (lv_at hl 4 rfl) ?_
        have hn3 := i_nle c103
        have hj3 : i5.toInt.toNat < 16 := by omega
        refine gr_X9_11 F hB dX9_detach_107 LX3.1 LX3.2.1 ?_
        refine lv_iload hx hb dX9_detach_110 (lv_at hl 0 rfl) ?_
        refine sg_aald 4 hx hb F.2.1 hB.1 rfl rfl dX9_detach_112 LD3.1 (by omega) (by rw [LD3.2.1]; omega) (by rw [LD3.2.1]; decide) ?_
        rw [show sgR _ _ _ = some _ from LD3.2.2 _ hj3]
        refine gf_X9_543 F hB dX9_detach_113 (Ld3 _ hj3).1 ?_
        refine lv_if_eq (tgt := 132) hx hb dX9_detach_116 (by decide) (fun c116 => ?_) (fun c116 => ?_)
        · refine lv_iinc (lv' := [(4, .int _), (3, .int _), (2, .int _), (1, .ref _), (0, .ref _)]) hx hb dX9_detach_132 hl (k := 0) rfl rfl (by decide) rfl (fun ls hl => ?_)
          refine lv_goto (tgt := 99) hx hb dX9_detach_135 (by decide) ?_
          have q99 := cl_add1 (x := i5) (by omega) (by omega)
          exact ih99 _ (by subst hd99; rw [q99]; omega) _ _ _ _ _ _ hB (lv_sub hl [0, 1, 2, 3, 4] rfl) ⟨by rw [q99]; omega, by rw [q99]; omega⟩ (by rw [q99, show (i5.toInt + 1).toNat = i5.toInt.toNat + 1 by omega]; first | exact lvJ_go hV2.2 hJ3 hj3 c116 hG | exact lvJ_no hJ3 hj3 c116 | fail "no road") rfl
        · refine lv_aload_n hx hb dX9_detach_119 rfl (lv_at hl 4 rfl) ?_
          refine gr_X9_11 F hB dX9_detach_120 LX3.1 LX3.2.1 ?_
          refine lv_iload hx hb dX9_detach_123 (lv_at hl 0 rfl) ?_
          refine sg_aald 4 hx hb F.2.1 hB.1 rfl rfl dX9_detach_125 LD3.1 (by omega) (by rw [LD3.2.1]; omega) (by rw [LD3.2.1]; decide) ?_
          rw [show sgR _ _ _ = some _ from LD3.2.2 _ hj3]
          refine cl_callN (ci := 6) F hB (k_leave l D cy hB.2 (Ld3 _ hj3).1 _) ⟨va_cnB 0 F.1.2.2.2.2 (vgN (vm_1 _ (List.mem_of_getElem? (i := 8) rfl))) rfl rfl rfl (F.2.2.1.1 _ nf_133) (F.1.2.2.2.2 _ (List.mem_cons_of_mem _ (vm_4 _ (List.mem_of_getElem? (i := 2) rfl)))) ⟨by decide, by decide, by decide +kernel⟩ ⟨Nat.le_of_ble_eq_true rfl, Nat.le_of_ble_eq_true rfl⟩, F.1.2.2.2.2 _ (List.mem_cons_of_mem _ (vm_5 _ (List.mem_of_getElem? (i := 37) rfl))), F.1.2.2.2.2 _ (List.mem_cons_of_mem _ (vm_5 _ (List.mem_of_getElem? (i := 38) rfl)))⟩ rfl rfl (by decide) rfl hl.1 rfl (Nat.le_of_ble_eq_true rfl) dX9_detach_126 ⟨Nat.le_of_ble_eq_true rfl, Nat.le_of_ble_eq_true rfl⟩ (Ld3 _ hj3).1 (fun H locs v σ126 hB hP => ?_)
          obtain ⟨rfl, hG⟩ := hP
          refine lv_iinc (lv' := [(3, .int _), (4, .int _), (2, .int _), (1, .ref _), (0, .ref _)]) hx hb dX9_detach_129 hl (k := 1) rfl rfl (by decide) rfl (fun ls hl => ?_)
          refine lv_iinc (lv' := [(4, .int _), (3, .int _), (2, .int _), (1, .ref _), (0, .ref _)]) hx hb dX9_detach_132 hl (k := 1) rfl rfl (by decide) rfl (fun ls hl => ?_)
          refine lv_goto (tgt := 99) hx hb dX9_detach_135 (by decide) ?_
          have q99 := cl_add1 (x := i5) (by omega) (by omega)
          exact ih99 _ (by subst hd99; rw [q99]; omega) _ _ _ _ _ _ hB (lv_sub hl [0, 1, 2, 3, 4] rfl) ⟨by rw [q99]; omega, by rw [q99]; omega⟩ (by rw [q99, show (i5.toInt + 1).toNat = i5.toInt.toNat + 1 by omega]; first | exact lvJ_go hV2.2 hJ3 hj3 c116 hG | exact lvJ_no hJ3 hj3 c116 | fail "no road") rfl
    · refine lv_aload_n hx hb dX9_detach_51 rfl (lv_at hl 3 rfl) ?_
      have hn2 := i_nle c48
      have hj2 : i4.toInt.toNat < 12 := by omega
      refine gr_X9_24 F hB dX9_detach_52 LX2.1 LX2.2.2.1 ?_
      refine lv_iload_n hx hb dX9_detach_55 rfl (lv_at hl 0 rfl) ?_
      refine sg_aald 6 hx hb F.2.1 hB.1 rfl rfl dX9_detach_56 LP92.1 (by omega) (by rw [LP92.2.1]; omega) (by rw [LP92.2.1]; decide) ?_
      rw [show sgR _ _ _ = some _ from LP92.2.2 _ hj2]
      refine gf_X9_546 F hB dX9_detach_57 (Lp2 _ hj2).1 ?_
      refine sg_split (fun hz57 => ?_) (fun b57 hz57 => ?_)
      · skip
        refine lv_astoreN (lv' := [(4, .null), (3, .int _), (2, .int _), (1, .ref _), (0, .ref _)]) hx hb dX9_detach_60 hl (by decide) rfl (fun ls hl => ?_)
        refine lv_aloadN hx hb dX9_detach_62 (lv_at hl 0 rfl) ?_
        refine lv_ifnullN (tgt := 88) hx hb dX9_detach_64 (by decide) ?_
        refine lv_iinc (lv' := [(3, .int _), (4, .null), (2, .int _), (1, .ref _), (0, .ref _)]) hx hb dX9_detach_88 hl (k := 1) rfl rfl (by decide) rfl (fun ls hl => ?_)
        refine lv_goto (tgt := 45) hx hb dX9_detach_91 (by decide) ?_
        have q45 := cl_add1 (x := i4) (by omega) (by omega)
        first | exact ih45 _ (by subst hd45; rw [q45]; omega) _ _ _ _ _ hB (lv_sub hl [0, 2, 3, 4] rfl) ⟨by rw [q45]; omega, by rw [q45]; omega⟩ hC84.1 (dvS_tr hdv2 hC84.2.1) (by rw [q45, show (i4.toInt + 1).toNat = i4.toInt.toNat + 1 by omega]; exact qp_c hq2 hC84.2.1 hC84.2.2.1 hC84.2.2.2) rfl | exact ih45 _ (by subst hd45; rw [q45]; omega) _ _ _ _ _ hB (lv_sub hl [0, 2, 3, 4] rfl) ⟨by rw [q45]; omega, by rw [q45]; omega⟩ hI2 hdv2 (by rw [q45, show (i4.toInt + 1).toNat = i4.toInt.toNat + 1 by omega]; exact qp_n hq2 (fun i hi hr => by rw [hz57] at hr; cases hr; exact c72)) rfl | exact ih45 _ (by subst hd45; rw [q45]; omega) _ _ _ _ _ hB (lv_sub hl [0, 2, 3, 4] rfl) ⟨by rw [q45]; omega, by rw [q45]; omega⟩ hI2 hdv2 (by rw [q45, show (i4.toInt + 1).toNat = i4.toInt.toNat + 1 by omega]; exact qp_n hq2 (fun i hi hr => by rw [hz57] at hr; cases hr)) rfl | fail "no road"
      · skip
        refine lv_astore (lv' := [(4, .ref _), (3, .int _), (2, .int _), (1, .ref _), (0, .ref _)]) hx hb dX9_detach_60 hl (by decide) rfl (fun ls hl => ?_)
        refine lv_aload hx hb dX9_detach_62 (lv_at hl 0 rfl) ?_
        refine lv_ifnull hx hb dX9_detach_64 ?_
        refine lv_aload hx hb dX9_detach_67 (lv_at hl 0 rfl) ?_
        refine gf_X9_543 F hB dX9_detach_69 (pi_dv hV2 hj2 hz57) ?_
        refine lv_if_eq (tgt := 88) hx hb dX9_detach_72 (by decide) (fun c72 => ?_) (fun c72 => ?_)
        · refine lv_iinc (lv' := [(3, .int _), (4, .ref _), (2, .int _), (1, .ref _), (0, .ref _)]) hx hb dX9_detach_88 hl (k := 1) rfl rfl (by decide) rfl (fun ls hl => ?_)
          refine lv_goto (tgt := 45) hx hb dX9_detach_91 (by decide) ?_
          have q45 := cl_add1 (x := i4) (by omega) (by omega)
          first | exact ih45 _ (by subst hd45; rw [q45]; omega) _ _ _ _ _ hB (lv_sub hl [0, 2, 3, 4] rfl) ⟨by rw [q45]; omega, by rw [q45]; omega⟩ hC84.1 (dvS_tr hdv2 hC84.2.1) (by rw [q45, show (i4.toInt + 1).toNat = i4.toInt.toNat + 1 by omega]; exact qp_c hq2 hC84.2.1 hC84.2.2.1 hC84.2.2.2) rfl | exact ih45 _ (by subst hd45; rw [q45]; omega) _ _ _ _ _ hB (lv_sub hl [0, 2, 3, 4] rfl) ⟨by rw [q45]; omega, by rw [q45]; omega⟩ hI2 hdv2 (by rw [q45, show (i4.toInt + 1).toNat = i4.toInt.toNat + 1 by omega]; exact qp_n hq2 (fun i hi hr => by rw [hz57] at hr; cases hr; exact c72)) rfl | exact ih45 _ (by subst hd45; rw [q45]; omega) _ _ _ _ _ hB (lv_sub hl [0, 2, 3, 4] rfl) ⟨by rw [q45]; omega, by rw [q45]; omega⟩ hI2 hdv2 (by rw [q45, show (i4.toInt + 1).toNat = i4.toInt.toNat + 1 by omega]; exact qp_n hq2 (fun i hi hr => by rw [hz57] at hr; cases hr)) rfl | fail "no road"
        · refine lv_aload_n hx hb dX9_detach_75 rfl (lv_at hl 4 rfl) ?_
          refine lv_aload_n hx hb dX9_detach_76 rfl (lv_at hl 4 rfl) ?_
          obtain ⟨e75, he75, -⟩ := siP_e hI2.2.1 hj2 hz57
          refine gr_X9_24 F hB dX9_detach_77 LX2.1 LX2.2.2.1 ?_
          refine lv_iload_n hx hb dX9_detach_80 rfl (lv_at hl 1 rfl) ?_
          refine sg_aald 6 hx hb F.2.1 hB.1 rfl rfl dX9_detach_81 LP92.1 (by omega) (by rw [LP92.2.1]; omega) (by rw [LP92.2.1]; decide) ?_
          rw [show sgR _ _ _ = some _ from LP92.2.2 _ hj2]
          refine lv_bipush (v := 103) hx hb dX9_detach_82 (by decide) ?_
          refine cl_callV (ci := 14) F hB (k_close l D cy hst hs hB.2 hj2 hz57 he75 103 (show sgF 1 103 from ⟨by decide, by decide⟩) _) (cwV 2 F.1.2.2.2.2 (vgV (vm_5 _ (List.mem_of_getElem? (i := 34) rfl)) (vm_5 _ (List.mem_of_getElem? (i := 35) rfl)) (vm_5 _ (List.mem_of_getElem? (i := 36) rfl)) (vm_4 _ (List.mem_of_getElem? (i := 20) rfl)) (vm_5 _ (List.mem_of_getElem? (i := 31) rfl))) rfl rfl rfl ⟨rfl, by decide, by decide, by decide +kernel⟩ ⟨Nat.le_of_ble_eq_true rfl, Nat.le_of_ble_eq_true rfl⟩) rfl rfl (by decide) rfl hl.1 rfl (Nat.le_of_ble_eq_true rfl) dX9_detach_84 ⟨Nat.le_of_ble_eq_true rfl, Nat.le_of_ble_eq_true rfl⟩ LX2.1 (fun H locs v σ84 hB hP => ?_)
          obtain ⟨⟨x84, rfl⟩, z84, σ86, σ85, hz84, hr84, hj84, h084, hE84⟩ := hP
          have hC84 := SI_close hV2 hI2 hj2 hz57 he75 hz84 hr84 hj84 h084
          rw [hE84] at hC84
          refine lv_pop hx hb dX9_detach_87 rfl ?_
          refine lv_iinc (lv' := [(3, .int _), (4, .ref _), (2, .int _), (1, .ref _), (0, .ref _)]) hx hb dX9_detach_88 hl (k := 1) rfl rfl (by decide) rfl (fun ls hl => ?_)
          refine lv_goto (tgt := 45) hx hb dX9_detach_91 (by decide) ?_
          have q45 := cl_add1 (x := i4) (by omega) (by omega)
          first | exact ih45 _ (by subst hd45; rw [q45]; omega) _ _ _ _ _ hB (lv_sub hl [0, 2, 3, 4] rfl) ⟨by rw [q45]; omega, by rw [q45]; omega⟩ hC84.1 (dvS_tr hdv2 hC84.2.1) (by rw [q45, show (i4.toInt + 1).toNat = i4.toInt.toNat + 1 by omega]; exact qp_c hq2 hC84.2.1 hC84.2.2.1 hC84.2.2.2) rfl | exact ih45 _ (by subst hd45; rw [q45]; omega) _ _ _ _ _ hB (lv_sub hl [0, 2, 3, 4] rfl) ⟨by rw [q45]; omega, by rw [q45]; omega⟩ hI2 hdv2 (by rw [q45, show (i4.toInt + 1).toNat = i4.toInt.toNat + 1 by omega]; exact qp_n hq2 (fun i hi hr => by rw [hz57] at hr; cases hr; exact c72)) rfl | exact ih45 _ (by subst hd45; rw [q45]; omega) _ _ _ _ _ hB (lv_sub hl [0, 2, 3, 4] rfl) ⟨by rw [q45]; omega, by rw [q45]; omega⟩ hI2 hdv2 (by rw [q45, show (i4.toInt + 1).toNat = i4.toInt.toNat + 1 by omega]; exact qp_n hq2 (fun i hi hr => by rw [hz57] at hr; cases hr)) rfl | fail "no road"
  · refine lv_aload_n hx hb dX9_detach_8 rfl (lv_at hl 3 rfl) ?_
    have hn1 := i_nle c5
    have hj1 : i3.toInt.toNat < 16 := by omega
    refine gr_X9_11 F hB dX9_detach_9 LX1.1 LX1.2.1 ?_
    refine lv_iload_n hx hb dX9_detach_12 rfl (lv_at hl 0 rfl) ?_
    refine sg_aald 4 hx hb F.2.1 hB.1 rfl rfl dX9_detach_13 LD1.1 (by omega) (by rw [LD1.2.1]; omega) (by rw [LD1.2.1]; decide) ?_
    rw [show sgR _ _ _ = some _ from LD1.2.2 _ hj1]
    refine lv_astore (lv' := [(4, .ref _), (3, .int _), (2, .int _), (1, .ref _), (0, .ref _)]) hx hb dX9_detach_14 hl (by decide) rfl (fun ls hl => ?_)
    refine lv_aload hx hb dX9_detach_16 (lv_at hl 0 rfl) ?_
    refine lv_aload hx hb dX9_detach_18 (lv_at hl 0 rfl) ?_
    refine lv_aload_n hx hb dX9_detach_20 rfl (lv_at hl 3 rfl) ?_
    refine lv_acmp_ne (rx := some _) (ry := some _) (tgt := 28) hx hb dX9_detach_21 (by decide) (fun c21 => ?_) (fun c21 => ?_)
    · refine lv_aload hx hb dX9_detach_28 (lv_at hl 0 rfl) ?_
      refine lv_aload_n hx hb dX9_detach_30 rfl (lv_at hl 3 rfl) ?_
      refine cl_callS F hB (k_below l D cy hB.2 (Ld1 _ hj1).1 _) (cwS 2 F.1.2.2.2.2 (vgS (vm_5 _ (List.mem_of_getElem? (i := 32) rfl)) (vm_5 _ (List.mem_of_getElem? (i := 33) rfl)) (vm_4 _ (List.mem_of_getElem? (i := 20) rfl)) (vm_5 _ (List.mem_of_getElem? (i := 6) rfl))) rfl rfl rfl ⟨rfl, by decide, by decide, by decide +kernel⟩ ⟨Nat.le_of_ble_eq_true rfl, Nat.le_of_ble_eq_true rfl⟩) rfl hl.1 rfl (Nat.le_of_ble_eq_true rfl) dX9_detach_31 ⟨Nat.le_of_ble_eq_true rfl, Nat.le_of_ble_eq_true rfl⟩ (fun H locs v σ31 hB hP => ?_)
      obtain ⟨⟨b31, rfl, hb31⟩, rfl⟩ := hP
      refine pf_X9_543 F hB dX9_detach_34 (Ld1 _ hj1).1 (by first | exact sgb_F hb31 | exact hw2) (fun H locs hBn => ?_)
      clear hB; have hB := hBn; clear hBn
      refine lv_iinc (lv' := [(3, .int _), (4, .ref _), (2, .int _), (1, .ref _), (0, .ref _)]) hx hb dX9_detach_37 hl (k := 1) rfl rfl (by decide) rfl (fun ls hl => ?_)
      refine lv_goto (tgt := 2) hx hb dX9_detach_40 (by decide) ?_
      have q2 := cl_add1 (x := i3) (by omega) (by omega)
      exact ih2 _ (by subst hd2; rw [q2]; omega) _ _ _ _ _ hB (lv_sub hl [0, 2, 3, 4] rfl) ⟨by rw [q2]; omega, by rw [q2]; omega⟩ (by rw [q2, show (i3.toInt + 1).toNat = i3.toInt.toNat + 1 by omega]; first | exact mk_st hV.2 hm1 hj1 (lvP_1 (Option.some.inj c21)) | exact mk_st hV.2 hm1 hj1 (lvP_2 hm1 (fun z => c21 (congrArg some z)) hb31) | fail "no road") rfl
    · refine lv_iload_n hx hb dX9_detach_24 rfl (lv_at hl 2 rfl) ?_
      refine lv_goto (tgt := 34) hx hb dX9_detach_25 (by decide) ?_
      refine pf_X9_543 F hB dX9_detach_34 (Ld1 _ hj1).1 (by first | exact sgb_F hb31 | exact hw2) (fun H locs hBn => ?_)
      clear hB; have hB := hBn; clear hBn
      refine lv_iinc (lv' := [(3, .int _), (4, .ref _), (2, .int _), (1, .ref _), (0, .ref _)]) hx hb dX9_detach_37 hl (k := 1) rfl rfl (by decide) rfl (fun ls hl => ?_)
      refine lv_goto (tgt := 2) hx hb dX9_detach_40 (by decide) ?_
      have q2 := cl_add1 (x := i3) (by omega) (by omega)
      exact ih2 _ (by subst hd2; rw [q2]; omega) _ _ _ _ _ hB (lv_sub hl [0, 2, 3, 4] rfl) ⟨by rw [q2]; omega, by rw [q2]; omega⟩ (by rw [q2, show (i3.toInt + 1).toNat = i3.toInt.toNat + 1 by omega]; first | exact mk_st hV.2 hm1 hj1 (lvP_1 (Option.some.inj c21)) | exact mk_st hV.2 hm1 hj1 (lvP_2 hm1 (fun z => c21 (congrArg some z)) hb31) | fail "no road") rfl

theorem dX9_disable_0 : decode cX9_disable 0 = .ok (.aload_n 1, 1) := by decide +kernel
theorem dX9_disable_1 : decode cX9_disable 1 = .ok (.iload_n 2, 1) := by decide +kernel
theorem dX9_disable_2 : decode cX9_disable 2 = .ok (.putfield 74, 3) := by decide +kernel
theorem dX9_disable_5 : decode cX9_disable 5 = .ok (.aload_n 1, 1) := by decide +kernel
theorem dX9_disable_6 : decode cX9_disable 6 = .ok (.dup, 1) := by decide +kernel
theorem dX9_disable_7 : decode cX9_disable 7 = .ok (.getfield 489, 3) := by decide +kernel
theorem dX9_disable_10 : decode cX9_disable 10 = .ok (.iconst 1, 1) := by decide +kernel
theorem dX9_disable_11 : decode cX9_disable 11 = .ok (.iadd, 1) := by decide +kernel
theorem dX9_disable_12 : decode cX9_disable 12 = .ok (.putfield 489, 3) := by decide +kernel
theorem dX9_disable_15 : decode cX9_disable 15 = .ok (.aload_n 0, 1) := by decide +kernel
theorem dX9_disable_16 : decode cX9_disable 16 = .ok (.aload_n 1, 1) := by decide +kernel
theorem dX9_disable_17 : decode cX9_disable 17 = .ok (.iconst 0, 1) := by decide +kernel
theorem dX9_disable_18 : decode cX9_disable 18 = .ok (.invokevirtual 190, 3) := by decide +kernel
theorem dX9_disable_21 : decode cX9_disable 21 = .ok (.pop, 1) := by decide +kernel
theorem dX9_disable_22 : decode cX9_disable 22 = .ok (.return_, 1) := by decide +kernel
set_option maxRecDepth 100000 in
set_option maxHeartbeats 4000000 in
theorem k_dis (l : Launch) (D : va_G) (cy : Nat → ClassId) {ad τ : List Nat} {Y : CY} {σ : SG} (hst : l.stackTraces = false) (hs : vi_s1 vSG τ) (hV : VL cy ad τ Y σ) {B : Int} {t9 : Nat} (hI : SI Y σ B) (ht9 : t9 < 16) (h1 : ¬ sgI σ (yd Y t9) 7 = 117) (ch : Int32) (hc : sgF 1 ch) (h2 : ¬ ch = 117) (h3 : ¬ ch = 110) (sz : Nat) : clM l D cy ad τ Y σ sz yX9_disable (Cond.code yX9_disable cX9_disable 3 none :: vWall) 4 101 [.ref (yX Y), .ref (yd Y t9), .int ch] (fun v s2 => v = none ∧ SI Y s2 B) := by
  refine cl_ofW (cc := cX9_disable) (maxL := 3) (ret := none) hV (by decide) rfl (Nat.le_of_ble_eq_true rfl) (lv := [(0, .ref (yX Y)), (1, .ref (yd Y t9)), (2, .int ch)]) rfl (fun p e s m below meth c ls H hrt hnm F hB hl => ?_) sz
  have hx := F.1.1
  have hb := F.1.2.1
  have hown := F.1.2.2.2.1
  generalize hlo : ([] : List Loc) = locs at hB ⊢
  clear hlo
  have e0 : (0 : Int32).toInt = 0 := rfl
  have e1 : (1 : Int32).toInt = 1 := rfl
  have e16 : (16 : Int32).toInt = 16 := rfl
  have e12 : (12 : Int32).toInt = 12 := rfl
  have tg := (hV.2.2.2.1 _ ht9).1
  refine lv_aload_n hx hb dX9_disable_0 rfl (lv_at hl 1 rfl) ?_
  refine lv_iload_n hx hb dX9_disable_1 rfl (lv_at hl 2 rfl) ?_
  refine pf_X9_74 F hB dX9_disable_2 tg hc (fun H locs hBn => ?_)
  clear hB; have hB := hBn; clear hBn
  refine lv_aload_n hx hb dX9_disable_5 rfl (lv_at hl 1 rfl) ?_
  refine lv_dup hx hb dX9_disable_6 rfl ?_
  have hV5 := hB.2
  have hI5 := SI_st hV hI ht9 h1 h2 h3
  refine gf_X9_489 F hB dX9_disable_7 tg ?_
  refine lv_iconst (v := 1) hx hb dX9_disable_10 (by decide) ?_
  refine lv_iadd hx hb dX9_disable_11 ?_
  refine pf_X9_489 F hB dX9_disable_12 tg (fun H locs hBn => ?_)
  clear hB; have hB := hBn; clear hBn
  refine lv_aload_n hx hb dX9_disable_15 rfl (lv_at hl 0 rfl) ?_
  refine lv_aload_n hx hb dX9_disable_16 rfl (lv_at hl 1 rfl) ?_
  refine lv_iconst (v := 0) hx hb dX9_disable_17 (by decide) ?_
  refine cl_callV (ci := 14) F hB (k_det l D cy hst hs hB.2 (SI_PI (k := 15) hV5 hI5 (t := 7) tg rfl (by decide)) ht9 (show sgF 2 0 from ⟨by decide, by decide⟩) (fun _ => rfl) _) (cwV 2 F.1.2.2.2.2 (vgV (vm_6 _ (List.mem_of_getElem? (i := 3) rfl)) (vm_6 _ (List.mem_of_getElem? (i := 4) rfl)) (vm_6 _ (List.mem_of_getElem? (i := 5) rfl)) (vm_4 _ (List.mem_of_getElem? (i := 20) rfl)) (vm_5 _ (List.mem_of_getElem? (i := 39) rfl))) rfl rfl rfl ⟨rfl, by decide, by decide, by decide +kernel⟩ ⟨Nat.le_of_ble_eq_true rfl, Nat.le_of_ble_eq_true rfl⟩) rfl rfl (by decide) rfl hl.1 rfl (Nat.le_of_ble_eq_true rfl) dX9_disable_18 ⟨Nat.le_of_ble_eq_true rfl, Nat.le_of_ble_eq_true rfl⟩ hB.2.2.1.1 (fun H locs v σ18 hB hP => ?_)
  obtain ⟨⟨x18, rfl⟩, hI18⟩ := hP
  refine lv_pop hx hb dX9_disable_21 rfl ?_
  exact cl_vret F hB hrt dX9_disable_22 (⟨rfl, hI18⟩)
end CLK10
