section CLK15
theorem dX9_passOut_0 : decode cX9_passOut 0 = .ok (.iload 5, 2) := by decide +kernel
theorem dX9_passOut_2 : decode cX9_passOut 2 = .ok (.bipush 99, 2) := by decide +kernel
theorem dX9_passOut_4 : decode cX9_passOut 4 = .ok (.if_icmp .eq 17, 3) := by decide +kernel
theorem dX9_passOut_7 : decode cX9_passOut 7 = .ok (.iload 5, 2) := by decide +kernel
theorem dX9_passOut_9 : decode cX9_passOut 9 = .ok (.bipush 98, 2) := by decide +kernel
theorem dX9_passOut_11 : decode cX9_passOut 11 = .ok (.if_icmp .eq 10, 3) := by decide +kernel
theorem dX9_passOut_14 : decode cX9_passOut 14 = .ok (.iload 5, 2) := by decide +kernel
theorem dX9_passOut_16 : decode cX9_passOut 16 = .ok (.bipush 116, 2) := by decide +kernel
theorem dX9_passOut_18 : decode cX9_passOut 18 = .ok (.if_icmp .ne 5, 3) := by decide +kernel
theorem dX9_passOut_21 : decode cX9_passOut 21 = .ok (.iconst 1, 1) := by decide +kernel
theorem dX9_passOut_22 : decode cX9_passOut 22 = .ok (.ireturn, 1) := by decide +kernel
theorem dX9_passOut_23 : decode cX9_passOut 23 = .ok (.iload 5, 2) := by decide +kernel
theorem dX9_passOut_25 : decode cX9_passOut 25 = .ok (.bipush 110, 2) := by decide +kernel
theorem dX9_passOut_27 : decode cX9_passOut 27 = .ok (.if_icmp .eq 10, 3) := by decide +kernel
theorem dX9_passOut_30 : decode cX9_passOut 30 = .ok (.iload 5, 2) := by decide +kernel
theorem dX9_passOut_32 : decode cX9_passOut 32 = .ok (.bipush 115, 2) := by decide +kernel
theorem dX9_passOut_34 : decode cX9_passOut 34 = .ok (.if_icmp .ne 29, 3) := by decide +kernel
theorem dX9_passOut_37 : decode cX9_passOut 37 = .ok (.aload_n 0, 1) := by decide +kernel
theorem dX9_passOut_38 : decode cX9_passOut 38 = .ok (.getfield 59, 3) := by decide +kernel
theorem dX9_passOut_41 : decode cX9_passOut 41 = .ok (.dup, 1) := by decide +kernel
theorem dX9_passOut_42 : decode cX9_passOut 42 = .ok (.getfield 484, 3) := by decide +kernel
theorem dX9_passOut_45 : decode cX9_passOut 45 = .ok (.iconst 1, 1) := by decide +kernel
theorem dX9_passOut_46 : decode cX9_passOut 46 = .ok (.iadd, 1) := by decide +kernel
theorem dX9_passOut_47 : decode cX9_passOut 47 = .ok (.putfield 484, 3) := by decide +kernel
theorem dX9_passOut_50 : decode cX9_passOut 50 = .ok (.iload 5, 2) := by decide +kernel
theorem dX9_passOut_52 : decode cX9_passOut 52 = .ok (.bipush 110, 2) := by decide +kernel
theorem dX9_passOut_54 : decode cX9_passOut 54 = .ok (.if_icmp .ne 7, 3) := by decide +kernel
theorem dX9_passOut_57 : decode cX9_passOut 57 = .ok (.iconst 2, 1) := by decide +kernel
theorem dX9_passOut_58 : decode cX9_passOut 58 = .ok (.goto 4, 3) := by decide +kernel
theorem dX9_passOut_61 : decode cX9_passOut 61 = .ok (.iconst 3, 1) := by decide +kernel
theorem dX9_passOut_62 : decode cX9_passOut 62 = .ok (.ireturn, 1) := by decide +kernel
theorem dX9_passOut_63 : decode cX9_passOut 63 = .ok (.aload_n 0, 1) := by decide +kernel
theorem dX9_passOut_64 : decode cX9_passOut 64 = .ok (.getfield 59, 3) := by decide +kernel
theorem dX9_passOut_67 : decode cX9_passOut 67 = .ok (.dup, 1) := by decide +kernel
theorem dX9_passOut_68 : decode cX9_passOut 68 = .ok (.getfield 481, 3) := by decide +kernel
theorem dX9_passOut_71 : decode cX9_passOut 71 = .ok (.iconst 1, 1) := by decide +kernel
theorem dX9_passOut_72 : decode cX9_passOut 72 = .ok (.iadd, 1) := by decide +kernel
theorem dX9_passOut_73 : decode cX9_passOut 73 = .ok (.putfield 481, 3) := by decide +kernel
theorem dX9_passOut_76 : decode cX9_passOut 76 = .ok (.aload_n 2, 1) := by decide +kernel
theorem dX9_passOut_77 : decode cX9_passOut 77 = .ok (.dup, 1) := by decide +kernel
theorem dX9_passOut_78 : decode cX9_passOut 78 = .ok (.getfield 629, 3) := by decide +kernel
theorem dX9_passOut_81 : decode cX9_passOut 81 = .ok (.iload 4, 2) := by decide +kernel
theorem dX9_passOut_83 : decode cX9_passOut 83 = .ok (.iadd, 1) := by decide +kernel
theorem dX9_passOut_84 : decode cX9_passOut 84 = .ok (.putfield 629, 3) := by decide +kernel
theorem dX9_passOut_87 : decode cX9_passOut 87 = .ok (.aload_n 2, 1) := by decide +kernel
theorem dX9_passOut_88 : decode cX9_passOut 88 = .ok (.getfield 640, 3) := by decide +kernel
theorem dX9_passOut_91 : decode cX9_passOut 91 = .ok (.aload_n 1, 1) := by decide +kernel
theorem dX9_passOut_92 : decode cX9_passOut 92 = .ok (.getfield 643, 3) := by decide +kernel
theorem dX9_passOut_95 : decode cX9_passOut 95 = .ok (.if_icmp .ne 20, 3) := by decide +kernel
theorem dX9_passOut_98 : decode cX9_passOut 98 = .ok (.aload_n 2, 1) := by decide +kernel
theorem dX9_passOut_99 : decode cX9_passOut 99 = .ok (.aload_n 3, 1) := by decide +kernel
theorem dX9_passOut_100 : decode cX9_passOut 100 = .ok (.iload 4, 2) := by decide +kernel
theorem dX9_passOut_102 : decode cX9_passOut 102 = .ok (.invokevirtual 636, 3) := by decide +kernel
theorem dX9_passOut_105 : decode cX9_passOut 105 = .ok (.aload_n 2, 1) := by decide +kernel
theorem dX9_passOut_106 : decode cX9_passOut 106 = .ok (.iconst 1, 1) := by decide +kernel
theorem dX9_passOut_107 : decode cX9_passOut 107 = .ok (.aload_n 2, 1) := by decide +kernel
theorem dX9_passOut_108 : decode cX9_passOut 108 = .ok (.getfield 640, 3) := by decide +kernel
theorem dX9_passOut_111 : decode cX9_passOut 111 = .ok (.isub, 1) := by decide +kernel
theorem dX9_passOut_112 : decode cX9_passOut 112 = .ok (.putfield 640, 3) := by decide +kernel
theorem dX9_passOut_115 : decode cX9_passOut 115 = .ok (.iload 5, 2) := by decide +kernel
theorem dX9_passOut_117 : decode cX9_passOut 117 = .ok (.bipush 32, 2) := by decide +kernel
theorem dX9_passOut_119 : decode cX9_passOut 119 = .ok (.if_icmp .eq 5, 3) := by decide +kernel
theorem dX9_passOut_122 : decode cX9_passOut 122 = .ok (.iconst 1, 1) := by decide +kernel
theorem dX9_passOut_123 : decode cX9_passOut 123 = .ok (.ireturn, 1) := by decide +kernel
theorem dX9_passOut_124 : decode cX9_passOut 124 = .ok (.aload_n 0, 1) := by decide +kernel
theorem dX9_passOut_125 : decode cX9_passOut 125 = .ok (.getfield 59, 3) := by decide +kernel
theorem dX9_passOut_128 : decode cX9_passOut 128 = .ok (.dup, 1) := by decide +kernel
theorem dX9_passOut_129 : decode cX9_passOut 129 = .ok (.getfield 484, 3) := by decide +kernel
theorem dX9_passOut_132 : decode cX9_passOut 132 = .ok (.iconst 1, 1) := by decide +kernel
theorem dX9_passOut_133 : decode cX9_passOut 133 = .ok (.iadd, 1) := by decide +kernel
theorem dX9_passOut_134 : decode cX9_passOut 134 = .ok (.putfield 484, 3) := by decide +kernel
theorem dX9_passOut_137 : decode cX9_passOut 137 = .ok (.aload_n 1, 1) := by decide +kernel
theorem dX9_passOut_138 : decode cX9_passOut 138 = .ok (.iconst 1, 1) := by decide +kernel
theorem dX9_passOut_139 : decode cX9_passOut 139 = .ok (.aload_n 1, 1) := by decide +kernel
theorem dX9_passOut_140 : decode cX9_passOut 140 = .ok (.getfield 643, 3) := by decide +kernel
theorem dX9_passOut_143 : decode cX9_passOut 143 = .ok (.isub, 1) := by decide +kernel
theorem dX9_passOut_144 : decode cX9_passOut 144 = .ok (.putfield 643, 3) := by decide +kernel
theorem dX9_passOut_147 : decode cX9_passOut 147 = .ok (.aload_n 3, 1) := by decide +kernel
theorem dX9_passOut_148 : decode cX9_passOut 148 = .ok (.dup, 1) := by decide +kernel
theorem dX9_passOut_149 : decode cX9_passOut 149 = .ok (.getfield 388, 3) := by decide +kernel
theorem dX9_passOut_152 : decode cX9_passOut 152 = .ok (.iload 4, 2) := by decide +kernel
theorem dX9_passOut_154 : decode cX9_passOut 154 = .ok (.iadd, 1) := by decide +kernel
theorem dX9_passOut_155 : decode cX9_passOut 155 = .ok (.putfield 388, 3) := by decide +kernel
theorem dX9_passOut_158 : decode cX9_passOut 158 = .ok (.iconst 0, 1) := by decide +kernel
theorem dX9_passOut_159 : decode cX9_passOut 159 = .ok (.ireturn, 1) := by decide +kernel
set_option maxRecDepth 100000 in
set_option maxHeartbeats 4000000 in
theorem k_pOut (l : Launch) (D : va_G) (cy : Nat → ClassId) {ad τ : List Nat} {Y : CY} {σ : SG} (hV : VL cy ad τ Y σ) {B : Int} (hI : SI Y σ B) {j i k T : Nat} (hj : j < 12) (hi : i < 16) (hk : k < 3) (hT : T < 4) (hQ : TQ Y σ j i k) (n fl : Int32) (hP0 : TP Y σ j i k T n.toInt) (h8 : n.toInt ≤ 8) (hB9 : B ≤ 1000000000) (hin : sgI σ (ye Y i k) 1 = 0) (sz : Nat) : clM l D cy ad τ Y σ sz yX9_passOut (Cond.code yX9_passOut cX9_passOut 6 (some .int) :: vWall) 2 44 [.ref (yX Y), .ref (yp Y j), .ref (ye Y i k), .ref (yt Y j T), .int n, .int fl] (fun v s2 => (∃ x : Int32, v = some (.int x)) ∧ SI Y s2 (B + 8) ∧ TQ Y s2 j i k) := by
  refine cl_ofW (cc := cX9_passOut) (maxL := 6) (ret := (some .int)) hV (by decide) rfl (Nat.le_of_ble_eq_true rfl) (lv := [(0, .ref (yX Y)), (1, .ref (yp Y j)), (2, .ref (ye Y i k)), (3, .ref (yt Y j T)), (4, .int n), (5, .int fl)]) rfl (fun p e s m below meth c ls H hrt hnm F hB hl => ?_) sz
  have hx := F.1.1
  have hb := F.1.2.1
  have hown := F.1.2.2.2.1
  generalize hlo : ([] : List Loc) = locs at hB ⊢
  clear hlo
  obtain ⟨LX, LD, Ld, LE, Le, LP9, Lp, Lt, LU, LA, Lz⟩ := hV.2
  have e0 : (0 : Int32).toInt = 0 := rfl
  have e1 : (1 : Int32).toInt = 1 := rfl
  have e16 : (16 : Int32).toInt = 16 := rfl
  have e12 : (12 : Int32).toInt = 12 := rfl
  have e4 : (4 : Int32).toInt = 4 := rfl
  have e8 : (8 : Int32).toInt = 8 := rfl
  have hV9 := hV
  have hI9 := hI
  have hQ9 := hQ
  have hT9 : TA Y σ j i k T n.toInt (sgI σ (ye Y i k) 1) := ⟨hQ, hP0, rfl⟩
  refine lv_iload hx hb dX9_passOut_0 (lv_at hl 5 rfl) ?_
  refine lv_bipush (v := 99) hx hb dX9_passOut_2 (by decide) ?_
  refine lv_icmp_eq (tgt := 21) hx hb dX9_passOut_4 (by decide) (fun c4 => ?_) (fun c4 => ?_)
  · refine lv_iconst (v := 1) hx hb dX9_passOut_21 (by decide) ?_
    exact cl_iret F hB hrt dX9_passOut_22 (by first | exact ⟨⟨_, rfl⟩, hI9, hQ9⟩ | exact ⟨⟨_, rfl⟩, SI_up hI9 (by omega), hQ9⟩ | fail "no road")
  · refine lv_iload hx hb dX9_passOut_7 (lv_at hl 5 rfl) ?_
    refine lv_bipush (v := 98) hx hb dX9_passOut_9 (by decide) ?_
    refine lv_icmp_eq (tgt := 21) hx hb dX9_passOut_11 (by decide) (fun c11 => ?_) (fun c11 => ?_)
    · refine lv_iconst (v := 1) hx hb dX9_passOut_21 (by decide) ?_
      exact cl_iret F hB hrt dX9_passOut_22 (by first | exact ⟨⟨_, rfl⟩, hI9, hQ9⟩ | exact ⟨⟨_, rfl⟩, SI_up hI9 (by omega), hQ9⟩ | fail "no road")
    · refine lv_iload hx hb dX9_passOut_14 (lv_at hl 5 rfl) ?_
      refine lv_bipush (v := 116) hx hb dX9_passOut_16 (by decide) ?_
      refine lv_icmp_ne (tgt := 23) hx hb dX9_passOut_18 (by decide) (fun c18 => ?_) (fun c18 => ?_)
      · refine lv_iload hx hb dX9_passOut_23 (lv_at hl 5 rfl) ?_
        refine lv_bipush (v := 110) hx hb dX9_passOut_25 (by decide) ?_
        refine lv_icmp_eq (tgt := 37) hx hb dX9_passOut_27 (by decide) (fun c27 => ?_) (fun c27 => ?_)
        · refine lv_aload_n hx hb dX9_passOut_37 rfl (lv_at hl 0 rfl) ?_
          obtain ⟨sn, hsn, tsn⟩ := sn_of hB.2
          refine gr_X9_59 F hB dX9_passOut_38 hB.2.2.1.1 hsn ?_
          refine lv_dup hx hb dX9_passOut_41 rfl ?_
          refine gf_X9_484 F hB dX9_passOut_42 tsn ?_
          refine lv_iconst (v := 1) hx hb dX9_passOut_45 (by decide) ?_
          refine lv_iadd hx hb dX9_passOut_46 ?_
          refine pf_X9_484 F hB dX9_passOut_47 tsn (fun H locs hBn => ?_)
          clear hB; have hB := hBn; clear hBn
          have hI9 := si_of hB.2 (SI_PI (k := 2) hV9 hI9 (t := 12) tsn rfl (by decide))
          have hT9 := ta_of hB.2 (TA_PI (k9 := 2) (t := 12) hV9 hj hi hk hT hT9 tsn rfl)
          have hQ9 := tq_of hB.2 (TQ_PI (k9 := 2) (t := 12) hV9 hj hQ9 tsn (by decide))
          have hV9 := hB.2
          refine lv_iload hx hb dX9_passOut_50 (lv_at hl 5 rfl) ?_
          refine lv_bipush (v := 110) hx hb dX9_passOut_52 (by decide) ?_
          refine lv_icmp_ne (tgt := 61) hx hb dX9_passOut_54 (by decide) (fun c54 => ?_) (fun c54 => ?_)
          · refine lv_iconst (v := 3) hx hb dX9_passOut_61 (by decide) ?_
            exact cl_iret F hB hrt dX9_passOut_62 (by first | exact ⟨⟨_, rfl⟩, hI9, hQ9⟩ | exact ⟨⟨_, rfl⟩, SI_up hI9 (by omega), hQ9⟩ | fail "no road")
          · refine lv_iconst (v := 2) hx hb dX9_passOut_57 (by decide) ?_
            refine lv_goto (tgt := 62) hx hb dX9_passOut_58 (by decide) ?_
            exact cl_iret F hB hrt dX9_passOut_62 (by first | exact ⟨⟨_, rfl⟩, hI9, hQ9⟩ | exact ⟨⟨_, rfl⟩, SI_up hI9 (by omega), hQ9⟩ | fail "no road")
        · refine lv_iload hx hb dX9_passOut_30 (lv_at hl 5 rfl) ?_
          refine lv_bipush (v := 115) hx hb dX9_passOut_32 (by decide) ?_
          refine lv_icmp_ne (tgt := 63) hx hb dX9_passOut_34 (by decide) (fun c34 => ?_) (fun c34 => ?_)
          · refine lv_aload_n hx hb dX9_passOut_63 rfl (lv_at hl 0 rfl) ?_
            obtain ⟨sn, hsn, tsn⟩ := sn_of hB.2
            refine gr_X9_59 F hB dX9_passOut_64 hB.2.2.1.1 hsn ?_
            refine lv_dup hx hb dX9_passOut_67 rfl ?_
            refine gf_X9_481 F hB dX9_passOut_68 tsn ?_
            refine lv_iconst (v := 1) hx hb dX9_passOut_71 (by decide) ?_
            refine lv_iadd hx hb dX9_passOut_72 ?_
            refine pf_X9_481 F hB dX9_passOut_73 tsn (fun H locs hBn => ?_)
            clear hB; have hB := hBn; clear hBn
            have hI9 := si_of hB.2 (SI_PI (k := 1) hV9 hI9 (t := 12) tsn rfl (by decide))
            have hT9 := ta_of hB.2 (TA_PI (k9 := 1) (t := 12) hV9 hj hi hk hT hT9 tsn rfl)
            have hQ9 := tq_of hB.2 (TQ_PI (k9 := 1) (t := 12) hV9 hj hQ9 tsn (by decide))
            have hV9 := hB.2
            refine lv_aload_n hx hb dX9_passOut_76 rfl (lv_at hl 2 rfl) ?_
            refine lv_dup hx hb dX9_passOut_77 rfl ?_
            refine gf_X9_629 F hB dX9_passOut_78 (hB.2.2.2.2.2.2.1 _ _ hi hk).1 ?_
            refine lv_iload hx hb dX9_passOut_81 (lv_at hl 4 rfl) ?_
            refine lv_iadd hx hb dX9_passOut_83 ?_
            refine pf_X9_629 F hB dX9_passOut_84 (hB.2.2.2.2.2.2.1 _ _ hi hk).1 (fun H locs hBn => ?_)
            clear hB; have hB := hBn; clear hBn
            have hS9 := SI_sent hV9 hI9 hi hk hT9.2.1 h8 hB9
            have hG9 := hS9.2
            have hI9 := si_of hB.2 hS9.1
            have hT9 := ta_of hB.2 (TA_PI (k9 := 6) (t := 8) hV9 hj hi hk hT hT9 (hB.2.2.2.2.2.2.1 _ _ hi hk).1 rfl)
            have hw9 := gp_of (i := i) (k := k) (n := n.toInt) (B := B + 8) hB.2 (hG9 (hT9.2.2.symm.trans (hT9.2.2.trans hin) |> fun z => (c_nk (by decide)).symm.trans (hT9.2.2.trans hin)))
            have hQ9 := tq_of hB.2 (TQ_PI (k9 := 6) (t := 8) hV9 hj hQ9 (hB.2.2.2.2.2.2.1 _ _ hi hk).1 (by decide))
            have hV9 := hB.2
            refine lv_aload_n hx hb dX9_passOut_87 rfl (lv_at hl 2 rfl) ?_
            refine gf_X9_640 F hB dX9_passOut_88 (hB.2.2.2.2.2.2.1 _ _ hi hk).1 ?_
            refine lv_aload_n hx hb dX9_passOut_91 rfl (lv_at hl 1 rfl) ?_
            refine gf_X9_643 F hB dX9_passOut_92 (hB.2.2.2.2.2.2.2.2.1 _ hj).1 ?_
            refine lv_icmp_ne (tgt := 115) hx hb dX9_passOut_95 (by decide) (fun c95 => ?_) (fun c95 => ?_)
            · refine lv_iload hx hb dX9_passOut_115 (lv_at hl 5 rfl) ?_
              refine lv_bipush (v := 32) hx hb dX9_passOut_117 (by decide) ?_
              refine lv_icmp_eq (tgt := 124) hx hb dX9_passOut_119 (by decide) (fun c119 => ?_) (fun c119 => ?_)
              · refine lv_aload_n hx hb dX9_passOut_124 rfl (lv_at hl 0 rfl) ?_
                obtain ⟨sn, hsn, tsn⟩ := sn_of hB.2
                refine gr_X9_59 F hB dX9_passOut_125 hB.2.2.1.1 hsn ?_
                refine lv_dup hx hb dX9_passOut_128 rfl ?_
                refine gf_X9_484 F hB dX9_passOut_129 tsn ?_
                refine lv_iconst (v := 1) hx hb dX9_passOut_132 (by decide) ?_
                refine lv_iadd hx hb dX9_passOut_133 ?_
                refine pf_X9_484 F hB dX9_passOut_134 tsn (fun H locs hBn => ?_)
                clear hB; have hB := hBn; clear hBn
                have hI9 := si_of hB.2 (SI_PI (k := 2) hV9 hI9 (t := 12) tsn rfl (by decide))
                have hT9 := ta_of hB.2 (TA_PI (k9 := 2) (t := 12) hV9 hj hi hk hT hT9 tsn rfl)
                have hQ9 := tq_of hB.2 (TQ_PI (k9 := 2) (t := 12) hV9 hj hQ9 tsn (by decide))
                have hV9 := hB.2
                refine lv_aload_n hx hb dX9_passOut_137 rfl (lv_at hl 1 rfl) ?_
                refine lv_iconst (v := 1) hx hb dX9_passOut_138 (by decide) ?_
                refine lv_aload_n hx hb dX9_passOut_139 rfl (lv_at hl 1 rfl) ?_
                refine gf_X9_643 F hB dX9_passOut_140 (hB.2.2.2.2.2.2.2.2.1 _ hj).1 ?_
                refine lv_isub hx hb dX9_passOut_143 ?_
                refine pf_X9_643 F hB dX9_passOut_144 (hB.2.2.2.2.2.2.2.2.1 _ hj).1 (fun H locs hBn => ?_)
                clear hB; have hB := hBn; clear hBn
                have hI9 := si_of hB.2 (SI_PI (k := 6) hV9 hI9 (t := 11) (hB.2.2.2.2.2.2.2.2.1 _ hj).1 rfl (by decide))
                have hT9 := ta_of hB.2 (TA_PI (k9 := 6) (t := 11) hV9 hj hi hk hT hT9 (hB.2.2.2.2.2.2.2.2.1 _ hj).1 rfl)
                have hQ9 := tq_of hB.2 (TQ_PI (k9 := 6) (t := 11) hV9 hj hQ9 (hB.2.2.2.2.2.2.2.2.1 _ hj).1 (by decide))
                have hV9 := hB.2
                refine lv_aload_n hx hb dX9_passOut_147 rfl (lv_at hl 3 rfl) ?_
                refine lv_dup hx hb dX9_passOut_148 rfl ?_
                refine gf_X9_388 F hB dX9_passOut_149 ((hB.2.2.2.2.2.2.2.2.2.1 _ hj).2.2 _ hT).2 ?_
                refine lv_iload hx hb dX9_passOut_152 (lv_at hl 4 rfl) ?_
                refine lv_iadd hx hb dX9_passOut_154 ?_
                refine pf_X9_388 F hB dX9_passOut_155 ((hB.2.2.2.2.2.2.2.2.2.1 _ hj).2.2 _ hT).2 (fun H locs hBn => ?_)
                clear hB; have hB := hBn; clear hBn
                have hI9 := si_of hB.2 (SI_done hV9 hI9 hj hi hk hT hQ9 hT9.2.1)
                have hQ9 := tq_of hB.2 (TQ_PI (k9 := 2) (t := 13) hV9 hj hQ9 ((hB.2.2.2.2.2.2.2.2.2.1 _ hj).2.2 _ hT).2 (by decide))
                have hV9 := hB.2
                refine lv_iconst (v := 0) hx hb dX9_passOut_158 (by decide) ?_
                exact cl_iret F hB hrt dX9_passOut_159 (by first | exact ⟨⟨_, rfl⟩, hI9, hQ9⟩ | exact ⟨⟨_, rfl⟩, SI_up hI9 (by omega), hQ9⟩ | fail "no road")
              · refine lv_iconst (v := 1) hx hb dX9_passOut_122 (by decide) ?_
                exact cl_iret F hB hrt dX9_passOut_123 (by first | exact ⟨⟨_, rfl⟩, hI9, hQ9⟩ | exact ⟨⟨_, rfl⟩, SI_up hI9 (by omega), hQ9⟩ | fail "no road")
            · refine lv_aload_n hx hb dX9_passOut_98 rfl (lv_at hl 2 rfl) ?_
              refine lv_aload_n hx hb dX9_passOut_99 rfl (lv_at hl 3 rfl) ?_
              refine lv_iload hx hb dX9_passOut_100 (lv_at hl 4 rfl) ?_
              refine cl_callN (ci := 7) F hB (k_tkf l D cy hB.2 hj hi hk hT _ hw9.2.2 (by have q := hw9.1; have q2 := hw9.2.1; omega) _) ⟨va_cnB 2 F.1.2.2.2.2 (vgN (vm_1 _ (List.mem_of_getElem? (i := 12) rfl))) rfl rfl rfl (F.2.2.1.1 _ nf_138) (F.1.2.2.2.2 _ (List.mem_cons_of_mem _ (vm_1 _ (List.mem_of_getElem? (i := 4) rfl)))) ⟨by decide, by decide, by decide +kernel⟩ ⟨Nat.le_of_ble_eq_true rfl, Nat.le_of_ble_eq_true rfl⟩, F.1.2.2.2.2 _ (List.mem_cons_of_mem _ (vm_9 _ (List.mem_of_getElem? (i := 11) rfl))), F.1.2.2.2.2 _ (List.mem_cons_of_mem _ (vm_9 _ (List.mem_of_getElem? (i := 12) rfl)))⟩ rfl rfl (by decide) rfl hl.1 rfl (Nat.le_of_ble_eq_true rfl) dX9_passOut_102 ⟨Nat.le_of_ble_eq_true rfl, Nat.le_of_ble_eq_true rfl⟩ (hB.2.2.2.2.2.2.1 _ _ hi hk).1 (fun H locs v σ102 hB hP => ?_)
              obtain ⟨rfl, hR102, hx102⟩ := hP
              have hI9 := SI_ad hV9 hI9 hi hk hR102 (fun _ => by have q := hw9.1; omega)
              have hT9 := TA_ad hV9 hj hi hk hT (hV9.2.2.2.2.2.1 _ _ hi hk).2.2 hR102 hT9
              have hQ9 := TQ_ad hV9 hj (hV9.2.2.2.2.2.1 _ _ hi hk).2.2 hR102 hQ9
              have hV9 := hB.2
              refine lv_aload_n hx hb dX9_passOut_105 rfl (lv_at hl 2 rfl) ?_
              refine lv_iconst (v := 1) hx hb dX9_passOut_106 (by decide) ?_
              refine lv_aload_n hx hb dX9_passOut_107 rfl (lv_at hl 2 rfl) ?_
              refine gf_X9_640 F hB dX9_passOut_108 (hB.2.2.2.2.2.2.1 _ _ hi hk).1 ?_
              refine lv_isub hx hb dX9_passOut_111 ?_
              refine pf_X9_640 F hB dX9_passOut_112 (hB.2.2.2.2.2.2.1 _ _ hi hk).1 (fun H locs hBn => ?_)
              clear hB; have hB := hBn; clear hBn
              have hI9 := si_of hB.2 (SI_PI (k := 4) hV9 hI9 (t := 8) (hB.2.2.2.2.2.2.1 _ _ hi hk).1 rfl (by decide))
              have hT9 := ta_of hB.2 (TA_PI (k9 := 4) (t := 8) hV9 hj hi hk hT hT9 (hB.2.2.2.2.2.2.1 _ _ hi hk).1 rfl)
              have hQ9 := tq_of hB.2 (TQ_PI (k9 := 4) (t := 8) hV9 hj hQ9 (hB.2.2.2.2.2.2.1 _ _ hi hk).1 (by decide))
              have hV9 := hB.2
              refine lv_iload hx hb dX9_passOut_115 (lv_at hl 5 rfl) ?_
              refine lv_bipush (v := 32) hx hb dX9_passOut_117 (by decide) ?_
              refine lv_icmp_eq (tgt := 124) hx hb dX9_passOut_119 (by decide) (fun c119 => ?_) (fun c119 => ?_)
              · refine lv_aload_n hx hb dX9_passOut_124 rfl (lv_at hl 0 rfl) ?_
                obtain ⟨sn, hsn, tsn⟩ := sn_of hB.2
                refine gr_X9_59 F hB dX9_passOut_125 hB.2.2.1.1 hsn ?_
                refine lv_dup hx hb dX9_passOut_128 rfl ?_
                refine gf_X9_484 F hB dX9_passOut_129 tsn ?_
                refine lv_iconst (v := 1) hx hb dX9_passOut_132 (by decide) ?_
                refine lv_iadd hx hb dX9_passOut_133 ?_
                refine pf_X9_484 F hB dX9_passOut_134 tsn (fun H locs hBn => ?_)
                clear hB; have hB := hBn; clear hBn
                have hI9 := si_of hB.2 (SI_PI (k := 2) hV9 hI9 (t := 12) tsn rfl (by decide))
                have hT9 := ta_of hB.2 (TA_PI (k9 := 2) (t := 12) hV9 hj hi hk hT hT9 tsn rfl)
                have hQ9 := tq_of hB.2 (TQ_PI (k9 := 2) (t := 12) hV9 hj hQ9 tsn (by decide))
                have hV9 := hB.2
                refine lv_aload_n hx hb dX9_passOut_137 rfl (lv_at hl 1 rfl) ?_
                refine lv_iconst (v := 1) hx hb dX9_passOut_138 (by decide) ?_
                refine lv_aload_n hx hb dX9_passOut_139 rfl (lv_at hl 1 rfl) ?_
                refine gf_X9_643 F hB dX9_passOut_140 (hB.2.2.2.2.2.2.2.2.1 _ hj).1 ?_
                refine lv_isub hx hb dX9_passOut_143 ?_
                refine pf_X9_643 F hB dX9_passOut_144 (hB.2.2.2.2.2.2.2.2.1 _ hj).1 (fun H locs hBn => ?_)
                clear hB; have hB := hBn; clear hBn
                have hI9 := si_of hB.2 (SI_PI (k := 6) hV9 hI9 (t := 11) (hB.2.2.2.2.2.2.2.2.1 _ hj).1 rfl (by decide))
                have hT9 := ta_of hB.2 (TA_PI (k9 := 6) (t := 11) hV9 hj hi hk hT hT9 (hB.2.2.2.2.2.2.2.2.1 _ hj).1 rfl)
                have hQ9 := tq_of hB.2 (TQ_PI (k9 := 6) (t := 11) hV9 hj hQ9 (hB.2.2.2.2.2.2.2.2.1 _ hj).1 (by decide))
                have hV9 := hB.2
                refine lv_aload_n hx hb dX9_passOut_147 rfl (lv_at hl 3 rfl) ?_
                refine lv_dup hx hb dX9_passOut_148 rfl ?_
                refine gf_X9_388 F hB dX9_passOut_149 ((hB.2.2.2.2.2.2.2.2.2.1 _ hj).2.2 _ hT).2 ?_
                refine lv_iload hx hb dX9_passOut_152 (lv_at hl 4 rfl) ?_
                refine lv_iadd hx hb dX9_passOut_154 ?_
                refine pf_X9_388 F hB dX9_passOut_155 ((hB.2.2.2.2.2.2.2.2.2.1 _ hj).2.2 _ hT).2 (fun H locs hBn => ?_)
                clear hB; have hB := hBn; clear hBn
                have hI9 := si_of hB.2 (SI_done hV9 hI9 hj hi hk hT hQ9 hT9.2.1)
                have hQ9 := tq_of hB.2 (TQ_PI (k9 := 2) (t := 13) hV9 hj hQ9 ((hB.2.2.2.2.2.2.2.2.2.1 _ hj).2.2 _ hT).2 (by decide))
                have hV9 := hB.2
                refine lv_iconst (v := 0) hx hb dX9_passOut_158 (by decide) ?_
                exact cl_iret F hB hrt dX9_passOut_159 (by first | exact ⟨⟨_, rfl⟩, hI9, hQ9⟩ | exact ⟨⟨_, rfl⟩, SI_up hI9 (by omega), hQ9⟩ | fail "no road")
              · refine lv_iconst (v := 1) hx hb dX9_passOut_122 (by decide) ?_
                exact cl_iret F hB hrt dX9_passOut_123 (by first | exact ⟨⟨_, rfl⟩, hI9, hQ9⟩ | exact ⟨⟨_, rfl⟩, SI_up hI9 (by omega), hQ9⟩ | fail "no road")
          · refine lv_aload_n hx hb dX9_passOut_37 rfl (lv_at hl 0 rfl) ?_
            obtain ⟨sn, hsn, tsn⟩ := sn_of hB.2
            refine gr_X9_59 F hB dX9_passOut_38 hB.2.2.1.1 hsn ?_
            refine lv_dup hx hb dX9_passOut_41 rfl ?_
            refine gf_X9_484 F hB dX9_passOut_42 tsn ?_
            refine lv_iconst (v := 1) hx hb dX9_passOut_45 (by decide) ?_
            refine lv_iadd hx hb dX9_passOut_46 ?_
            refine pf_X9_484 F hB dX9_passOut_47 tsn (fun H locs hBn => ?_)
            clear hB; have hB := hBn; clear hBn
            have hI9 := si_of hB.2 (SI_PI (k := 2) hV9 hI9 (t := 12) tsn rfl (by decide))
            have hT9 := ta_of hB.2 (TA_PI (k9 := 2) (t := 12) hV9 hj hi hk hT hT9 tsn rfl)
            have hQ9 := tq_of hB.2 (TQ_PI (k9 := 2) (t := 12) hV9 hj hQ9 tsn (by decide))
            have hV9 := hB.2
            refine lv_iload hx hb dX9_passOut_50 (lv_at hl 5 rfl) ?_
            refine lv_bipush (v := 110) hx hb dX9_passOut_52 (by decide) ?_
            refine lv_icmp_ne (tgt := 61) hx hb dX9_passOut_54 (by decide) (fun c54 => ?_) (fun c54 => ?_)
            · refine lv_iconst (v := 3) hx hb dX9_passOut_61 (by decide) ?_
              exact cl_iret F hB hrt dX9_passOut_62 (by first | exact ⟨⟨_, rfl⟩, hI9, hQ9⟩ | exact ⟨⟨_, rfl⟩, SI_up hI9 (by omega), hQ9⟩ | fail "no road")
            · refine lv_iconst (v := 2) hx hb dX9_passOut_57 (by decide) ?_
              refine lv_goto (tgt := 62) hx hb dX9_passOut_58 (by decide) ?_
              exact cl_iret F hB hrt dX9_passOut_62 (by first | exact ⟨⟨_, rfl⟩, hI9, hQ9⟩ | exact ⟨⟨_, rfl⟩, SI_up hI9 (by omega), hQ9⟩ | fail "no road")
      · refine lv_iconst (v := 1) hx hb dX9_passOut_21 (by decide) ?_
        exact cl_iret F hB hrt dX9_passOut_22 (by first | exact ⟨⟨_, rfl⟩, hI9, hQ9⟩ | exact ⟨⟨_, rfl⟩, SI_up hI9 (by omega), hQ9⟩ | fail "no road")

theorem dX9_passSound_0 : decode cX9_passSound 0 = .ok (.aload_n 1, 1) := by decide +kernel
theorem dX9_passSound_1 : decode cX9_passSound 1 = .ok (.getfield 144, 3) := by decide +kernel
theorem dX9_passSound_4 : decode cX9_passSound 4 = .ok (.ifCond .eq 12, 3) := by decide +kernel
theorem dX9_passSound_7 : decode cX9_passSound 7 = .ok (.iload 4, 2) := by decide +kernel
theorem dX9_passSound_9 : decode cX9_passSound 9 = .ok (.bipush 98, 2) := by decide +kernel
theorem dX9_passSound_11 : decode cX9_passSound 11 = .ok (.if_icmp .ne 5, 3) := by decide +kernel
theorem dX9_passSound_14 : decode cX9_passSound 14 = .ok (.iconst 4, 1) := by decide +kernel
theorem dX9_passSound_15 : decode cX9_passSound 15 = .ok (.ireturn, 1) := by decide +kernel
theorem dX9_passSound_16 : decode cX9_passSound 16 = .ok (.iload_n 3, 1) := by decide +kernel
theorem dX9_passSound_17 : decode cX9_passSound 17 = .ok (.ifCond .ne 5, 3) := by decide +kernel
theorem dX9_passSound_20 : decode cX9_passSound 20 = .ok (.iconst 2, 1) := by decide +kernel
theorem dX9_passSound_21 : decode cX9_passSound 21 = .ok (.ireturn, 1) := by decide +kernel
theorem dX9_passSound_22 : decode cX9_passSound 22 = .ok (.iload 4, 2) := by decide +kernel
theorem dX9_passSound_24 : decode cX9_passSound 24 = .ok (.bipush 32, 2) := by decide +kernel
theorem dX9_passSound_26 : decode cX9_passSound 26 = .ok (.if_icmp .eq 17, 3) := by decide +kernel
theorem dX9_passSound_29 : decode cX9_passSound 29 = .ok (.iload 4, 2) := by decide +kernel
theorem dX9_passSound_31 : decode cX9_passSound 31 = .ok (.bipush 100, 2) := by decide +kernel
theorem dX9_passSound_33 : decode cX9_passSound 33 = .ok (.if_icmp .eq 10, 3) := by decide +kernel
theorem dX9_passSound_36 : decode cX9_passSound 36 = .ok (.iload 4, 2) := by decide +kernel
theorem dX9_passSound_38 : decode cX9_passSound 38 = .ok (.bipush 97, 2) := by decide +kernel
theorem dX9_passSound_40 : decode cX9_passSound 40 = .ok (.if_icmp .ne 7, 3) := by decide +kernel
theorem dX9_passSound_43 : decode cX9_passSound 43 = .ok (.iconst 1, 1) := by decide +kernel
theorem dX9_passSound_44 : decode cX9_passSound 44 = .ok (.goto 4, 3) := by decide +kernel
theorem dX9_passSound_47 : decode cX9_passSound 47 = .ok (.iconst 0, 1) := by decide +kernel
theorem dX9_passSound_48 : decode cX9_passSound 48 = .ok (.istore 5, 2) := by decide +kernel
theorem dX9_passSound_50 : decode cX9_passSound 50 = .ok (.iload 5, 2) := by decide +kernel
theorem dX9_passSound_52 : decode cX9_passSound 52 = .ok (.ifCond .eq 26, 3) := by decide +kernel
theorem dX9_passSound_55 : decode cX9_passSound 55 = .ok (.aload_n 0, 1) := by decide +kernel
theorem dX9_passSound_56 : decode cX9_passSound 56 = .ok (.getfield 59, 3) := by decide +kernel
theorem dX9_passSound_59 : decode cX9_passSound 59 = .ok (.dup, 1) := by decide +kernel
theorem dX9_passSound_60 : decode cX9_passSound 60 = .ok (.getfield 481, 3) := by decide +kernel
theorem dX9_passSound_63 : decode cX9_passSound 63 = .ok (.iconst 1, 1) := by decide +kernel
theorem dX9_passSound_64 : decode cX9_passSound 64 = .ok (.iadd, 1) := by decide +kernel
theorem dX9_passSound_65 : decode cX9_passSound 65 = .ok (.putfield 481, 3) := by decide +kernel
theorem dX9_passSound_68 : decode cX9_passSound 68 = .ok (.aload_n 1, 1) := by decide +kernel
theorem dX9_passSound_69 : decode cX9_passSound 69 = .ok (.dup, 1) := by decide +kernel
theorem dX9_passSound_70 : decode cX9_passSound 70 = .ok (.getfield 629, 3) := by decide +kernel
theorem dX9_passSound_73 : decode cX9_passSound 73 = .ok (.iload_n 3, 1) := by decide +kernel
theorem dX9_passSound_74 : decode cX9_passSound 74 = .ok (.iadd, 1) := by decide +kernel
theorem dX9_passSound_75 : decode cX9_passSound 75 = .ok (.putfield 629, 3) := by decide +kernel
theorem dX9_passSound_78 : decode cX9_passSound 78 = .ok (.iload 4, 2) := by decide +kernel
theorem dX9_passSound_80 : decode cX9_passSound 80 = .ok (.bipush 32, 2) := by decide +kernel
theorem dX9_passSound_82 : decode cX9_passSound 82 = .ok (.if_icmp .eq 11, 3) := by decide +kernel
theorem dX9_passSound_85 : decode cX9_passSound 85 = .ok (.aload_n 2, 1) := by decide +kernel
theorem dX9_passSound_86 : decode cX9_passSound 86 = .ok (.iconst 1, 1) := by decide +kernel
theorem dX9_passSound_87 : decode cX9_passSound 87 = .ok (.putfield 623, 3) := by decide +kernel
theorem dX9_passSound_90 : decode cX9_passSound 90 = .ok (.goto 25, 3) := by decide +kernel
theorem dX9_passSound_93 : decode cX9_passSound 93 = .ok (.aload_n 1, 1) := by decide +kernel
theorem dX9_passSound_94 : decode cX9_passSound 94 = .ok (.getfield 144, 3) := by decide +kernel
theorem dX9_passSound_97 : decode cX9_passSound 97 = .ok (.ifCond .eq 12, 3) := by decide +kernel
theorem dX9_passSound_100 : decode cX9_passSound 100 = .ok (.aload_n 0, 1) := by decide +kernel
theorem dX9_passSound_101 : decode cX9_passSound 101 = .ok (.aload_n 1, 1) := by decide +kernel
theorem dX9_passSound_102 : decode cX9_passSound 102 = .ok (.iload_n 3, 1) := by decide +kernel
theorem dX9_passSound_103 : decode cX9_passSound 103 = .ok (.invokevirtual 632, 3) := by decide +kernel
theorem dX9_passSound_106 : decode cX9_passSound 106 = .ok (.goto 9, 3) := by decide +kernel
theorem dX9_passSound_109 : decode cX9_passSound 109 = .ok (.aload_n 1, 1) := by decide +kernel
theorem dX9_passSound_110 : decode cX9_passSound 110 = .ok (.aload_n 2, 1) := by decide +kernel
theorem dX9_passSound_111 : decode cX9_passSound 111 = .ok (.iload_n 3, 1) := by decide +kernel
theorem dX9_passSound_112 : decode cX9_passSound 112 = .ok (.invokevirtual 636, 3) := by decide +kernel
theorem dX9_passSound_115 : decode cX9_passSound 115 = .ok (.aload_n 1, 1) := by decide +kernel
theorem dX9_passSound_116 : decode cX9_passSound 116 = .ok (.getfield 144, 3) := by decide +kernel
theorem dX9_passSound_119 : decode cX9_passSound 119 = .ok (.ifCond .eq 28, 3) := by decide +kernel
theorem dX9_passSound_122 : decode cX9_passSound 122 = .ok (.aload_n 1, 1) := by decide +kernel
theorem dX9_passSound_123 : decode cX9_passSound 123 = .ok (.getfield 395, 3) := by decide +kernel
theorem dX9_passSound_126 : decode cX9_passSound 126 = .ok (.iload_n 3, 1) := by decide +kernel
theorem dX9_passSound_127 : decode cX9_passSound 127 = .ok (.invokevirtual 274, 3) := by decide +kernel
theorem dX9_passSound_130 : decode cX9_passSound 130 = .ok (.aload_n 2, 1) := by decide +kernel
theorem dX9_passSound_131 : decode cX9_passSound 131 = .ok (.iload_n 3, 1) := by decide +kernel
theorem dX9_passSound_132 : decode cX9_passSound 132 = .ok (.aload_n 1, 1) := by decide +kernel
theorem dX9_passSound_133 : decode cX9_passSound 133 = .ok (.getfield 147, 3) := by decide +kernel
theorem dX9_passSound_136 : decode cX9_passSound 136 = .ok (.if_icmp .ge 7, 3) := by decide +kernel
theorem dX9_passSound_139 : decode cX9_passSound 139 = .ok (.iconst 1, 1) := by decide +kernel
theorem dX9_passSound_140 : decode cX9_passSound 140 = .ok (.goto 4, 3) := by decide +kernel
theorem dX9_passSound_143 : decode cX9_passSound 143 = .ok (.iconst 0, 1) := by decide +kernel
theorem dX9_passSound_144 : decode cX9_passSound 144 = .ok (.putfield 626, 3) := by decide +kernel
theorem dX9_passSound_147 : decode cX9_passSound 147 = .ok (.aload_n 2, 1) := by decide +kernel
theorem dX9_passSound_148 : decode cX9_passSound 148 = .ok (.dup, 1) := by decide +kernel
theorem dX9_passSound_149 : decode cX9_passSound 149 = .ok (.getfield 388, 3) := by decide +kernel
theorem dX9_passSound_152 : decode cX9_passSound 152 = .ok (.iload_n 3, 1) := by decide +kernel
theorem dX9_passSound_153 : decode cX9_passSound 153 = .ok (.iadd, 1) := by decide +kernel
theorem dX9_passSound_154 : decode cX9_passSound 154 = .ok (.putfield 388, 3) := by decide +kernel
theorem dX9_passSound_157 : decode cX9_passSound 157 = .ok (.iconst 0, 1) := by decide +kernel
theorem dX9_passSound_158 : decode cX9_passSound 158 = .ok (.ireturn, 1) := by decide +kernel
set_option maxRecDepth 100000 in
set_option maxHeartbeats 4000000 in
theorem k_pSnd (l : Launch) (D : va_G) (cy : Nat → ClassId) {ad τ : List Nat} {Y : CY} {σ : SG} (hst : l.stackTraces = false) (hs : vi_s1 vSG τ) (hV : VL cy ad τ Y σ) {B : Int} (hI : SI Y σ B) {j i k T : Nat} (hj : j < 12) (hi : i < 16) (hk : k < 3) (hT : T < 4) (hQ : TQ Y σ j i k) (n fl : Int32) (hP0 : TP Y σ j i k T n.toInt) (h8 : n.toInt ≤ 8) (hB9 : B ≤ 1000000000)  (sz : Nat) : clM l D cy ad τ Y σ sz yX9_passSound (Cond.code yX9_passSound cX9_passSound 6 (some .int) :: vWall) 2 44 [.ref (yX Y), .ref (ye Y i k), .ref (yt Y j T), .int n, .int fl] (fun v s2 => (∃ x : Int32, v = some (.int x)) ∧ SI Y s2 (B + 8) ∧ TQ Y s2 j i k) := by
  refine cl_ofW (cc := cX9_passSound) (maxL := 6) (ret := (some .int)) hV (by decide) rfl (Nat.le_of_ble_eq_true rfl) (lv := [(0, .ref (yX Y)), (1, .ref (ye Y i k)), (2, .ref (yt Y j T)), (3, .int n), (4, .int fl)]) rfl (fun p e s m below meth c ls H hrt hnm F hB hl => ?_) sz
  have hx := F.1.1
  have hb := F.1.2.1
  have hown := F.1.2.2.2.1
  generalize hlo : ([] : List Loc) = locs at hB ⊢
  clear hlo
  obtain ⟨LX, LD, Ld, LE, Le, LP9, Lp, Lt, LU, LA, Lz⟩ := hV.2
  have e0 : (0 : Int32).toInt = 0 := rfl
  have e1 : (1 : Int32).toInt = 1 := rfl
  have e16 : (16 : Int32).toInt = 16 := rfl
  have e12 : (12 : Int32).toInt = 12 := rfl
  have e4 : (4 : Int32).toInt = 4 := rfl
  have e8 : (8 : Int32).toInt = 8 := rfl
  have hV9 := hV
  have hI9 := hI
  have hQ9 := hQ
  have hT9 : TA Y σ j i k T n.toInt (sgI σ (ye Y i k) 1) := ⟨hQ, hP0, rfl⟩
  refine lv_aload_n hx hb dX9_passSound_0 rfl (lv_at hl 1 rfl) ?_
  refine gf_X9_144 F hB dX9_passSound_1 (hB.2.2.2.2.2.2.1 _ _ hi hk).1 ?_
  refine lv_if_eq (tgt := 16) hx hb dX9_passSound_4 (by decide) (fun c4 => ?_) (fun c4 => ?_)
  · refine lv_iload_n hx hb dX9_passSound_16 rfl (lv_at hl 3 rfl) ?_
    refine lv_if_ne (tgt := 22) hx hb dX9_passSound_17 (by decide) (fun c17 => ?_) (fun c17 => ?_)
    · refine lv_iload hx hb dX9_passSound_22 (lv_at hl 4 rfl) ?_
      refine lv_bipush (v := 32) hx hb dX9_passSound_24 (by decide) ?_
      refine lv_icmp_eq (tgt := 43) hx hb dX9_passSound_26 (by decide) (fun c26 => ?_) (fun c26 => ?_)
      · refine lv_iconst (v := 1) hx hb dX9_passSound_43 (by decide) ?_
        refine lv_goto (tgt := 48) hx hb dX9_passSound_44 (by decide) ?_
        refine lv_istore (lv' := [(5, .int _), (0, .ref _), (1, .ref _), (2, .ref _), (3, .int _), (4, .int _)]) hx hb dX9_passSound_48 hl (by decide) rfl (fun ls hl => ?_)
        refine lv_iload hx hb dX9_passSound_50 (lv_at hl 0 rfl) ?_
        refine lv_if_eq (tgt := 78) hx hb dX9_passSound_52 (by decide) (fun c52 => (by first | exact absurd c52 (by decide) | exact (c52 (by decide)).elim)) (fun c52 => ?_)
        refine lv_aload_n hx hb dX9_passSound_55 rfl (lv_at hl 1 rfl) ?_
        obtain ⟨sn, hsn, tsn⟩ := sn_of hB.2
        refine gr_X9_59 F hB dX9_passSound_56 hB.2.2.1.1 hsn ?_
        refine lv_dup hx hb dX9_passSound_59 rfl ?_
        refine gf_X9_481 F hB dX9_passSound_60 tsn ?_
        refine lv_iconst (v := 1) hx hb dX9_passSound_63 (by decide) ?_
        refine lv_iadd hx hb dX9_passSound_64 ?_
        refine pf_X9_481 F hB dX9_passSound_65 tsn (fun H locs hBn => ?_)
        clear hB; have hB := hBn; clear hBn
        have hI9 := si_of hB.2 (SI_PI (k := 1) hV9 hI9 (t := 12) tsn rfl (by decide))
        have hT9 := ta_of hB.2 (TA_PI (k9 := 1) (t := 12) hV9 hj hi hk hT hT9 tsn rfl)
        have hQ9 := tq_of hB.2 (TQ_PI (k9 := 1) (t := 12) hV9 hj hQ9 tsn (by decide))
        have hV9 := hB.2
        refine lv_aload_n hx hb dX9_passSound_68 rfl (lv_at hl 2 rfl) ?_
        refine lv_dup hx hb dX9_passSound_69 rfl ?_
        refine gf_X9_629 F hB dX9_passSound_70 (hB.2.2.2.2.2.2.1 _ _ hi hk).1 ?_
        refine lv_iload_n hx hb dX9_passSound_73 rfl (lv_at hl 4 rfl) ?_
        refine lv_iadd hx hb dX9_passSound_74 ?_
        refine pf_X9_629 F hB dX9_passSound_75 (hB.2.2.2.2.2.2.1 _ _ hi hk).1 (fun H locs hBn => ?_)
        clear hB; have hB := hBn; clear hBn
        have hS9 := SI_sent hV9 hI9 hi hk hT9.2.1 h8 hB9
        have hG9 := hS9.2
        have hI9 := si_of hB.2 hS9.1
        have hT9 := ta_of hB.2 (TA_PI (k9 := 6) (t := 8) hV9 hj hi hk hT hT9 (hB.2.2.2.2.2.2.1 _ _ hi hk).1 rfl)
        have hQ9 := tq_of hB.2 (TQ_PI (k9 := 6) (t := 8) hV9 hj hQ9 (hB.2.2.2.2.2.2.1 _ _ hi hk).1 (by decide))
        have hV9 := hB.2
        refine lv_iload hx hb dX9_passSound_78 (lv_at hl 5 rfl) ?_
        refine lv_bipush (v := 32) hx hb dX9_passSound_80 (by decide) ?_
        refine lv_icmp_eq (tgt := 93) hx hb dX9_passSound_82 (by decide) (fun c82 => ?_) (fun c82 => ?_)
        · refine lv_aload_n hx hb dX9_passSound_93 rfl (lv_at hl 2 rfl) ?_
          refine gf_X9_144 F hB dX9_passSound_94 (hB.2.2.2.2.2.2.1 _ _ hi hk).1 ?_
          refine lv_if_eq (tgt := 109) hx hb dX9_passSound_97 (by decide) (fun c97 => ?_) (fun c97 => ?_)
          · have hw9 := gp_of (i := i) (k := k) (n := n.toInt) (B := B + 8) hB.2 (by first | exact hG9 ((c_nk (by decide)).symm.trans c97) | exact absurd c82 c26)
            have hI9 := si_of (B := B + 8) hB.2 (by first | exact hI9 | exact absurd c82 c26)
            refine lv_aload_n hx hb dX9_passSound_109 rfl (lv_at hl 2 rfl) ?_
            refine lv_aload_n hx hb dX9_passSound_110 rfl (lv_at hl 3 rfl) ?_
            refine lv_iload_n hx hb dX9_passSound_111 rfl (lv_at hl 4 rfl) ?_
            refine cl_callN (ci := 7) F hB (k_tkf l D cy hB.2 hj hi hk hT _ hw9.2.2 (by have q := hw9.1; have q2 := hw9.2.1; omega) _) ⟨va_cnB 2 F.1.2.2.2.2 (vgN (vm_1 _ (List.mem_of_getElem? (i := 12) rfl))) rfl rfl rfl (F.2.2.1.1 _ nf_138) (F.1.2.2.2.2 _ (List.mem_cons_of_mem _ (vm_1 _ (List.mem_of_getElem? (i := 4) rfl)))) ⟨by decide, by decide, by decide +kernel⟩ ⟨Nat.le_of_ble_eq_true rfl, Nat.le_of_ble_eq_true rfl⟩, F.1.2.2.2.2 _ (List.mem_cons_of_mem _ (vm_9 _ (List.mem_of_getElem? (i := 11) rfl))), F.1.2.2.2.2 _ (List.mem_cons_of_mem _ (vm_9 _ (List.mem_of_getElem? (i := 12) rfl)))⟩ rfl rfl (by decide) rfl hl.1 rfl (Nat.le_of_ble_eq_true rfl) dX9_passSound_112 ⟨Nat.le_of_ble_eq_true rfl, Nat.le_of_ble_eq_true rfl⟩ (hB.2.2.2.2.2.2.1 _ _ hi hk).1 (fun H locs v σ112 hB hP => ?_)
            obtain ⟨rfl, hR112, hx112⟩ := hP
            have hI9 := SI_ad hV9 hI9 hi hk hR112 (fun _ => by have q := hw9.1; omega)
            have hT9 := TA_ad hV9 hj hi hk hT (hV9.2.2.2.2.2.1 _ _ hi hk).2.2 hR112 hT9
            have hQ9 := TQ_ad hV9 hj (hV9.2.2.2.2.2.1 _ _ hi hk).2.2 hR112 hQ9
            have hV9 := hB.2
            refine lv_aload_n hx hb dX9_passSound_115 rfl (lv_at hl 2 rfl) ?_
            refine gf_X9_144 F hB dX9_passSound_116 (hB.2.2.2.2.2.2.1 _ _ hi hk).1 ?_
            refine lv_if_eq (tgt := 147) hx hb dX9_passSound_119 (by decide) (fun c119 => ?_) (fun c119 => ?_)
            · refine lv_aload_n hx hb dX9_passSound_147 rfl (lv_at hl 3 rfl) ?_
              refine lv_dup hx hb dX9_passSound_148 rfl ?_
              refine gf_X9_388 F hB dX9_passSound_149 ((hB.2.2.2.2.2.2.2.2.2.1 _ hj).2.2 _ hT).2 ?_
              refine lv_iload_n hx hb dX9_passSound_152 rfl (lv_at hl 4 rfl) ?_
              refine lv_iadd hx hb dX9_passSound_153 ?_
              refine pf_X9_388 F hB dX9_passSound_154 ((hB.2.2.2.2.2.2.2.2.2.1 _ hj).2.2 _ hT).2 (fun H locs hBn => ?_)
              clear hB; have hB := hBn; clear hBn
              have hI9 := si_of hB.2 (SI_done hV9 hI9 hj hi hk hT hQ9 hT9.2.1)
              have hQ9 := tq_of hB.2 (TQ_PI (k9 := 2) (t := 13) hV9 hj hQ9 ((hB.2.2.2.2.2.2.2.2.2.1 _ hj).2.2 _ hT).2 (by decide))
              have hV9 := hB.2
              refine lv_iconst (v := 0) hx hb dX9_passSound_157 (by decide) ?_
              exact cl_iret F hB hrt dX9_passSound_158 (by first | exact ⟨⟨_, rfl⟩, hI9, hQ9⟩ | exact ⟨⟨_, rfl⟩, SI_up hI9 (by omega), hQ9⟩ | fail "no road")
            · refine lv_aload_n hx hb dX9_passSound_122 rfl (lv_at hl 2 rfl) ?_
              refine gr_X9_395 F hB dX9_passSound_123 (hB.2.2.2.2.2.2.1 _ _ hi hk).1 (hB.2.2.2.2.2.2.1 _ _ hi hk).2.1 ?_
              refine lv_iload_n hx hb dX9_passSound_126 rfl (lv_at hl 4 rfl) ?_
              refine cl_vi (n := 0) (NC := 0) (av := [.ref (yr Y i k), .int n]) hB (vi_crVN F.1 (m_ByteRow_drop_17 l D cy hst) ⟨va_cnB 1 F.1.2.2.2.2 (vgN (vm_0 _ (List.mem_of_getElem? (i := 11) rfl))) rfl rfl rfl (F.2.2.1.1 _ nf_124) (F.1.2.2.2.2 _ (List.mem_cons_of_mem _ (vm_0 _ (List.mem_of_getElem? (i := 23) rfl)))) ⟨by decide, by decide, by decide +kernel⟩ ⟨Nat.le_of_ble_eq_true rfl, Nat.le_of_ble_eq_true rfl⟩, F.1.2.2.2.2 _ (List.mem_cons_of_mem _ (vm_1 _ (List.mem_of_getElem? (i := 17) rfl))), F.1.2.2.2.2 _ (List.mem_cons_of_mem _ (vm_1 _ (List.mem_of_getElem? (i := 18) rfl)))⟩ rfl ⟨_, _, _, _, _, _, rfl, rfl, rfl, rfl⟩ F.2.1 F.2.2.1 hs (fun _ _ _ _ => True.intro) (fun q hq => Or.inr hq) ⟨Nat.le_refl _, Nat.le_refl _⟩) hl.1 rfl (by intro j9 a9 x9 g1 g2; exact match j9, g1, g2 with | 0, g1, g2 => by cases g1; cases g2; exact okr (en_row hB.2 hi hk) | 1, g1, g2 => by cases g1; cases g2; exact ⟨_, rfl, cl_full _⟩ | n + 2, g1, g2 => by cases g1) (fun f hf => by cases hf) (Nat.le_of_ble_eq_true rfl) (by decide +kernel) (by decide) dX9_passSound_127 rfl (fun alt ha127 H locs v σ127 w127 hB hk127 ht127 hs127 hA127 => ?_)
              have hv127 := vi_voids (by decide) ha127 hA127
              subst hv127
              have hI9 := SI_kept hV9 hB.2 hk127 (by decide +kernel) hI9
              have hT9 := TA_kept hV9 hB.2 hk127 (by decide +kernel) hj hi hk hT hT9
              have hQ9 := TQ_kept hV9 hB.2 hk127 (by decide +kernel) hj hQ9
              have hV9 := hB.2
              refine lv_aload_n hx hb dX9_passSound_130 rfl (lv_at hl 3 rfl) ?_
              refine lv_iload_n hx hb dX9_passSound_131 rfl (lv_at hl 4 rfl) ?_
              refine lv_aload_n hx hb dX9_passSound_132 rfl (lv_at hl 2 rfl) ?_
              refine gf_X9_147 F hB dX9_passSound_133 (hB.2.2.2.2.2.2.1 _ _ hi hk).1 ?_
              refine lv_icmp_ge (tgt := 143) hx hb dX9_passSound_136 (by decide) (fun c136 => ?_) (fun c136 => ?_)
              · refine lv_iconst (v := 0) hx hb dX9_passSound_143 (by decide) ?_
                refine pf_X9_626 F hB dX9_passSound_144 ((hB.2.2.2.2.2.2.2.2.2.1 _ hj).2.2 _ hT).2 (show sgF 2 _ from ⟨by decide, by decide⟩) (fun H locs hBn => ?_)
                clear hB; have hB := hBn; clear hBn
                have hI9 := si_of hB.2 (SI_PI (k := 5) hV9 hI9 (t := 13) ((hB.2.2.2.2.2.2.2.2.2.1 _ hj).2.2 _ hT).2 rfl (by decide))
                have hT9 := ta_of hB.2 (TA_PI (k9 := 5) (t := 13) hV9 hj hi hk hT hT9 ((hB.2.2.2.2.2.2.2.2.2.1 _ hj).2.2 _ hT).2 rfl)
                have hQ9 := tq_of hB.2 (TQ_PI (k9 := 5) (t := 13) hV9 hj hQ9 ((hB.2.2.2.2.2.2.2.2.2.1 _ hj).2.2 _ hT).2 (by decide))
                have hV9 := hB.2
                refine lv_aload_n hx hb dX9_passSound_147 rfl (lv_at hl 3 rfl) ?_
                refine lv_dup hx hb dX9_passSound_148 rfl ?_
                refine gf_X9_388 F hB dX9_passSound_149 ((hB.2.2.2.2.2.2.2.2.2.1 _ hj).2.2 _ hT).2 ?_
                refine lv_iload_n hx hb dX9_passSound_152 rfl (lv_at hl 4 rfl) ?_
                refine lv_iadd hx hb dX9_passSound_153 ?_
                refine pf_X9_388 F hB dX9_passSound_154 ((hB.2.2.2.2.2.2.2.2.2.1 _ hj).2.2 _ hT).2 (fun H locs hBn => ?_)
                clear hB; have hB := hBn; clear hBn
                have hI9 := si_of hB.2 (SI_done hV9 hI9 hj hi hk hT hQ9 hT9.2.1)
                have hQ9 := tq_of hB.2 (TQ_PI (k9 := 2) (t := 13) hV9 hj hQ9 ((hB.2.2.2.2.2.2.2.2.2.1 _ hj).2.2 _ hT).2 (by decide))
                have hV9 := hB.2
                refine lv_iconst (v := 0) hx hb dX9_passSound_157 (by decide) ?_
                exact cl_iret F hB hrt dX9_passSound_158 (by first | exact ⟨⟨_, rfl⟩, hI9, hQ9⟩ | exact ⟨⟨_, rfl⟩, SI_up hI9 (by omega), hQ9⟩ | fail "no road")
              · refine lv_iconst (v := 1) hx hb dX9_passSound_139 (by decide) ?_
                refine lv_goto (tgt := 144) hx hb dX9_passSound_140 (by decide) ?_
                refine pf_X9_626 F hB dX9_passSound_144 ((hB.2.2.2.2.2.2.2.2.2.1 _ hj).2.2 _ hT).2 (show sgF 2 _ from ⟨by decide, by decide⟩) (fun H locs hBn => ?_)
                clear hB; have hB := hBn; clear hBn
                have hI9 := si_of hB.2 (SI_PI (k := 5) hV9 hI9 (t := 13) ((hB.2.2.2.2.2.2.2.2.2.1 _ hj).2.2 _ hT).2 rfl (by decide))
                have hT9 := ta_of hB.2 (TA_PI (k9 := 5) (t := 13) hV9 hj hi hk hT hT9 ((hB.2.2.2.2.2.2.2.2.2.1 _ hj).2.2 _ hT).2 rfl)
                have hQ9 := tq_of hB.2 (TQ_PI (k9 := 5) (t := 13) hV9 hj hQ9 ((hB.2.2.2.2.2.2.2.2.2.1 _ hj).2.2 _ hT).2 (by decide))
                have hV9 := hB.2
                refine lv_aload_n hx hb dX9_passSound_147 rfl (lv_at hl 3 rfl) ?_
                refine lv_dup hx hb dX9_passSound_148 rfl ?_
                refine gf_X9_388 F hB dX9_passSound_149 ((hB.2.2.2.2.2.2.2.2.2.1 _ hj).2.2 _ hT).2 ?_
                refine lv_iload_n hx hb dX9_passSound_152 rfl (lv_at hl 4 rfl) ?_
                refine lv_iadd hx hb dX9_passSound_153 ?_
                refine pf_X9_388 F hB dX9_passSound_154 ((hB.2.2.2.2.2.2.2.2.2.1 _ hj).2.2 _ hT).2 (fun H locs hBn => ?_)
                clear hB; have hB := hBn; clear hBn
                have hI9 := si_of hB.2 (SI_done hV9 hI9 hj hi hk hT hQ9 hT9.2.1)
                have hQ9 := tq_of hB.2 (TQ_PI (k9 := 2) (t := 13) hV9 hj hQ9 ((hB.2.2.2.2.2.2.2.2.2.1 _ hj).2.2 _ hT).2 (by decide))
                have hV9 := hB.2
                refine lv_iconst (v := 0) hx hb dX9_passSound_157 (by decide) ?_
                exact cl_iret F hB hrt dX9_passSound_158 (by first | exact ⟨⟨_, rfl⟩, hI9, hQ9⟩ | exact ⟨⟨_, rfl⟩, SI_up hI9 (by omega), hQ9⟩ | fail "no road")
          · refine lv_aload_n hx hb dX9_passSound_100 rfl (lv_at hl 1 rfl) ?_
            refine lv_aload_n hx hb dX9_passSound_101 rfl (lv_at hl 2 rfl) ?_
            refine lv_iload_n hx hb dX9_passSound_102 rfl (lv_at hl 4 rfl) ?_
            refine cl_vi (n := 0) (NC := 0) (av := [.ref (yX Y), .ref (ye Y i k), .int n]) hB (vi_crV F.1 (m_Hubcascade_receive_0 l D cy hst) (cwV 2 F.1.2.2.2.2 (vgV (vm_9 _ (List.mem_of_getElem? (i := 8) rfl)) (vm_9 _ (List.mem_of_getElem? (i := 9) rfl)) (vm_9 _ (List.mem_of_getElem? (i := 10) rfl)) (vm_4 _ (List.mem_of_getElem? (i := 20) rfl)) (vm_9 _ (List.mem_of_getElem? (i := 7) rfl))) rfl rfl rfl ⟨rfl, by decide, by decide, by decide +kernel⟩ ⟨Nat.le_of_ble_eq_true rfl, Nat.le_of_ble_eq_true rfl⟩) rfl ⟨_, _, _, _, _, _, rfl, rfl, rfl, rfl⟩ F.2.1 F.2.2.1 hs (fun _ _ _ _ => True.intro) (fun q hq => Or.inr hq) ⟨Nat.le_refl _, Nat.le_refl _⟩) hl.1 rfl (by intro j9 a9 x9 g1 g2; exact match j9, g1, g2 with | 0, g1, g2 => by cases g1; cases g2; exact okr (cl_kd (kd := 0) hB.2.1 hB.2.2.1.1 (by decide) (by decide +kernel)) | 1, g1, g2 => by cases g1; cases g2; exact okr (cl_kd (kd := 5) hB.2.1 (hB.2.2.2.2.2.2.1 _ _ hi hk).1 (by decide) (by decide +kernel)) | 2, g1, g2 => by cases g1; cases g2; exact ⟨_, rfl, (cl_full _).1, h8⟩ | n + 3, g1, g2 => by cases g1) (fun f hf => by cases hf) (Nat.le_of_ble_eq_true rfl) (by decide +kernel) (by decide) dX9_passSound_103 rfl (fun alt ha103 H locs v σ103 w103 hB hk103 ht103 hs103 hA103 => ?_)
            have hv103 := vi_voids (by decide) ha103 hA103
            subst hv103
            have hI9 := SI_kept hV9 hB.2 hk103 (by decide +kernel) hI9
            have hT9 := TA_kept hV9 hB.2 hk103 (by decide +kernel) hj hi hk hT hT9
            have hQ9 := TQ_kept hV9 hB.2 hk103 (by decide +kernel) hj hQ9
            have hV9 := hB.2
            refine lv_goto (tgt := 115) hx hb dX9_passSound_106 (by decide) ?_
            refine lv_aload_n hx hb dX9_passSound_115 rfl (lv_at hl 2 rfl) ?_
            refine gf_X9_144 F hB dX9_passSound_116 (hB.2.2.2.2.2.2.1 _ _ hi hk).1 ?_
            refine lv_if_eq (tgt := 147) hx hb dX9_passSound_119 (by decide) (fun c119 => ?_) (fun c119 => ?_)
            · refine lv_aload_n hx hb dX9_passSound_147 rfl (lv_at hl 3 rfl) ?_
              refine lv_dup hx hb dX9_passSound_148 rfl ?_
              refine gf_X9_388 F hB dX9_passSound_149 ((hB.2.2.2.2.2.2.2.2.2.1 _ hj).2.2 _ hT).2 ?_
              refine lv_iload_n hx hb dX9_passSound_152 rfl (lv_at hl 4 rfl) ?_
              refine lv_iadd hx hb dX9_passSound_153 ?_
              refine pf_X9_388 F hB dX9_passSound_154 ((hB.2.2.2.2.2.2.2.2.2.1 _ hj).2.2 _ hT).2 (fun H locs hBn => ?_)
              clear hB; have hB := hBn; clear hBn
              have hI9 := si_of hB.2 (SI_done hV9 hI9 hj hi hk hT hQ9 hT9.2.1)
              have hQ9 := tq_of hB.2 (TQ_PI (k9 := 2) (t := 13) hV9 hj hQ9 ((hB.2.2.2.2.2.2.2.2.2.1 _ hj).2.2 _ hT).2 (by decide))
              have hV9 := hB.2
              refine lv_iconst (v := 0) hx hb dX9_passSound_157 (by decide) ?_
              exact cl_iret F hB hrt dX9_passSound_158 (by first | exact ⟨⟨_, rfl⟩, hI9, hQ9⟩ | exact ⟨⟨_, rfl⟩, SI_up hI9 (by omega), hQ9⟩ | fail "no road")
            · refine lv_aload_n hx hb dX9_passSound_122 rfl (lv_at hl 2 rfl) ?_
              refine gr_X9_395 F hB dX9_passSound_123 (hB.2.2.2.2.2.2.1 _ _ hi hk).1 (hB.2.2.2.2.2.2.1 _ _ hi hk).2.1 ?_
              refine lv_iload_n hx hb dX9_passSound_126 rfl (lv_at hl 4 rfl) ?_
              refine cl_vi (n := 0) (NC := 0) (av := [.ref (yr Y i k), .int n]) hB (vi_crVN F.1 (m_ByteRow_drop_17 l D cy hst) ⟨va_cnB 1 F.1.2.2.2.2 (vgN (vm_0 _ (List.mem_of_getElem? (i := 11) rfl))) rfl rfl rfl (F.2.2.1.1 _ nf_124) (F.1.2.2.2.2 _ (List.mem_cons_of_mem _ (vm_0 _ (List.mem_of_getElem? (i := 23) rfl)))) ⟨by decide, by decide, by decide +kernel⟩ ⟨Nat.le_of_ble_eq_true rfl, Nat.le_of_ble_eq_true rfl⟩, F.1.2.2.2.2 _ (List.mem_cons_of_mem _ (vm_1 _ (List.mem_of_getElem? (i := 17) rfl))), F.1.2.2.2.2 _ (List.mem_cons_of_mem _ (vm_1 _ (List.mem_of_getElem? (i := 18) rfl)))⟩ rfl ⟨_, _, _, _, _, _, rfl, rfl, rfl, rfl⟩ F.2.1 F.2.2.1 hs (fun _ _ _ _ => True.intro) (fun q hq => Or.inr hq) ⟨Nat.le_refl _, Nat.le_refl _⟩) hl.1 rfl (by intro j9 a9 x9 g1 g2; exact match j9, g1, g2 with | 0, g1, g2 => by cases g1; cases g2; exact okr (en_row hB.2 hi hk) | 1, g1, g2 => by cases g1; cases g2; exact ⟨_, rfl, cl_full _⟩ | n + 2, g1, g2 => by cases g1) (fun f hf => by cases hf) (Nat.le_of_ble_eq_true rfl) (by decide +kernel) (by decide) dX9_passSound_127 rfl (fun alt ha127 H locs v σ127 w127 hB hk127 ht127 hs127 hA127 => ?_)
              have hv127 := vi_voids (by decide) ha127 hA127
              subst hv127
              have hI9 := SI_kept hV9 hB.2 hk127 (by decide +kernel) hI9
              have hT9 := TA_kept hV9 hB.2 hk127 (by decide +kernel) hj hi hk hT hT9
              have hQ9 := TQ_kept hV9 hB.2 hk127 (by decide +kernel) hj hQ9
              have hV9 := hB.2
              refine lv_aload_n hx hb dX9_passSound_130 rfl (lv_at hl 3 rfl) ?_
              refine lv_iload_n hx hb dX9_passSound_131 rfl (lv_at hl 4 rfl) ?_
              refine lv_aload_n hx hb dX9_passSound_132 rfl (lv_at hl 2 rfl) ?_
              refine gf_X9_147 F hB dX9_passSound_133 (hB.2.2.2.2.2.2.1 _ _ hi hk).1 ?_
              refine lv_icmp_ge (tgt := 143) hx hb dX9_passSound_136 (by decide) (fun c136 => ?_) (fun c136 => ?_)
              · refine lv_iconst (v := 0) hx hb dX9_passSound_143 (by decide) ?_
                refine pf_X9_626 F hB dX9_passSound_144 ((hB.2.2.2.2.2.2.2.2.2.1 _ hj).2.2 _ hT).2 (show sgF 2 _ from ⟨by decide, by decide⟩) (fun H locs hBn => ?_)
                clear hB; have hB := hBn; clear hBn
                have hI9 := si_of hB.2 (SI_PI (k := 5) hV9 hI9 (t := 13) ((hB.2.2.2.2.2.2.2.2.2.1 _ hj).2.2 _ hT).2 rfl (by decide))
                have hT9 := ta_of hB.2 (TA_PI (k9 := 5) (t := 13) hV9 hj hi hk hT hT9 ((hB.2.2.2.2.2.2.2.2.2.1 _ hj).2.2 _ hT).2 rfl)
                have hQ9 := tq_of hB.2 (TQ_PI (k9 := 5) (t := 13) hV9 hj hQ9 ((hB.2.2.2.2.2.2.2.2.2.1 _ hj).2.2 _ hT).2 (by decide))
                have hV9 := hB.2
                refine lv_aload_n hx hb dX9_passSound_147 rfl (lv_at hl 3 rfl) ?_
                refine lv_dup hx hb dX9_passSound_148 rfl ?_
                refine gf_X9_388 F hB dX9_passSound_149 ((hB.2.2.2.2.2.2.2.2.2.1 _ hj).2.2 _ hT).2 ?_
                refine lv_iload_n hx hb dX9_passSound_152 rfl (lv_at hl 4 rfl) ?_
                refine lv_iadd hx hb dX9_passSound_153 ?_
                refine pf_X9_388 F hB dX9_passSound_154 ((hB.2.2.2.2.2.2.2.2.2.1 _ hj).2.2 _ hT).2 (fun H locs hBn => ?_)
                clear hB; have hB := hBn; clear hBn
                have hI9 := si_of hB.2 (SI_done hV9 hI9 hj hi hk hT hQ9 hT9.2.1)
                have hQ9 := tq_of hB.2 (TQ_PI (k9 := 2) (t := 13) hV9 hj hQ9 ((hB.2.2.2.2.2.2.2.2.2.1 _ hj).2.2 _ hT).2 (by decide))
                have hV9 := hB.2
                refine lv_iconst (v := 0) hx hb dX9_passSound_157 (by decide) ?_
                exact cl_iret F hB hrt dX9_passSound_158 (by first | exact ⟨⟨_, rfl⟩, hI9, hQ9⟩ | exact ⟨⟨_, rfl⟩, SI_up hI9 (by omega), hQ9⟩ | fail "no road")
              · refine lv_iconst (v := 1) hx hb dX9_passSound_139 (by decide) ?_
                refine lv_goto (tgt := 144) hx hb dX9_passSound_140 (by decide) ?_
                refine pf_X9_626 F hB dX9_passSound_144 ((hB.2.2.2.2.2.2.2.2.2.1 _ hj).2.2 _ hT).2 (show sgF 2 _ from ⟨by decide, by decide⟩) (fun H locs hBn => ?_)
                clear hB; have hB := hBn; clear hBn
                have hI9 := si_of hB.2 (SI_PI (k := 5) hV9 hI9 (t := 13) ((hB.2.2.2.2.2.2.2.2.2.1 _ hj).2.2 _ hT).2 rfl (by decide))
                have hT9 := ta_of hB.2 (TA_PI (k9 := 5) (t := 13) hV9 hj hi hk hT hT9 ((hB.2.2.2.2.2.2.2.2.2.1 _ hj).2.2 _ hT).2 rfl)
                have hQ9 := tq_of hB.2 (TQ_PI (k9 := 5) (t := 13) hV9 hj hQ9 ((hB.2.2.2.2.2.2.2.2.2.1 _ hj).2.2 _ hT).2 (by decide))
                have hV9 := hB.2
                refine lv_aload_n hx hb dX9_passSound_147 rfl (lv_at hl 3 rfl) ?_
                refine lv_dup hx hb dX9_passSound_148 rfl ?_
                refine gf_X9_388 F hB dX9_passSound_149 ((hB.2.2.2.2.2.2.2.2.2.1 _ hj).2.2 _ hT).2 ?_
                refine lv_iload_n hx hb dX9_passSound_152 rfl (lv_at hl 4 rfl) ?_
                refine lv_iadd hx hb dX9_passSound_153 ?_
                refine pf_X9_388 F hB dX9_passSound_154 ((hB.2.2.2.2.2.2.2.2.2.1 _ hj).2.2 _ hT).2 (fun H locs hBn => ?_)
                clear hB; have hB := hBn; clear hBn
                have hI9 := si_of hB.2 (SI_done hV9 hI9 hj hi hk hT hQ9 hT9.2.1)
                have hQ9 := tq_of hB.2 (TQ_PI (k9 := 2) (t := 13) hV9 hj hQ9 ((hB.2.2.2.2.2.2.2.2.2.1 _ hj).2.2 _ hT).2 (by decide))
                have hV9 := hB.2
                refine lv_iconst (v := 0) hx hb dX9_passSound_157 (by decide) ?_
                exact cl_iret F hB hrt dX9_passSound_158 (by first | exact ⟨⟨_, rfl⟩, hI9, hQ9⟩ | exact ⟨⟨_, rfl⟩, SI_up hI9 (by omega), hQ9⟩ | fail "no road")
        · refine lv_aload_n hx hb dX9_passSound_85 rfl (lv_at hl 3 rfl) ?_
          refine lv_iconst (v := 1) hx hb dX9_passSound_86 (by decide) ?_
          refine pf_X9_623 F hB dX9_passSound_87 ((hB.2.2.2.2.2.2.2.2.2.1 _ hj).2.2 _ hT).2 ⟨by decide, by decide⟩ (fun H locs hBn => ?_)
          clear hB; have hB := hBn; clear hBn
          have hI9 := si_of hB.2 (SI_PI (k := 4) hV9 hI9 (t := 13) ((hB.2.2.2.2.2.2.2.2.2.1 _ hj).2.2 _ hT).2 rfl (by decide))
          have hT9 := ta_of hB.2 (TA_PI (k9 := 4) (t := 13) hV9 hj hi hk hT hT9 ((hB.2.2.2.2.2.2.2.2.2.1 _ hj).2.2 _ hT).2 rfl)
          have hQ9 := tq_of hB.2 (TQ_PI (k9 := 4) (t := 13) hV9 hj hQ9 ((hB.2.2.2.2.2.2.2.2.2.1 _ hj).2.2 _ hT).2 (by decide))
          have hV9 := hB.2
          refine lv_goto (tgt := 115) hx hb dX9_passSound_90 (by decide) ?_
          refine lv_aload_n hx hb dX9_passSound_115 rfl (lv_at hl 2 rfl) ?_
          refine gf_X9_144 F hB dX9_passSound_116 (hB.2.2.2.2.2.2.1 _ _ hi hk).1 ?_
          refine lv_if_eq (tgt := 147) hx hb dX9_passSound_119 (by decide) (fun c119 => ?_) (fun c119 => ?_)
          · refine lv_aload_n hx hb dX9_passSound_147 rfl (lv_at hl 3 rfl) ?_
            refine lv_dup hx hb dX9_passSound_148 rfl ?_
            refine gf_X9_388 F hB dX9_passSound_149 ((hB.2.2.2.2.2.2.2.2.2.1 _ hj).2.2 _ hT).2 ?_
            refine lv_iload_n hx hb dX9_passSound_152 rfl (lv_at hl 4 rfl) ?_
            refine lv_iadd hx hb dX9_passSound_153 ?_
            refine pf_X9_388 F hB dX9_passSound_154 ((hB.2.2.2.2.2.2.2.2.2.1 _ hj).2.2 _ hT).2 (fun H locs hBn => ?_)
            clear hB; have hB := hBn; clear hBn
            have hI9 := si_of hB.2 (SI_done hV9 hI9 hj hi hk hT hQ9 hT9.2.1)
            have hQ9 := tq_of hB.2 (TQ_PI (k9 := 2) (t := 13) hV9 hj hQ9 ((hB.2.2.2.2.2.2.2.2.2.1 _ hj).2.2 _ hT).2 (by decide))
            have hV9 := hB.2
            refine lv_iconst (v := 0) hx hb dX9_passSound_157 (by decide) ?_
            exact cl_iret F hB hrt dX9_passSound_158 (by first | exact ⟨⟨_, rfl⟩, hI9, hQ9⟩ | exact ⟨⟨_, rfl⟩, SI_up hI9 (by omega), hQ9⟩ | fail "no road")
          · refine lv_aload_n hx hb dX9_passSound_122 rfl (lv_at hl 2 rfl) ?_
            refine gr_X9_395 F hB dX9_passSound_123 (hB.2.2.2.2.2.2.1 _ _ hi hk).1 (hB.2.2.2.2.2.2.1 _ _ hi hk).2.1 ?_
            refine lv_iload_n hx hb dX9_passSound_126 rfl (lv_at hl 4 rfl) ?_
            refine cl_vi (n := 0) (NC := 0) (av := [.ref (yr Y i k), .int n]) hB (vi_crVN F.1 (m_ByteRow_drop_17 l D cy hst) ⟨va_cnB 1 F.1.2.2.2.2 (vgN (vm_0 _ (List.mem_of_getElem? (i := 11) rfl))) rfl rfl rfl (F.2.2.1.1 _ nf_124) (F.1.2.2.2.2 _ (List.mem_cons_of_mem _ (vm_0 _ (List.mem_of_getElem? (i := 23) rfl)))) ⟨by decide, by decide, by decide +kernel⟩ ⟨Nat.le_of_ble_eq_true rfl, Nat.le_of_ble_eq_true rfl⟩, F.1.2.2.2.2 _ (List.mem_cons_of_mem _ (vm_1 _ (List.mem_of_getElem? (i := 17) rfl))), F.1.2.2.2.2 _ (List.mem_cons_of_mem _ (vm_1 _ (List.mem_of_getElem? (i := 18) rfl)))⟩ rfl ⟨_, _, _, _, _, _, rfl, rfl, rfl, rfl⟩ F.2.1 F.2.2.1 hs (fun _ _ _ _ => True.intro) (fun q hq => Or.inr hq) ⟨Nat.le_refl _, Nat.le_refl _⟩) hl.1 rfl (by intro j9 a9 x9 g1 g2; exact match j9, g1, g2 with | 0, g1, g2 => by cases g1; cases g2; exact okr (en_row hB.2 hi hk) | 1, g1, g2 => by cases g1; cases g2; exact ⟨_, rfl, cl_full _⟩ | n + 2, g1, g2 => by cases g1) (fun f hf => by cases hf) (Nat.le_of_ble_eq_true rfl) (by decide +kernel) (by decide) dX9_passSound_127 rfl (fun alt ha127 H locs v σ127 w127 hB hk127 ht127 hs127 hA127 => ?_)
            have hv127 := vi_voids (by decide) ha127 hA127
            subst hv127
            have hI9 := SI_kept hV9 hB.2 hk127 (by decide +kernel) hI9
            have hT9 := TA_kept hV9 hB.2 hk127 (by decide +kernel) hj hi hk hT hT9
            have hQ9 := TQ_kept hV9 hB.2 hk127 (by decide +kernel) hj hQ9
            have hV9 := hB.2
            refine lv_aload_n hx hb dX9_passSound_130 rfl (lv_at hl 3 rfl) ?_
            refine lv_iload_n hx hb dX9_passSound_131 rfl (lv_at hl 4 rfl) ?_
            refine lv_aload_n hx hb dX9_passSound_132 rfl (lv_at hl 2 rfl) ?_
            refine gf_X9_147 F hB dX9_passSound_133 (hB.2.2.2.2.2.2.1 _ _ hi hk).1 ?_
            refine lv_icmp_ge (tgt := 143) hx hb dX9_passSound_136 (by decide) (fun c136 => ?_) (fun c136 => ?_)
            · refine lv_iconst (v := 0) hx hb dX9_passSound_143 (by decide) ?_
              refine pf_X9_626 F hB dX9_passSound_144 ((hB.2.2.2.2.2.2.2.2.2.1 _ hj).2.2 _ hT).2 (show sgF 2 _ from ⟨by decide, by decide⟩) (fun H locs hBn => ?_)
              clear hB; have hB := hBn; clear hBn
              have hI9 := si_of hB.2 (SI_PI (k := 5) hV9 hI9 (t := 13) ((hB.2.2.2.2.2.2.2.2.2.1 _ hj).2.2 _ hT).2 rfl (by decide))
              have hT9 := ta_of hB.2 (TA_PI (k9 := 5) (t := 13) hV9 hj hi hk hT hT9 ((hB.2.2.2.2.2.2.2.2.2.1 _ hj).2.2 _ hT).2 rfl)
              have hQ9 := tq_of hB.2 (TQ_PI (k9 := 5) (t := 13) hV9 hj hQ9 ((hB.2.2.2.2.2.2.2.2.2.1 _ hj).2.2 _ hT).2 (by decide))
              have hV9 := hB.2
              refine lv_aload_n hx hb dX9_passSound_147 rfl (lv_at hl 3 rfl) ?_
              refine lv_dup hx hb dX9_passSound_148 rfl ?_
              refine gf_X9_388 F hB dX9_passSound_149 ((hB.2.2.2.2.2.2.2.2.2.1 _ hj).2.2 _ hT).2 ?_
              refine lv_iload_n hx hb dX9_passSound_152 rfl (lv_at hl 4 rfl) ?_
              refine lv_iadd hx hb dX9_passSound_153 ?_
              refine pf_X9_388 F hB dX9_passSound_154 ((hB.2.2.2.2.2.2.2.2.2.1 _ hj).2.2 _ hT).2 (fun H locs hBn => ?_)
              clear hB; have hB := hBn; clear hBn
              have hI9 := si_of hB.2 (SI_done hV9 hI9 hj hi hk hT hQ9 hT9.2.1)
              have hQ9 := tq_of hB.2 (TQ_PI (k9 := 2) (t := 13) hV9 hj hQ9 ((hB.2.2.2.2.2.2.2.2.2.1 _ hj).2.2 _ hT).2 (by decide))
              have hV9 := hB.2
              refine lv_iconst (v := 0) hx hb dX9_passSound_157 (by decide) ?_
              exact cl_iret F hB hrt dX9_passSound_158 (by first | exact ⟨⟨_, rfl⟩, hI9, hQ9⟩ | exact ⟨⟨_, rfl⟩, SI_up hI9 (by omega), hQ9⟩ | fail "no road")
            · refine lv_iconst (v := 1) hx hb dX9_passSound_139 (by decide) ?_
              refine lv_goto (tgt := 144) hx hb dX9_passSound_140 (by decide) ?_
              refine pf_X9_626 F hB dX9_passSound_144 ((hB.2.2.2.2.2.2.2.2.2.1 _ hj).2.2 _ hT).2 (show sgF 2 _ from ⟨by decide, by decide⟩) (fun H locs hBn => ?_)
              clear hB; have hB := hBn; clear hBn
              have hI9 := si_of hB.2 (SI_PI (k := 5) hV9 hI9 (t := 13) ((hB.2.2.2.2.2.2.2.2.2.1 _ hj).2.2 _ hT).2 rfl (by decide))
              have hT9 := ta_of hB.2 (TA_PI (k9 := 5) (t := 13) hV9 hj hi hk hT hT9 ((hB.2.2.2.2.2.2.2.2.2.1 _ hj).2.2 _ hT).2 rfl)
              have hQ9 := tq_of hB.2 (TQ_PI (k9 := 5) (t := 13) hV9 hj hQ9 ((hB.2.2.2.2.2.2.2.2.2.1 _ hj).2.2 _ hT).2 (by decide))
              have hV9 := hB.2
              refine lv_aload_n hx hb dX9_passSound_147 rfl (lv_at hl 3 rfl) ?_
              refine lv_dup hx hb dX9_passSound_148 rfl ?_
              refine gf_X9_388 F hB dX9_passSound_149 ((hB.2.2.2.2.2.2.2.2.2.1 _ hj).2.2 _ hT).2 ?_
              refine lv_iload_n hx hb dX9_passSound_152 rfl (lv_at hl 4 rfl) ?_
              refine lv_iadd hx hb dX9_passSound_153 ?_
              refine pf_X9_388 F hB dX9_passSound_154 ((hB.2.2.2.2.2.2.2.2.2.1 _ hj).2.2 _ hT).2 (fun H locs hBn => ?_)
              clear hB; have hB := hBn; clear hBn
              have hI9 := si_of hB.2 (SI_done hV9 hI9 hj hi hk hT hQ9 hT9.2.1)
              have hQ9 := tq_of hB.2 (TQ_PI (k9 := 2) (t := 13) hV9 hj hQ9 ((hB.2.2.2.2.2.2.2.2.2.1 _ hj).2.2 _ hT).2 (by decide))
              have hV9 := hB.2
              refine lv_iconst (v := 0) hx hb dX9_passSound_157 (by decide) ?_
              exact cl_iret F hB hrt dX9_passSound_158 (by first | exact ⟨⟨_, rfl⟩, hI9, hQ9⟩ | exact ⟨⟨_, rfl⟩, SI_up hI9 (by omega), hQ9⟩ | fail "no road")
      · refine lv_iload hx hb dX9_passSound_29 (lv_at hl 4 rfl) ?_
        refine lv_bipush (v := 100) hx hb dX9_passSound_31 (by decide) ?_
        refine lv_icmp_eq (tgt := 43) hx hb dX9_passSound_33 (by decide) (fun c33 => ?_) (fun c33 => ?_)
        · refine lv_iconst (v := 1) hx hb dX9_passSound_43 (by decide) ?_
          refine lv_goto (tgt := 48) hx hb dX9_passSound_44 (by decide) ?_
          refine lv_istore (lv' := [(5, .int _), (0, .ref _), (1, .ref _), (2, .ref _), (3, .int _), (4, .int _)]) hx hb dX9_passSound_48 hl (by decide) rfl (fun ls hl => ?_)
          refine lv_iload hx hb dX9_passSound_50 (lv_at hl 0 rfl) ?_
          refine lv_if_eq (tgt := 78) hx hb dX9_passSound_52 (by decide) (fun c52 => (by first | exact absurd c52 (by decide) | exact (c52 (by decide)).elim)) (fun c52 => ?_)
          refine lv_aload_n hx hb dX9_passSound_55 rfl (lv_at hl 1 rfl) ?_
          obtain ⟨sn, hsn, tsn⟩ := sn_of hB.2
          refine gr_X9_59 F hB dX9_passSound_56 hB.2.2.1.1 hsn ?_
          refine lv_dup hx hb dX9_passSound_59 rfl ?_
          refine gf_X9_481 F hB dX9_passSound_60 tsn ?_
          refine lv_iconst (v := 1) hx hb dX9_passSound_63 (by decide) ?_
          refine lv_iadd hx hb dX9_passSound_64 ?_
          refine pf_X9_481 F hB dX9_passSound_65 tsn (fun H locs hBn => ?_)
          clear hB; have hB := hBn; clear hBn
          have hI9 := si_of hB.2 (SI_PI (k := 1) hV9 hI9 (t := 12) tsn rfl (by decide))
          have hT9 := ta_of hB.2 (TA_PI (k9 := 1) (t := 12) hV9 hj hi hk hT hT9 tsn rfl)
          have hQ9 := tq_of hB.2 (TQ_PI (k9 := 1) (t := 12) hV9 hj hQ9 tsn (by decide))
          have hV9 := hB.2
          refine lv_aload_n hx hb dX9_passSound_68 rfl (lv_at hl 2 rfl) ?_
          refine lv_dup hx hb dX9_passSound_69 rfl ?_
          refine gf_X9_629 F hB dX9_passSound_70 (hB.2.2.2.2.2.2.1 _ _ hi hk).1 ?_
          refine lv_iload_n hx hb dX9_passSound_73 rfl (lv_at hl 4 rfl) ?_
          refine lv_iadd hx hb dX9_passSound_74 ?_
          refine pf_X9_629 F hB dX9_passSound_75 (hB.2.2.2.2.2.2.1 _ _ hi hk).1 (fun H locs hBn => ?_)
          clear hB; have hB := hBn; clear hBn
          have hS9 := SI_sent hV9 hI9 hi hk hT9.2.1 h8 hB9
          have hG9 := hS9.2
          have hI9 := si_of hB.2 hS9.1
          have hT9 := ta_of hB.2 (TA_PI (k9 := 6) (t := 8) hV9 hj hi hk hT hT9 (hB.2.2.2.2.2.2.1 _ _ hi hk).1 rfl)
          have hQ9 := tq_of hB.2 (TQ_PI (k9 := 6) (t := 8) hV9 hj hQ9 (hB.2.2.2.2.2.2.1 _ _ hi hk).1 (by decide))
          have hV9 := hB.2
          refine lv_iload hx hb dX9_passSound_78 (lv_at hl 5 rfl) ?_
          refine lv_bipush (v := 32) hx hb dX9_passSound_80 (by decide) ?_
          refine lv_icmp_eq (tgt := 93) hx hb dX9_passSound_82 (by decide) (fun c82 => ?_) (fun c82 => ?_)
          · refine lv_aload_n hx hb dX9_passSound_93 rfl (lv_at hl 2 rfl) ?_
            refine gf_X9_144 F hB dX9_passSound_94 (hB.2.2.2.2.2.2.1 _ _ hi hk).1 ?_
            refine lv_if_eq (tgt := 109) hx hb dX9_passSound_97 (by decide) (fun c97 => ?_) (fun c97 => ?_)
            · have hw9 := gp_of (i := i) (k := k) (n := n.toInt) (B := B + 8) hB.2 (by first | exact hG9 ((c_nk (by decide)).symm.trans c97) | exact absurd c82 c26)
              have hI9 := si_of (B := B + 8) hB.2 (by first | exact hI9 | exact absurd c82 c26)
              refine lv_aload_n hx hb dX9_passSound_109 rfl (lv_at hl 2 rfl) ?_
              refine lv_aload_n hx hb dX9_passSound_110 rfl (lv_at hl 3 rfl) ?_
              refine lv_iload_n hx hb dX9_passSound_111 rfl (lv_at hl 4 rfl) ?_
              refine cl_callN (ci := 7) F hB (k_tkf l D cy hB.2 hj hi hk hT _ hw9.2.2 (by have q := hw9.1; have q2 := hw9.2.1; omega) _) ⟨va_cnB 2 F.1.2.2.2.2 (vgN (vm_1 _ (List.mem_of_getElem? (i := 12) rfl))) rfl rfl rfl (F.2.2.1.1 _ nf_138) (F.1.2.2.2.2 _ (List.mem_cons_of_mem _ (vm_1 _ (List.mem_of_getElem? (i := 4) rfl)))) ⟨by decide, by decide, by decide +kernel⟩ ⟨Nat.le_of_ble_eq_true rfl, Nat.le_of_ble_eq_true rfl⟩, F.1.2.2.2.2 _ (List.mem_cons_of_mem _ (vm_9 _ (List.mem_of_getElem? (i := 11) rfl))), F.1.2.2.2.2 _ (List.mem_cons_of_mem _ (vm_9 _ (List.mem_of_getElem? (i := 12) rfl)))⟩ rfl rfl (by decide) rfl hl.1 rfl (Nat.le_of_ble_eq_true rfl) dX9_passSound_112 ⟨Nat.le_of_ble_eq_true rfl, Nat.le_of_ble_eq_true rfl⟩ (hB.2.2.2.2.2.2.1 _ _ hi hk).1 (fun H locs v σ112 hB hP => ?_)
              obtain ⟨rfl, hR112, hx112⟩ := hP
              have hI9 := SI_ad hV9 hI9 hi hk hR112 (fun _ => by have q := hw9.1; omega)
              have hT9 := TA_ad hV9 hj hi hk hT (hV9.2.2.2.2.2.1 _ _ hi hk).2.2 hR112 hT9
              have hQ9 := TQ_ad hV9 hj (hV9.2.2.2.2.2.1 _ _ hi hk).2.2 hR112 hQ9
              have hV9 := hB.2
              refine lv_aload_n hx hb dX9_passSound_115 rfl (lv_at hl 2 rfl) ?_
              refine gf_X9_144 F hB dX9_passSound_116 (hB.2.2.2.2.2.2.1 _ _ hi hk).1 ?_
              refine lv_if_eq (tgt := 147) hx hb dX9_passSound_119 (by decide) (fun c119 => ?_) (fun c119 => ?_)
              · refine lv_aload_n hx hb dX9_passSound_147 rfl (lv_at hl 3 rfl) ?_
                refine lv_dup hx hb dX9_passSound_148 rfl ?_
                refine gf_X9_388 F hB dX9_passSound_149 ((hB.2.2.2.2.2.2.2.2.2.1 _ hj).2.2 _ hT).2 ?_
                refine lv_iload_n hx hb dX9_passSound_152 rfl (lv_at hl 4 rfl) ?_
                refine lv_iadd hx hb dX9_passSound_153 ?_
                refine pf_X9_388 F hB dX9_passSound_154 ((hB.2.2.2.2.2.2.2.2.2.1 _ hj).2.2 _ hT).2 (fun H locs hBn => ?_)
                clear hB; have hB := hBn; clear hBn
                have hI9 := si_of hB.2 (SI_done hV9 hI9 hj hi hk hT hQ9 hT9.2.1)
                have hQ9 := tq_of hB.2 (TQ_PI (k9 := 2) (t := 13) hV9 hj hQ9 ((hB.2.2.2.2.2.2.2.2.2.1 _ hj).2.2 _ hT).2 (by decide))
                have hV9 := hB.2
                refine lv_iconst (v := 0) hx hb dX9_passSound_157 (by decide) ?_
                exact cl_iret F hB hrt dX9_passSound_158 (by first | exact ⟨⟨_, rfl⟩, hI9, hQ9⟩ | exact ⟨⟨_, rfl⟩, SI_up hI9 (by omega), hQ9⟩ | fail "no road")
              · refine lv_aload_n hx hb dX9_passSound_122 rfl (lv_at hl 2 rfl) ?_
                refine gr_X9_395 F hB dX9_passSound_123 (hB.2.2.2.2.2.2.1 _ _ hi hk).1 (hB.2.2.2.2.2.2.1 _ _ hi hk).2.1 ?_
                refine lv_iload_n hx hb dX9_passSound_126 rfl (lv_at hl 4 rfl) ?_
                refine cl_vi (n := 0) (NC := 0) (av := [.ref (yr Y i k), .int n]) hB (vi_crVN F.1 (m_ByteRow_drop_17 l D cy hst) ⟨va_cnB 1 F.1.2.2.2.2 (vgN (vm_0 _ (List.mem_of_getElem? (i := 11) rfl))) rfl rfl rfl (F.2.2.1.1 _ nf_124) (F.1.2.2.2.2 _ (List.mem_cons_of_mem _ (vm_0 _ (List.mem_of_getElem? (i := 23) rfl)))) ⟨by decide, by decide, by decide +kernel⟩ ⟨Nat.le_of_ble_eq_true rfl, Nat.le_of_ble_eq_true rfl⟩, F.1.2.2.2.2 _ (List.mem_cons_of_mem _ (vm_1 _ (List.mem_of_getElem? (i := 17) rfl))), F.1.2.2.2.2 _ (List.mem_cons_of_mem _ (vm_1 _ (List.mem_of_getElem? (i := 18) rfl)))⟩ rfl ⟨_, _, _, _, _, _, rfl, rfl, rfl, rfl⟩ F.2.1 F.2.2.1 hs (fun _ _ _ _ => True.intro) (fun q hq => Or.inr hq) ⟨Nat.le_refl _, Nat.le_refl _⟩) hl.1 rfl (by intro j9 a9 x9 g1 g2; exact match j9, g1, g2 with | 0, g1, g2 => by cases g1; cases g2; exact okr (en_row hB.2 hi hk) | 1, g1, g2 => by cases g1; cases g2; exact ⟨_, rfl, cl_full _⟩ | n + 2, g1, g2 => by cases g1) (fun f hf => by cases hf) (Nat.le_of_ble_eq_true rfl) (by decide +kernel) (by decide) dX9_passSound_127 rfl (fun alt ha127 H locs v σ127 w127 hB hk127 ht127 hs127 hA127 => ?_)
                have hv127 := vi_voids (by decide) ha127 hA127
                subst hv127
                have hI9 := SI_kept hV9 hB.2 hk127 (by decide +kernel) hI9
                have hT9 := TA_kept hV9 hB.2 hk127 (by decide +kernel) hj hi hk hT hT9
                have hQ9 := TQ_kept hV9 hB.2 hk127 (by decide +kernel) hj hQ9
                have hV9 := hB.2
                refine lv_aload_n hx hb dX9_passSound_130 rfl (lv_at hl 3 rfl) ?_
                refine lv_iload_n hx hb dX9_passSound_131 rfl (lv_at hl 4 rfl) ?_
                refine lv_aload_n hx hb dX9_passSound_132 rfl (lv_at hl 2 rfl) ?_
                refine gf_X9_147 F hB dX9_passSound_133 (hB.2.2.2.2.2.2.1 _ _ hi hk).1 ?_
                refine lv_icmp_ge (tgt := 143) hx hb dX9_passSound_136 (by decide) (fun c136 => ?_) (fun c136 => ?_)
                · refine lv_iconst (v := 0) hx hb dX9_passSound_143 (by decide) ?_
                  refine pf_X9_626 F hB dX9_passSound_144 ((hB.2.2.2.2.2.2.2.2.2.1 _ hj).2.2 _ hT).2 (show sgF 2 _ from ⟨by decide, by decide⟩) (fun H locs hBn => ?_)
                  clear hB; have hB := hBn; clear hBn
                  have hI9 := si_of hB.2 (SI_PI (k := 5) hV9 hI9 (t := 13) ((hB.2.2.2.2.2.2.2.2.2.1 _ hj).2.2 _ hT).2 rfl (by decide))
                  have hT9 := ta_of hB.2 (TA_PI (k9 := 5) (t := 13) hV9 hj hi hk hT hT9 ((hB.2.2.2.2.2.2.2.2.2.1 _ hj).2.2 _ hT).2 rfl)
                  have hQ9 := tq_of hB.2 (TQ_PI (k9 := 5) (t := 13) hV9 hj hQ9 ((hB.2.2.2.2.2.2.2.2.2.1 _ hj).2.2 _ hT).2 (by decide))
                  have hV9 := hB.2
                  refine lv_aload_n hx hb dX9_passSound_147 rfl (lv_at hl 3 rfl) ?_
                  refine lv_dup hx hb dX9_passSound_148 rfl ?_
                  refine gf_X9_388 F hB dX9_passSound_149 ((hB.2.2.2.2.2.2.2.2.2.1 _ hj).2.2 _ hT).2 ?_
                  refine lv_iload_n hx hb dX9_passSound_152 rfl (lv_at hl 4 rfl) ?_
                  refine lv_iadd hx hb dX9_passSound_153 ?_
                  refine pf_X9_388 F hB dX9_passSound_154 ((hB.2.2.2.2.2.2.2.2.2.1 _ hj).2.2 _ hT).2 (fun H locs hBn => ?_)
                  clear hB; have hB := hBn; clear hBn
                  have hI9 := si_of hB.2 (SI_done hV9 hI9 hj hi hk hT hQ9 hT9.2.1)
                  have hQ9 := tq_of hB.2 (TQ_PI (k9 := 2) (t := 13) hV9 hj hQ9 ((hB.2.2.2.2.2.2.2.2.2.1 _ hj).2.2 _ hT).2 (by decide))
                  have hV9 := hB.2
                  refine lv_iconst (v := 0) hx hb dX9_passSound_157 (by decide) ?_
                  exact cl_iret F hB hrt dX9_passSound_158 (by first | exact ⟨⟨_, rfl⟩, hI9, hQ9⟩ | exact ⟨⟨_, rfl⟩, SI_up hI9 (by omega), hQ9⟩ | fail "no road")
                · refine lv_iconst (v := 1) hx hb dX9_passSound_139 (by decide) ?_
                  refine lv_goto (tgt := 144) hx hb dX9_passSound_140 (by decide) ?_
                  refine pf_X9_626 F hB dX9_passSound_144 ((hB.2.2.2.2.2.2.2.2.2.1 _ hj).2.2 _ hT).2 (show sgF 2 _ from ⟨by decide, by decide⟩) (fun H locs hBn => ?_)
                  clear hB; have hB := hBn; clear hBn
                  have hI9 := si_of hB.2 (SI_PI (k := 5) hV9 hI9 (t := 13) ((hB.2.2.2.2.2.2.2.2.2.1 _ hj).2.2 _ hT).2 rfl (by decide))
                  have hT9 := ta_of hB.2 (TA_PI (k9 := 5) (t := 13) hV9 hj hi hk hT hT9 ((hB.2.2.2.2.2.2.2.2.2.1 _ hj).2.2 _ hT).2 rfl)
                  have hQ9 := tq_of hB.2 (TQ_PI (k9 := 5) (t := 13) hV9 hj hQ9 ((hB.2.2.2.2.2.2.2.2.2.1 _ hj).2.2 _ hT).2 (by decide))
                  have hV9 := hB.2
                  refine lv_aload_n hx hb dX9_passSound_147 rfl (lv_at hl 3 rfl) ?_
                  refine lv_dup hx hb dX9_passSound_148 rfl ?_
                  refine gf_X9_388 F hB dX9_passSound_149 ((hB.2.2.2.2.2.2.2.2.2.1 _ hj).2.2 _ hT).2 ?_
                  refine lv_iload_n hx hb dX9_passSound_152 rfl (lv_at hl 4 rfl) ?_
                  refine lv_iadd hx hb dX9_passSound_153 ?_
                  refine pf_X9_388 F hB dX9_passSound_154 ((hB.2.2.2.2.2.2.2.2.2.1 _ hj).2.2 _ hT).2 (fun H locs hBn => ?_)
                  clear hB; have hB := hBn; clear hBn
                  have hI9 := si_of hB.2 (SI_done hV9 hI9 hj hi hk hT hQ9 hT9.2.1)
                  have hQ9 := tq_of hB.2 (TQ_PI (k9 := 2) (t := 13) hV9 hj hQ9 ((hB.2.2.2.2.2.2.2.2.2.1 _ hj).2.2 _ hT).2 (by decide))
                  have hV9 := hB.2
                  refine lv_iconst (v := 0) hx hb dX9_passSound_157 (by decide) ?_
                  exact cl_iret F hB hrt dX9_passSound_158 (by first | exact ⟨⟨_, rfl⟩, hI9, hQ9⟩ | exact ⟨⟨_, rfl⟩, SI_up hI9 (by omega), hQ9⟩ | fail "no road")
            · refine lv_aload_n hx hb dX9_passSound_100 rfl (lv_at hl 1 rfl) ?_
              refine lv_aload_n hx hb dX9_passSound_101 rfl (lv_at hl 2 rfl) ?_
              refine lv_iload_n hx hb dX9_passSound_102 rfl (lv_at hl 4 rfl) ?_
              refine cl_vi (n := 0) (NC := 0) (av := [.ref (yX Y), .ref (ye Y i k), .int n]) hB (vi_crV F.1 (m_Hubcascade_receive_0 l D cy hst) (cwV 2 F.1.2.2.2.2 (vgV (vm_9 _ (List.mem_of_getElem? (i := 8) rfl)) (vm_9 _ (List.mem_of_getElem? (i := 9) rfl)) (vm_9 _ (List.mem_of_getElem? (i := 10) rfl)) (vm_4 _ (List.mem_of_getElem? (i := 20) rfl)) (vm_9 _ (List.mem_of_getElem? (i := 7) rfl))) rfl rfl rfl ⟨rfl, by decide, by decide, by decide +kernel⟩ ⟨Nat.le_of_ble_eq_true rfl, Nat.le_of_ble_eq_true rfl⟩) rfl ⟨_, _, _, _, _, _, rfl, rfl, rfl, rfl⟩ F.2.1 F.2.2.1 hs (fun _ _ _ _ => True.intro) (fun q hq => Or.inr hq) ⟨Nat.le_refl _, Nat.le_refl _⟩) hl.1 rfl (by intro j9 a9 x9 g1 g2; exact match j9, g1, g2 with | 0, g1, g2 => by cases g1; cases g2; exact okr (cl_kd (kd := 0) hB.2.1 hB.2.2.1.1 (by decide) (by decide +kernel)) | 1, g1, g2 => by cases g1; cases g2; exact okr (cl_kd (kd := 5) hB.2.1 (hB.2.2.2.2.2.2.1 _ _ hi hk).1 (by decide) (by decide +kernel)) | 2, g1, g2 => by cases g1; cases g2; exact ⟨_, rfl, (cl_full _).1, h8⟩ | n + 3, g1, g2 => by cases g1) (fun f hf => by cases hf) (Nat.le_of_ble_eq_true rfl) (by decide +kernel) (by decide) dX9_passSound_103 rfl (fun alt ha103 H locs v σ103 w103 hB hk103 ht103 hs103 hA103 => ?_)
              have hv103 := vi_voids (by decide) ha103 hA103
              subst hv103
              have hI9 := SI_kept hV9 hB.2 hk103 (by decide +kernel) hI9
              have hT9 := TA_kept hV9 hB.2 hk103 (by decide +kernel) hj hi hk hT hT9
              have hQ9 := TQ_kept hV9 hB.2 hk103 (by decide +kernel) hj hQ9
              have hV9 := hB.2
              refine lv_goto (tgt := 115) hx hb dX9_passSound_106 (by decide) ?_
              refine lv_aload_n hx hb dX9_passSound_115 rfl (lv_at hl 2 rfl) ?_
              refine gf_X9_144 F hB dX9_passSound_116 (hB.2.2.2.2.2.2.1 _ _ hi hk).1 ?_
              refine lv_if_eq (tgt := 147) hx hb dX9_passSound_119 (by decide) (fun c119 => ?_) (fun c119 => ?_)
              · refine lv_aload_n hx hb dX9_passSound_147 rfl (lv_at hl 3 rfl) ?_
                refine lv_dup hx hb dX9_passSound_148 rfl ?_
                refine gf_X9_388 F hB dX9_passSound_149 ((hB.2.2.2.2.2.2.2.2.2.1 _ hj).2.2 _ hT).2 ?_
                refine lv_iload_n hx hb dX9_passSound_152 rfl (lv_at hl 4 rfl) ?_
                refine lv_iadd hx hb dX9_passSound_153 ?_
                refine pf_X9_388 F hB dX9_passSound_154 ((hB.2.2.2.2.2.2.2.2.2.1 _ hj).2.2 _ hT).2 (fun H locs hBn => ?_)
                clear hB; have hB := hBn; clear hBn
                have hI9 := si_of hB.2 (SI_done hV9 hI9 hj hi hk hT hQ9 hT9.2.1)
                have hQ9 := tq_of hB.2 (TQ_PI (k9 := 2) (t := 13) hV9 hj hQ9 ((hB.2.2.2.2.2.2.2.2.2.1 _ hj).2.2 _ hT).2 (by decide))
                have hV9 := hB.2
                refine lv_iconst (v := 0) hx hb dX9_passSound_157 (by decide) ?_
                exact cl_iret F hB hrt dX9_passSound_158 (by first | exact ⟨⟨_, rfl⟩, hI9, hQ9⟩ | exact ⟨⟨_, rfl⟩, SI_up hI9 (by omega), hQ9⟩ | fail "no road")
              · refine lv_aload_n hx hb dX9_passSound_122 rfl (lv_at hl 2 rfl) ?_
                refine gr_X9_395 F hB dX9_passSound_123 (hB.2.2.2.2.2.2.1 _ _ hi hk).1 (hB.2.2.2.2.2.2.1 _ _ hi hk).2.1 ?_
                refine lv_iload_n hx hb dX9_passSound_126 rfl (lv_at hl 4 rfl) ?_
                refine cl_vi (n := 0) (NC := 0) (av := [.ref (yr Y i k), .int n]) hB (vi_crVN F.1 (m_ByteRow_drop_17 l D cy hst) ⟨va_cnB 1 F.1.2.2.2.2 (vgN (vm_0 _ (List.mem_of_getElem? (i := 11) rfl))) rfl rfl rfl (F.2.2.1.1 _ nf_124) (F.1.2.2.2.2 _ (List.mem_cons_of_mem _ (vm_0 _ (List.mem_of_getElem? (i := 23) rfl)))) ⟨by decide, by decide, by decide +kernel⟩ ⟨Nat.le_of_ble_eq_true rfl, Nat.le_of_ble_eq_true rfl⟩, F.1.2.2.2.2 _ (List.mem_cons_of_mem _ (vm_1 _ (List.mem_of_getElem? (i := 17) rfl))), F.1.2.2.2.2 _ (List.mem_cons_of_mem _ (vm_1 _ (List.mem_of_getElem? (i := 18) rfl)))⟩ rfl ⟨_, _, _, _, _, _, rfl, rfl, rfl, rfl⟩ F.2.1 F.2.2.1 hs (fun _ _ _ _ => True.intro) (fun q hq => Or.inr hq) ⟨Nat.le_refl _, Nat.le_refl _⟩) hl.1 rfl (by intro j9 a9 x9 g1 g2; exact match j9, g1, g2 with | 0, g1, g2 => by cases g1; cases g2; exact okr (en_row hB.2 hi hk) | 1, g1, g2 => by cases g1; cases g2; exact ⟨_, rfl, cl_full _⟩ | n + 2, g1, g2 => by cases g1) (fun f hf => by cases hf) (Nat.le_of_ble_eq_true rfl) (by decide +kernel) (by decide) dX9_passSound_127 rfl (fun alt ha127 H locs v σ127 w127 hB hk127 ht127 hs127 hA127 => ?_)
                have hv127 := vi_voids (by decide) ha127 hA127
                subst hv127
                have hI9 := SI_kept hV9 hB.2 hk127 (by decide +kernel) hI9
                have hT9 := TA_kept hV9 hB.2 hk127 (by decide +kernel) hj hi hk hT hT9
                have hQ9 := TQ_kept hV9 hB.2 hk127 (by decide +kernel) hj hQ9
                have hV9 := hB.2
                refine lv_aload_n hx hb dX9_passSound_130 rfl (lv_at hl 3 rfl) ?_
                refine lv_iload_n hx hb dX9_passSound_131 rfl (lv_at hl 4 rfl) ?_
                refine lv_aload_n hx hb dX9_passSound_132 rfl (lv_at hl 2 rfl) ?_
                refine gf_X9_147 F hB dX9_passSound_133 (hB.2.2.2.2.2.2.1 _ _ hi hk).1 ?_
                refine lv_icmp_ge (tgt := 143) hx hb dX9_passSound_136 (by decide) (fun c136 => ?_) (fun c136 => ?_)
                · refine lv_iconst (v := 0) hx hb dX9_passSound_143 (by decide) ?_
                  refine pf_X9_626 F hB dX9_passSound_144 ((hB.2.2.2.2.2.2.2.2.2.1 _ hj).2.2 _ hT).2 (show sgF 2 _ from ⟨by decide, by decide⟩) (fun H locs hBn => ?_)
                  clear hB; have hB := hBn; clear hBn
                  have hI9 := si_of hB.2 (SI_PI (k := 5) hV9 hI9 (t := 13) ((hB.2.2.2.2.2.2.2.2.2.1 _ hj).2.2 _ hT).2 rfl (by decide))
                  have hT9 := ta_of hB.2 (TA_PI (k9 := 5) (t := 13) hV9 hj hi hk hT hT9 ((hB.2.2.2.2.2.2.2.2.2.1 _ hj).2.2 _ hT).2 rfl)
                  have hQ9 := tq_of hB.2 (TQ_PI (k9 := 5) (t := 13) hV9 hj hQ9 ((hB.2.2.2.2.2.2.2.2.2.1 _ hj).2.2 _ hT).2 (by decide))
                  have hV9 := hB.2
                  refine lv_aload_n hx hb dX9_passSound_147 rfl (lv_at hl 3 rfl) ?_
                  refine lv_dup hx hb dX9_passSound_148 rfl ?_
                  refine gf_X9_388 F hB dX9_passSound_149 ((hB.2.2.2.2.2.2.2.2.2.1 _ hj).2.2 _ hT).2 ?_
                  refine lv_iload_n hx hb dX9_passSound_152 rfl (lv_at hl 4 rfl) ?_
                  refine lv_iadd hx hb dX9_passSound_153 ?_
                  refine pf_X9_388 F hB dX9_passSound_154 ((hB.2.2.2.2.2.2.2.2.2.1 _ hj).2.2 _ hT).2 (fun H locs hBn => ?_)
                  clear hB; have hB := hBn; clear hBn
                  have hI9 := si_of hB.2 (SI_done hV9 hI9 hj hi hk hT hQ9 hT9.2.1)
                  have hQ9 := tq_of hB.2 (TQ_PI (k9 := 2) (t := 13) hV9 hj hQ9 ((hB.2.2.2.2.2.2.2.2.2.1 _ hj).2.2 _ hT).2 (by decide))
                  have hV9 := hB.2
                  refine lv_iconst (v := 0) hx hb dX9_passSound_157 (by decide) ?_
                  exact cl_iret F hB hrt dX9_passSound_158 (by first | exact ⟨⟨_, rfl⟩, hI9, hQ9⟩ | exact ⟨⟨_, rfl⟩, SI_up hI9 (by omega), hQ9⟩ | fail "no road")
                · refine lv_iconst (v := 1) hx hb dX9_passSound_139 (by decide) ?_
                  refine lv_goto (tgt := 144) hx hb dX9_passSound_140 (by decide) ?_
                  refine pf_X9_626 F hB dX9_passSound_144 ((hB.2.2.2.2.2.2.2.2.2.1 _ hj).2.2 _ hT).2 (show sgF 2 _ from ⟨by decide, by decide⟩) (fun H locs hBn => ?_)
                  clear hB; have hB := hBn; clear hBn
                  have hI9 := si_of hB.2 (SI_PI (k := 5) hV9 hI9 (t := 13) ((hB.2.2.2.2.2.2.2.2.2.1 _ hj).2.2 _ hT).2 rfl (by decide))
                  have hT9 := ta_of hB.2 (TA_PI (k9 := 5) (t := 13) hV9 hj hi hk hT hT9 ((hB.2.2.2.2.2.2.2.2.2.1 _ hj).2.2 _ hT).2 rfl)
                  have hQ9 := tq_of hB.2 (TQ_PI (k9 := 5) (t := 13) hV9 hj hQ9 ((hB.2.2.2.2.2.2.2.2.2.1 _ hj).2.2 _ hT).2 (by decide))
                  have hV9 := hB.2
                  refine lv_aload_n hx hb dX9_passSound_147 rfl (lv_at hl 3 rfl) ?_
                  refine lv_dup hx hb dX9_passSound_148 rfl ?_
                  refine gf_X9_388 F hB dX9_passSound_149 ((hB.2.2.2.2.2.2.2.2.2.1 _ hj).2.2 _ hT).2 ?_
                  refine lv_iload_n hx hb dX9_passSound_152 rfl (lv_at hl 4 rfl) ?_
                  refine lv_iadd hx hb dX9_passSound_153 ?_
                  refine pf_X9_388 F hB dX9_passSound_154 ((hB.2.2.2.2.2.2.2.2.2.1 _ hj).2.2 _ hT).2 (fun H locs hBn => ?_)
                  clear hB; have hB := hBn; clear hBn
                  have hI9 := si_of hB.2 (SI_done hV9 hI9 hj hi hk hT hQ9 hT9.2.1)
                  have hQ9 := tq_of hB.2 (TQ_PI (k9 := 2) (t := 13) hV9 hj hQ9 ((hB.2.2.2.2.2.2.2.2.2.1 _ hj).2.2 _ hT).2 (by decide))
                  have hV9 := hB.2
                  refine lv_iconst (v := 0) hx hb dX9_passSound_157 (by decide) ?_
                  exact cl_iret F hB hrt dX9_passSound_158 (by first | exact ⟨⟨_, rfl⟩, hI9, hQ9⟩ | exact ⟨⟨_, rfl⟩, SI_up hI9 (by omega), hQ9⟩ | fail "no road")
          · refine lv_aload_n hx hb dX9_passSound_85 rfl (lv_at hl 3 rfl) ?_
            refine lv_iconst (v := 1) hx hb dX9_passSound_86 (by decide) ?_
            refine pf_X9_623 F hB dX9_passSound_87 ((hB.2.2.2.2.2.2.2.2.2.1 _ hj).2.2 _ hT).2 ⟨by decide, by decide⟩ (fun H locs hBn => ?_)
            clear hB; have hB := hBn; clear hBn
            have hI9 := si_of hB.2 (SI_PI (k := 4) hV9 hI9 (t := 13) ((hB.2.2.2.2.2.2.2.2.2.1 _ hj).2.2 _ hT).2 rfl (by decide))
            have hT9 := ta_of hB.2 (TA_PI (k9 := 4) (t := 13) hV9 hj hi hk hT hT9 ((hB.2.2.2.2.2.2.2.2.2.1 _ hj).2.2 _ hT).2 rfl)
            have hQ9 := tq_of hB.2 (TQ_PI (k9 := 4) (t := 13) hV9 hj hQ9 ((hB.2.2.2.2.2.2.2.2.2.1 _ hj).2.2 _ hT).2 (by decide))
            have hV9 := hB.2
            refine lv_goto (tgt := 115) hx hb dX9_passSound_90 (by decide) ?_
            refine lv_aload_n hx hb dX9_passSound_115 rfl (lv_at hl 2 rfl) ?_
            refine gf_X9_144 F hB dX9_passSound_116 (hB.2.2.2.2.2.2.1 _ _ hi hk).1 ?_
            refine lv_if_eq (tgt := 147) hx hb dX9_passSound_119 (by decide) (fun c119 => ?_) (fun c119 => ?_)
            · refine lv_aload_n hx hb dX9_passSound_147 rfl (lv_at hl 3 rfl) ?_
              refine lv_dup hx hb dX9_passSound_148 rfl ?_
              refine gf_X9_388 F hB dX9_passSound_149 ((hB.2.2.2.2.2.2.2.2.2.1 _ hj).2.2 _ hT).2 ?_
              refine lv_iload_n hx hb dX9_passSound_152 rfl (lv_at hl 4 rfl) ?_
              refine lv_iadd hx hb dX9_passSound_153 ?_
              refine pf_X9_388 F hB dX9_passSound_154 ((hB.2.2.2.2.2.2.2.2.2.1 _ hj).2.2 _ hT).2 (fun H locs hBn => ?_)
              clear hB; have hB := hBn; clear hBn
              have hI9 := si_of hB.2 (SI_done hV9 hI9 hj hi hk hT hQ9 hT9.2.1)
              have hQ9 := tq_of hB.2 (TQ_PI (k9 := 2) (t := 13) hV9 hj hQ9 ((hB.2.2.2.2.2.2.2.2.2.1 _ hj).2.2 _ hT).2 (by decide))
              have hV9 := hB.2
              refine lv_iconst (v := 0) hx hb dX9_passSound_157 (by decide) ?_
              exact cl_iret F hB hrt dX9_passSound_158 (by first | exact ⟨⟨_, rfl⟩, hI9, hQ9⟩ | exact ⟨⟨_, rfl⟩, SI_up hI9 (by omega), hQ9⟩ | fail "no road")
            · refine lv_aload_n hx hb dX9_passSound_122 rfl (lv_at hl 2 rfl) ?_
              refine gr_X9_395 F hB dX9_passSound_123 (hB.2.2.2.2.2.2.1 _ _ hi hk).1 (hB.2.2.2.2.2.2.1 _ _ hi hk).2.1 ?_
              refine lv_iload_n hx hb dX9_passSound_126 rfl (lv_at hl 4 rfl) ?_
              refine cl_vi (n := 0) (NC := 0) (av := [.ref (yr Y i k), .int n]) hB (vi_crVN F.1 (m_ByteRow_drop_17 l D cy hst) ⟨va_cnB 1 F.1.2.2.2.2 (vgN (vm_0 _ (List.mem_of_getElem? (i := 11) rfl))) rfl rfl rfl (F.2.2.1.1 _ nf_124) (F.1.2.2.2.2 _ (List.mem_cons_of_mem _ (vm_0 _ (List.mem_of_getElem? (i := 23) rfl)))) ⟨by decide, by decide, by decide +kernel⟩ ⟨Nat.le_of_ble_eq_true rfl, Nat.le_of_ble_eq_true rfl⟩, F.1.2.2.2.2 _ (List.mem_cons_of_mem _ (vm_1 _ (List.mem_of_getElem? (i := 17) rfl))), F.1.2.2.2.2 _ (List.mem_cons_of_mem _ (vm_1 _ (List.mem_of_getElem? (i := 18) rfl)))⟩ rfl ⟨_, _, _, _, _, _, rfl, rfl, rfl, rfl⟩ F.2.1 F.2.2.1 hs (fun _ _ _ _ => True.intro) (fun q hq => Or.inr hq) ⟨Nat.le_refl _, Nat.le_refl _⟩) hl.1 rfl (by intro j9 a9 x9 g1 g2; exact match j9, g1, g2 with | 0, g1, g2 => by cases g1; cases g2; exact okr (en_row hB.2 hi hk) | 1, g1, g2 => by cases g1; cases g2; exact ⟨_, rfl, cl_full _⟩ | n + 2, g1, g2 => by cases g1) (fun f hf => by cases hf) (Nat.le_of_ble_eq_true rfl) (by decide +kernel) (by decide) dX9_passSound_127 rfl (fun alt ha127 H locs v σ127 w127 hB hk127 ht127 hs127 hA127 => ?_)
              have hv127 := vi_voids (by decide) ha127 hA127
              subst hv127
              have hI9 := SI_kept hV9 hB.2 hk127 (by decide +kernel) hI9
              have hT9 := TA_kept hV9 hB.2 hk127 (by decide +kernel) hj hi hk hT hT9
              have hQ9 := TQ_kept hV9 hB.2 hk127 (by decide +kernel) hj hQ9
              have hV9 := hB.2
              refine lv_aload_n hx hb dX9_passSound_130 rfl (lv_at hl 3 rfl) ?_
              refine lv_iload_n hx hb dX9_passSound_131 rfl (lv_at hl 4 rfl) ?_
              refine lv_aload_n hx hb dX9_passSound_132 rfl (lv_at hl 2 rfl) ?_
              refine gf_X9_147 F hB dX9_passSound_133 (hB.2.2.2.2.2.2.1 _ _ hi hk).1 ?_
              refine lv_icmp_ge (tgt := 143) hx hb dX9_passSound_136 (by decide) (fun c136 => ?_) (fun c136 => ?_)
              · refine lv_iconst (v := 0) hx hb dX9_passSound_143 (by decide) ?_
                refine pf_X9_626 F hB dX9_passSound_144 ((hB.2.2.2.2.2.2.2.2.2.1 _ hj).2.2 _ hT).2 (show sgF 2 _ from ⟨by decide, by decide⟩) (fun H locs hBn => ?_)
                clear hB; have hB := hBn; clear hBn
                have hI9 := si_of hB.2 (SI_PI (k := 5) hV9 hI9 (t := 13) ((hB.2.2.2.2.2.2.2.2.2.1 _ hj).2.2 _ hT).2 rfl (by decide))
                have hT9 := ta_of hB.2 (TA_PI (k9 := 5) (t := 13) hV9 hj hi hk hT hT9 ((hB.2.2.2.2.2.2.2.2.2.1 _ hj).2.2 _ hT).2 rfl)
                have hQ9 := tq_of hB.2 (TQ_PI (k9 := 5) (t := 13) hV9 hj hQ9 ((hB.2.2.2.2.2.2.2.2.2.1 _ hj).2.2 _ hT).2 (by decide))
                have hV9 := hB.2
                refine lv_aload_n hx hb dX9_passSound_147 rfl (lv_at hl 3 rfl) ?_
                refine lv_dup hx hb dX9_passSound_148 rfl ?_
                refine gf_X9_388 F hB dX9_passSound_149 ((hB.2.2.2.2.2.2.2.2.2.1 _ hj).2.2 _ hT).2 ?_
                refine lv_iload_n hx hb dX9_passSound_152 rfl (lv_at hl 4 rfl) ?_
                refine lv_iadd hx hb dX9_passSound_153 ?_
                refine pf_X9_388 F hB dX9_passSound_154 ((hB.2.2.2.2.2.2.2.2.2.1 _ hj).2.2 _ hT).2 (fun H locs hBn => ?_)
                clear hB; have hB := hBn; clear hBn
                have hI9 := si_of hB.2 (SI_done hV9 hI9 hj hi hk hT hQ9 hT9.2.1)
                have hQ9 := tq_of hB.2 (TQ_PI (k9 := 2) (t := 13) hV9 hj hQ9 ((hB.2.2.2.2.2.2.2.2.2.1 _ hj).2.2 _ hT).2 (by decide))
                have hV9 := hB.2
                refine lv_iconst (v := 0) hx hb dX9_passSound_157 (by decide) ?_
                exact cl_iret F hB hrt dX9_passSound_158 (by first | exact ⟨⟨_, rfl⟩, hI9, hQ9⟩ | exact ⟨⟨_, rfl⟩, SI_up hI9 (by omega), hQ9⟩ | fail "no road")
              · refine lv_iconst (v := 1) hx hb dX9_passSound_139 (by decide) ?_
                refine lv_goto (tgt := 144) hx hb dX9_passSound_140 (by decide) ?_
                refine pf_X9_626 F hB dX9_passSound_144 ((hB.2.2.2.2.2.2.2.2.2.1 _ hj).2.2 _ hT).2 (show sgF 2 _ from ⟨by decide, by decide⟩) (fun H locs hBn => ?_)
                clear hB; have hB := hBn; clear hBn
                have hI9 := si_of hB.2 (SI_PI (k := 5) hV9 hI9 (t := 13) ((hB.2.2.2.2.2.2.2.2.2.1 _ hj).2.2 _ hT).2 rfl (by decide))
                have hT9 := ta_of hB.2 (TA_PI (k9 := 5) (t := 13) hV9 hj hi hk hT hT9 ((hB.2.2.2.2.2.2.2.2.2.1 _ hj).2.2 _ hT).2 rfl)
                have hQ9 := tq_of hB.2 (TQ_PI (k9 := 5) (t := 13) hV9 hj hQ9 ((hB.2.2.2.2.2.2.2.2.2.1 _ hj).2.2 _ hT).2 (by decide))
                have hV9 := hB.2
                refine lv_aload_n hx hb dX9_passSound_147 rfl (lv_at hl 3 rfl) ?_
                refine lv_dup hx hb dX9_passSound_148 rfl ?_
                refine gf_X9_388 F hB dX9_passSound_149 ((hB.2.2.2.2.2.2.2.2.2.1 _ hj).2.2 _ hT).2 ?_
                refine lv_iload_n hx hb dX9_passSound_152 rfl (lv_at hl 4 rfl) ?_
                refine lv_iadd hx hb dX9_passSound_153 ?_
                refine pf_X9_388 F hB dX9_passSound_154 ((hB.2.2.2.2.2.2.2.2.2.1 _ hj).2.2 _ hT).2 (fun H locs hBn => ?_)
                clear hB; have hB := hBn; clear hBn
                have hI9 := si_of hB.2 (SI_done hV9 hI9 hj hi hk hT hQ9 hT9.2.1)
                have hQ9 := tq_of hB.2 (TQ_PI (k9 := 2) (t := 13) hV9 hj hQ9 ((hB.2.2.2.2.2.2.2.2.2.1 _ hj).2.2 _ hT).2 (by decide))
                have hV9 := hB.2
                refine lv_iconst (v := 0) hx hb dX9_passSound_157 (by decide) ?_
                exact cl_iret F hB hrt dX9_passSound_158 (by first | exact ⟨⟨_, rfl⟩, hI9, hQ9⟩ | exact ⟨⟨_, rfl⟩, SI_up hI9 (by omega), hQ9⟩ | fail "no road")
        · refine lv_iload hx hb dX9_passSound_36 (lv_at hl 4 rfl) ?_
          refine lv_bipush (v := 97) hx hb dX9_passSound_38 (by decide) ?_
          refine lv_icmp_ne (tgt := 47) hx hb dX9_passSound_40 (by decide) (fun c40 => ?_) (fun c40 => ?_)
          · refine lv_iconst (v := 0) hx hb dX9_passSound_47 (by decide) ?_
            refine lv_istore (lv' := [(5, .int _), (0, .ref _), (1, .ref _), (2, .ref _), (3, .int _), (4, .int _)]) hx hb dX9_passSound_48 hl (by decide) rfl (fun ls hl => ?_)
            refine lv_iload hx hb dX9_passSound_50 (lv_at hl 0 rfl) ?_
            refine lv_if_eq (tgt := 78) hx hb dX9_passSound_52 (by decide) (fun c52 => ?_) (fun c52 => (by first | exact absurd c52 (by decide) | exact (c52 (by decide)).elim))
            refine lv_iload hx hb dX9_passSound_78 (lv_at hl 5 rfl) ?_
            refine lv_bipush (v := 32) hx hb dX9_passSound_80 (by decide) ?_
            refine lv_icmp_eq (tgt := 93) hx hb dX9_passSound_82 (by decide) (fun c82 => ?_) (fun c82 => ?_)
            · refine lv_aload_n hx hb dX9_passSound_93 rfl (lv_at hl 2 rfl) ?_
              refine gf_X9_144 F hB dX9_passSound_94 (hB.2.2.2.2.2.2.1 _ _ hi hk).1 ?_
              refine lv_if_eq (tgt := 109) hx hb dX9_passSound_97 (by decide) (fun c97 => ?_) (fun c97 => ?_)
              · have hw9 := gp_of (i := i) (k := k) (n := n.toInt) (B := B + 8) hB.2 (by first | exact hG9 ((c_nk (by decide)).symm.trans c97) | exact absurd c82 c26)
                have hI9 := si_of (B := B + 8) hB.2 (by first | exact hI9 | exact absurd c82 c26)
                refine lv_aload_n hx hb dX9_passSound_109 rfl (lv_at hl 2 rfl) ?_
                refine lv_aload_n hx hb dX9_passSound_110 rfl (lv_at hl 3 rfl) ?_
                refine lv_iload_n hx hb dX9_passSound_111 rfl (lv_at hl 4 rfl) ?_
                refine cl_callN (ci := 7) F hB (k_tkf l D cy hB.2 hj hi hk hT _ hw9.2.2 (by have q := hw9.1; have q2 := hw9.2.1; omega) _) ⟨va_cnB 2 F.1.2.2.2.2 (vgN (vm_1 _ (List.mem_of_getElem? (i := 12) rfl))) rfl rfl rfl (F.2.2.1.1 _ nf_138) (F.1.2.2.2.2 _ (List.mem_cons_of_mem _ (vm_1 _ (List.mem_of_getElem? (i := 4) rfl)))) ⟨by decide, by decide, by decide +kernel⟩ ⟨Nat.le_of_ble_eq_true rfl, Nat.le_of_ble_eq_true rfl⟩, F.1.2.2.2.2 _ (List.mem_cons_of_mem _ (vm_9 _ (List.mem_of_getElem? (i := 11) rfl))), F.1.2.2.2.2 _ (List.mem_cons_of_mem _ (vm_9 _ (List.mem_of_getElem? (i := 12) rfl)))⟩ rfl rfl (by decide) rfl hl.1 rfl (Nat.le_of_ble_eq_true rfl) dX9_passSound_112 ⟨Nat.le_of_ble_eq_true rfl, Nat.le_of_ble_eq_true rfl⟩ (hB.2.2.2.2.2.2.1 _ _ hi hk).1 (fun H locs v σ112 hB hP => ?_)
                obtain ⟨rfl, hR112, hx112⟩ := hP
                have hI9 := SI_ad hV9 hI9 hi hk hR112 (fun _ => by have q := hw9.1; omega)
                have hT9 := TA_ad hV9 hj hi hk hT (hV9.2.2.2.2.2.1 _ _ hi hk).2.2 hR112 hT9
                have hQ9 := TQ_ad hV9 hj (hV9.2.2.2.2.2.1 _ _ hi hk).2.2 hR112 hQ9
                have hV9 := hB.2
                refine lv_aload_n hx hb dX9_passSound_115 rfl (lv_at hl 2 rfl) ?_
                refine gf_X9_144 F hB dX9_passSound_116 (hB.2.2.2.2.2.2.1 _ _ hi hk).1 ?_
                refine lv_if_eq (tgt := 147) hx hb dX9_passSound_119 (by decide) (fun c119 => ?_) (fun c119 => ?_)
                · refine lv_aload_n hx hb dX9_passSound_147 rfl (lv_at hl 3 rfl) ?_
                  refine lv_dup hx hb dX9_passSound_148 rfl ?_
                  refine gf_X9_388 F hB dX9_passSound_149 ((hB.2.2.2.2.2.2.2.2.2.1 _ hj).2.2 _ hT).2 ?_
                  refine lv_iload_n hx hb dX9_passSound_152 rfl (lv_at hl 4 rfl) ?_
                  refine lv_iadd hx hb dX9_passSound_153 ?_
                  refine pf_X9_388 F hB dX9_passSound_154 ((hB.2.2.2.2.2.2.2.2.2.1 _ hj).2.2 _ hT).2 (fun H locs hBn => ?_)
                  clear hB; have hB := hBn; clear hBn
                  have hI9 := si_of hB.2 (SI_done hV9 hI9 hj hi hk hT hQ9 hT9.2.1)
                  have hQ9 := tq_of hB.2 (TQ_PI (k9 := 2) (t := 13) hV9 hj hQ9 ((hB.2.2.2.2.2.2.2.2.2.1 _ hj).2.2 _ hT).2 (by decide))
                  have hV9 := hB.2
                  refine lv_iconst (v := 0) hx hb dX9_passSound_157 (by decide) ?_
                  exact cl_iret F hB hrt dX9_passSound_158 (by first | exact ⟨⟨_, rfl⟩, hI9, hQ9⟩ | exact ⟨⟨_, rfl⟩, SI_up hI9 (by omega), hQ9⟩ | fail "no road")
                · refine lv_aload_n hx hb dX9_passSound_122 rfl (lv_at hl 2 rfl) ?_
                  refine gr_X9_395 F hB dX9_passSound_123 (hB.2.2.2.2.2.2.1 _ _ hi hk).1 (hB.2.2.2.2.2.2.1 _ _ hi hk).2.1 ?_
                  refine lv_iload_n hx hb dX9_passSound_126 rfl (lv_at hl 4 rfl) ?_
                  refine cl_vi (n := 0) (NC := 0) (av := [.ref (yr Y i k), .int n]) hB (vi_crVN F.1 (m_ByteRow_drop_17 l D cy hst) ⟨va_cnB 1 F.1.2.2.2.2 (vgN (vm_0 _ (List.mem_of_getElem? (i := 11) rfl))) rfl rfl rfl (F.2.2.1.1 _ nf_124) (F.1.2.2.2.2 _ (List.mem_cons_of_mem _ (vm_0 _ (List.mem_of_getElem? (i := 23) rfl)))) ⟨by decide, by decide, by decide +kernel⟩ ⟨Nat.le_of_ble_eq_true rfl, Nat.le_of_ble_eq_true rfl⟩, F.1.2.2.2.2 _ (List.mem_cons_of_mem _ (vm_1 _ (List.mem_of_getElem? (i := 17) rfl))), F.1.2.2.2.2 _ (List.mem_cons_of_mem _ (vm_1 _ (List.mem_of_getElem? (i := 18) rfl)))⟩ rfl ⟨_, _, _, _, _, _, rfl, rfl, rfl, rfl⟩ F.2.1 F.2.2.1 hs (fun _ _ _ _ => True.intro) (fun q hq => Or.inr hq) ⟨Nat.le_refl _, Nat.le_refl _⟩) hl.1 rfl (by intro j9 a9 x9 g1 g2; exact match j9, g1, g2 with | 0, g1, g2 => by cases g1; cases g2; exact okr (en_row hB.2 hi hk) | 1, g1, g2 => by cases g1; cases g2; exact ⟨_, rfl, cl_full _⟩ | n + 2, g1, g2 => by cases g1) (fun f hf => by cases hf) (Nat.le_of_ble_eq_true rfl) (by decide +kernel) (by decide) dX9_passSound_127 rfl (fun alt ha127 H locs v σ127 w127 hB hk127 ht127 hs127 hA127 => ?_)
                  have hv127 := vi_voids (by decide) ha127 hA127
                  subst hv127
                  have hI9 := SI_kept hV9 hB.2 hk127 (by decide +kernel) hI9
                  have hT9 := TA_kept hV9 hB.2 hk127 (by decide +kernel) hj hi hk hT hT9
                  have hQ9 := TQ_kept hV9 hB.2 hk127 (by decide +kernel) hj hQ9
                  have hV9 := hB.2
                  refine lv_aload_n hx hb dX9_passSound_130 rfl (lv_at hl 3 rfl) ?_
                  refine lv_iload_n hx hb dX9_passSound_131 rfl (lv_at hl 4 rfl) ?_
                  refine lv_aload_n hx hb dX9_passSound_132 rfl (lv_at hl 2 rfl) ?_
                  refine gf_X9_147 F hB dX9_passSound_133 (hB.2.2.2.2.2.2.1 _ _ hi hk).1 ?_
                  refine lv_icmp_ge (tgt := 143) hx hb dX9_passSound_136 (by decide) (fun c136 => ?_) (fun c136 => ?_)
                  · refine lv_iconst (v := 0) hx hb dX9_passSound_143 (by decide) ?_
                    refine pf_X9_626 F hB dX9_passSound_144 ((hB.2.2.2.2.2.2.2.2.2.1 _ hj).2.2 _ hT).2 (show sgF 2 _ from ⟨by decide, by decide⟩) (fun H locs hBn => ?_)
                    clear hB; have hB := hBn; clear hBn
                    have hI9 := si_of hB.2 (SI_PI (k := 5) hV9 hI9 (t := 13) ((hB.2.2.2.2.2.2.2.2.2.1 _ hj).2.2 _ hT).2 rfl (by decide))
                    have hT9 := ta_of hB.2 (TA_PI (k9 := 5) (t := 13) hV9 hj hi hk hT hT9 ((hB.2.2.2.2.2.2.2.2.2.1 _ hj).2.2 _ hT).2 rfl)
                    have hQ9 := tq_of hB.2 (TQ_PI (k9 := 5) (t := 13) hV9 hj hQ9 ((hB.2.2.2.2.2.2.2.2.2.1 _ hj).2.2 _ hT).2 (by decide))
                    have hV9 := hB.2
                    refine lv_aload_n hx hb dX9_passSound_147 rfl (lv_at hl 3 rfl) ?_
                    refine lv_dup hx hb dX9_passSound_148 rfl ?_
                    refine gf_X9_388 F hB dX9_passSound_149 ((hB.2.2.2.2.2.2.2.2.2.1 _ hj).2.2 _ hT).2 ?_
                    refine lv_iload_n hx hb dX9_passSound_152 rfl (lv_at hl 4 rfl) ?_
                    refine lv_iadd hx hb dX9_passSound_153 ?_
                    refine pf_X9_388 F hB dX9_passSound_154 ((hB.2.2.2.2.2.2.2.2.2.1 _ hj).2.2 _ hT).2 (fun H locs hBn => ?_)
                    clear hB; have hB := hBn; clear hBn
                    have hI9 := si_of hB.2 (SI_done hV9 hI9 hj hi hk hT hQ9 hT9.2.1)
                    have hQ9 := tq_of hB.2 (TQ_PI (k9 := 2) (t := 13) hV9 hj hQ9 ((hB.2.2.2.2.2.2.2.2.2.1 _ hj).2.2 _ hT).2 (by decide))
                    have hV9 := hB.2
                    refine lv_iconst (v := 0) hx hb dX9_passSound_157 (by decide) ?_
                    exact cl_iret F hB hrt dX9_passSound_158 (by first | exact ⟨⟨_, rfl⟩, hI9, hQ9⟩ | exact ⟨⟨_, rfl⟩, SI_up hI9 (by omega), hQ9⟩ | fail "no road")
                  · refine lv_iconst (v := 1) hx hb dX9_passSound_139 (by decide) ?_
                    refine lv_goto (tgt := 144) hx hb dX9_passSound_140 (by decide) ?_
                    refine pf_X9_626 F hB dX9_passSound_144 ((hB.2.2.2.2.2.2.2.2.2.1 _ hj).2.2 _ hT).2 (show sgF 2 _ from ⟨by decide, by decide⟩) (fun H locs hBn => ?_)
                    clear hB; have hB := hBn; clear hBn
                    have hI9 := si_of hB.2 (SI_PI (k := 5) hV9 hI9 (t := 13) ((hB.2.2.2.2.2.2.2.2.2.1 _ hj).2.2 _ hT).2 rfl (by decide))
                    have hT9 := ta_of hB.2 (TA_PI (k9 := 5) (t := 13) hV9 hj hi hk hT hT9 ((hB.2.2.2.2.2.2.2.2.2.1 _ hj).2.2 _ hT).2 rfl)
                    have hQ9 := tq_of hB.2 (TQ_PI (k9 := 5) (t := 13) hV9 hj hQ9 ((hB.2.2.2.2.2.2.2.2.2.1 _ hj).2.2 _ hT).2 (by decide))
                    have hV9 := hB.2
                    refine lv_aload_n hx hb dX9_passSound_147 rfl (lv_at hl 3 rfl) ?_
                    refine lv_dup hx hb dX9_passSound_148 rfl ?_
                    refine gf_X9_388 F hB dX9_passSound_149 ((hB.2.2.2.2.2.2.2.2.2.1 _ hj).2.2 _ hT).2 ?_
                    refine lv_iload_n hx hb dX9_passSound_152 rfl (lv_at hl 4 rfl) ?_
                    refine lv_iadd hx hb dX9_passSound_153 ?_
                    refine pf_X9_388 F hB dX9_passSound_154 ((hB.2.2.2.2.2.2.2.2.2.1 _ hj).2.2 _ hT).2 (fun H locs hBn => ?_)
                    clear hB; have hB := hBn; clear hBn
                    have hI9 := si_of hB.2 (SI_done hV9 hI9 hj hi hk hT hQ9 hT9.2.1)
                    have hQ9 := tq_of hB.2 (TQ_PI (k9 := 2) (t := 13) hV9 hj hQ9 ((hB.2.2.2.2.2.2.2.2.2.1 _ hj).2.2 _ hT).2 (by decide))
                    have hV9 := hB.2
                    refine lv_iconst (v := 0) hx hb dX9_passSound_157 (by decide) ?_
                    exact cl_iret F hB hrt dX9_passSound_158 (by first | exact ⟨⟨_, rfl⟩, hI9, hQ9⟩ | exact ⟨⟨_, rfl⟩, SI_up hI9 (by omega), hQ9⟩ | fail "no road")
              · refine lv_aload_n hx hb dX9_passSound_100 rfl (lv_at hl 1 rfl) ?_
                refine lv_aload_n hx hb dX9_passSound_101 rfl (lv_at hl 2 rfl) ?_
                refine lv_iload_n hx hb dX9_passSound_102 rfl (lv_at hl 4 rfl) ?_
                refine cl_vi (n := 0) (NC := 0) (av := [.ref (yX Y), .ref (ye Y i k), .int n]) hB (vi_crV F.1 (m_Hubcascade_receive_0 l D cy hst) (cwV 2 F.1.2.2.2.2 (vgV (vm_9 _ (List.mem_of_getElem? (i := 8) rfl)) (vm_9 _ (List.mem_of_getElem? (i := 9) rfl)) (vm_9 _ (List.mem_of_getElem? (i := 10) rfl)) (vm_4 _ (List.mem_of_getElem? (i := 20) rfl)) (vm_9 _ (List.mem_of_getElem? (i := 7) rfl))) rfl rfl rfl ⟨rfl, by decide, by decide, by decide +kernel⟩ ⟨Nat.le_of_ble_eq_true rfl, Nat.le_of_ble_eq_true rfl⟩) rfl ⟨_, _, _, _, _, _, rfl, rfl, rfl, rfl⟩ F.2.1 F.2.2.1 hs (fun _ _ _ _ => True.intro) (fun q hq => Or.inr hq) ⟨Nat.le_refl _, Nat.le_refl _⟩) hl.1 rfl (by intro j9 a9 x9 g1 g2; exact match j9, g1, g2 with | 0, g1, g2 => by cases g1; cases g2; exact okr (cl_kd (kd := 0) hB.2.1 hB.2.2.1.1 (by decide) (by decide +kernel)) | 1, g1, g2 => by cases g1; cases g2; exact okr (cl_kd (kd := 5) hB.2.1 (hB.2.2.2.2.2.2.1 _ _ hi hk).1 (by decide) (by decide +kernel)) | 2, g1, g2 => by cases g1; cases g2; exact ⟨_, rfl, (cl_full _).1, h8⟩ | n + 3, g1, g2 => by cases g1) (fun f hf => by cases hf) (Nat.le_of_ble_eq_true rfl) (by decide +kernel) (by decide) dX9_passSound_103 rfl (fun alt ha103 H locs v σ103 w103 hB hk103 ht103 hs103 hA103 => ?_)
                have hv103 := vi_voids (by decide) ha103 hA103
                subst hv103
                have hI9 := SI_kept hV9 hB.2 hk103 (by decide +kernel) hI9
                have hT9 := TA_kept hV9 hB.2 hk103 (by decide +kernel) hj hi hk hT hT9
                have hQ9 := TQ_kept hV9 hB.2 hk103 (by decide +kernel) hj hQ9
                have hV9 := hB.2
                refine lv_goto (tgt := 115) hx hb dX9_passSound_106 (by decide) ?_
                refine lv_aload_n hx hb dX9_passSound_115 rfl (lv_at hl 2 rfl) ?_
                refine gf_X9_144 F hB dX9_passSound_116 (hB.2.2.2.2.2.2.1 _ _ hi hk).1 ?_
                refine lv_if_eq (tgt := 147) hx hb dX9_passSound_119 (by decide) (fun c119 => ?_) (fun c119 => ?_)
                · refine lv_aload_n hx hb dX9_passSound_147 rfl (lv_at hl 3 rfl) ?_
                  refine lv_dup hx hb dX9_passSound_148 rfl ?_
                  refine gf_X9_388 F hB dX9_passSound_149 ((hB.2.2.2.2.2.2.2.2.2.1 _ hj).2.2 _ hT).2 ?_
                  refine lv_iload_n hx hb dX9_passSound_152 rfl (lv_at hl 4 rfl) ?_
                  refine lv_iadd hx hb dX9_passSound_153 ?_
                  refine pf_X9_388 F hB dX9_passSound_154 ((hB.2.2.2.2.2.2.2.2.2.1 _ hj).2.2 _ hT).2 (fun H locs hBn => ?_)
                  clear hB; have hB := hBn; clear hBn
                  have hI9 := si_of hB.2 (SI_done hV9 hI9 hj hi hk hT hQ9 hT9.2.1)
                  have hQ9 := tq_of hB.2 (TQ_PI (k9 := 2) (t := 13) hV9 hj hQ9 ((hB.2.2.2.2.2.2.2.2.2.1 _ hj).2.2 _ hT).2 (by decide))
                  have hV9 := hB.2
                  refine lv_iconst (v := 0) hx hb dX9_passSound_157 (by decide) ?_
                  exact cl_iret F hB hrt dX9_passSound_158 (by first | exact ⟨⟨_, rfl⟩, hI9, hQ9⟩ | exact ⟨⟨_, rfl⟩, SI_up hI9 (by omega), hQ9⟩ | fail "no road")
                · refine lv_aload_n hx hb dX9_passSound_122 rfl (lv_at hl 2 rfl) ?_
                  refine gr_X9_395 F hB dX9_passSound_123 (hB.2.2.2.2.2.2.1 _ _ hi hk).1 (hB.2.2.2.2.2.2.1 _ _ hi hk).2.1 ?_
                  refine lv_iload_n hx hb dX9_passSound_126 rfl (lv_at hl 4 rfl) ?_
                  refine cl_vi (n := 0) (NC := 0) (av := [.ref (yr Y i k), .int n]) hB (vi_crVN F.1 (m_ByteRow_drop_17 l D cy hst) ⟨va_cnB 1 F.1.2.2.2.2 (vgN (vm_0 _ (List.mem_of_getElem? (i := 11) rfl))) rfl rfl rfl (F.2.2.1.1 _ nf_124) (F.1.2.2.2.2 _ (List.mem_cons_of_mem _ (vm_0 _ (List.mem_of_getElem? (i := 23) rfl)))) ⟨by decide, by decide, by decide +kernel⟩ ⟨Nat.le_of_ble_eq_true rfl, Nat.le_of_ble_eq_true rfl⟩, F.1.2.2.2.2 _ (List.mem_cons_of_mem _ (vm_1 _ (List.mem_of_getElem? (i := 17) rfl))), F.1.2.2.2.2 _ (List.mem_cons_of_mem _ (vm_1 _ (List.mem_of_getElem? (i := 18) rfl)))⟩ rfl ⟨_, _, _, _, _, _, rfl, rfl, rfl, rfl⟩ F.2.1 F.2.2.1 hs (fun _ _ _ _ => True.intro) (fun q hq => Or.inr hq) ⟨Nat.le_refl _, Nat.le_refl _⟩) hl.1 rfl (by intro j9 a9 x9 g1 g2; exact match j9, g1, g2 with | 0, g1, g2 => by cases g1; cases g2; exact okr (en_row hB.2 hi hk) | 1, g1, g2 => by cases g1; cases g2; exact ⟨_, rfl, cl_full _⟩ | n + 2, g1, g2 => by cases g1) (fun f hf => by cases hf) (Nat.le_of_ble_eq_true rfl) (by decide +kernel) (by decide) dX9_passSound_127 rfl (fun alt ha127 H locs v σ127 w127 hB hk127 ht127 hs127 hA127 => ?_)
                  have hv127 := vi_voids (by decide) ha127 hA127
                  subst hv127
                  have hI9 := SI_kept hV9 hB.2 hk127 (by decide +kernel) hI9
                  have hT9 := TA_kept hV9 hB.2 hk127 (by decide +kernel) hj hi hk hT hT9
                  have hQ9 := TQ_kept hV9 hB.2 hk127 (by decide +kernel) hj hQ9
                  have hV9 := hB.2
                  refine lv_aload_n hx hb dX9_passSound_130 rfl (lv_at hl 3 rfl) ?_
                  refine lv_iload_n hx hb dX9_passSound_131 rfl (lv_at hl 4 rfl) ?_
                  refine lv_aload_n hx hb dX9_passSound_132 rfl (lv_at hl 2 rfl) ?_
                  refine gf_X9_147 F hB dX9_passSound_133 (hB.2.2.2.2.2.2.1 _ _ hi hk).1 ?_
                  refine lv_icmp_ge (tgt := 143) hx hb dX9_passSound_136 (by decide) (fun c136 => ?_) (fun c136 => ?_)
                  · refine lv_iconst (v := 0) hx hb dX9_passSound_143 (by decide) ?_
                    refine pf_X9_626 F hB dX9_passSound_144 ((hB.2.2.2.2.2.2.2.2.2.1 _ hj).2.2 _ hT).2 (show sgF 2 _ from ⟨by decide, by decide⟩) (fun H locs hBn => ?_)
                    clear hB; have hB := hBn; clear hBn
                    have hI9 := si_of hB.2 (SI_PI (k := 5) hV9 hI9 (t := 13) ((hB.2.2.2.2.2.2.2.2.2.1 _ hj).2.2 _ hT).2 rfl (by decide))
                    have hT9 := ta_of hB.2 (TA_PI (k9 := 5) (t := 13) hV9 hj hi hk hT hT9 ((hB.2.2.2.2.2.2.2.2.2.1 _ hj).2.2 _ hT).2 rfl)
                    have hQ9 := tq_of hB.2 (TQ_PI (k9 := 5) (t := 13) hV9 hj hQ9 ((hB.2.2.2.2.2.2.2.2.2.1 _ hj).2.2 _ hT).2 (by decide))
                    have hV9 := hB.2
                    refine lv_aload_n hx hb dX9_passSound_147 rfl (lv_at hl 3 rfl) ?_
                    refine lv_dup hx hb dX9_passSound_148 rfl ?_
                    refine gf_X9_388 F hB dX9_passSound_149 ((hB.2.2.2.2.2.2.2.2.2.1 _ hj).2.2 _ hT).2 ?_
                    refine lv_iload_n hx hb dX9_passSound_152 rfl (lv_at hl 4 rfl) ?_
                    refine lv_iadd hx hb dX9_passSound_153 ?_
                    refine pf_X9_388 F hB dX9_passSound_154 ((hB.2.2.2.2.2.2.2.2.2.1 _ hj).2.2 _ hT).2 (fun H locs hBn => ?_)
                    clear hB; have hB := hBn; clear hBn
                    have hI9 := si_of hB.2 (SI_done hV9 hI9 hj hi hk hT hQ9 hT9.2.1)
                    have hQ9 := tq_of hB.2 (TQ_PI (k9 := 2) (t := 13) hV9 hj hQ9 ((hB.2.2.2.2.2.2.2.2.2.1 _ hj).2.2 _ hT).2 (by decide))
                    have hV9 := hB.2
                    refine lv_iconst (v := 0) hx hb dX9_passSound_157 (by decide) ?_
                    exact cl_iret F hB hrt dX9_passSound_158 (by first | exact ⟨⟨_, rfl⟩, hI9, hQ9⟩ | exact ⟨⟨_, rfl⟩, SI_up hI9 (by omega), hQ9⟩ | fail "no road")
                  · refine lv_iconst (v := 1) hx hb dX9_passSound_139 (by decide) ?_
                    refine lv_goto (tgt := 144) hx hb dX9_passSound_140 (by decide) ?_
                    refine pf_X9_626 F hB dX9_passSound_144 ((hB.2.2.2.2.2.2.2.2.2.1 _ hj).2.2 _ hT).2 (show sgF 2 _ from ⟨by decide, by decide⟩) (fun H locs hBn => ?_)
                    clear hB; have hB := hBn; clear hBn
                    have hI9 := si_of hB.2 (SI_PI (k := 5) hV9 hI9 (t := 13) ((hB.2.2.2.2.2.2.2.2.2.1 _ hj).2.2 _ hT).2 rfl (by decide))
                    have hT9 := ta_of hB.2 (TA_PI (k9 := 5) (t := 13) hV9 hj hi hk hT hT9 ((hB.2.2.2.2.2.2.2.2.2.1 _ hj).2.2 _ hT).2 rfl)
                    have hQ9 := tq_of hB.2 (TQ_PI (k9 := 5) (t := 13) hV9 hj hQ9 ((hB.2.2.2.2.2.2.2.2.2.1 _ hj).2.2 _ hT).2 (by decide))
                    have hV9 := hB.2
                    refine lv_aload_n hx hb dX9_passSound_147 rfl (lv_at hl 3 rfl) ?_
                    refine lv_dup hx hb dX9_passSound_148 rfl ?_
                    refine gf_X9_388 F hB dX9_passSound_149 ((hB.2.2.2.2.2.2.2.2.2.1 _ hj).2.2 _ hT).2 ?_
                    refine lv_iload_n hx hb dX9_passSound_152 rfl (lv_at hl 4 rfl) ?_
                    refine lv_iadd hx hb dX9_passSound_153 ?_
                    refine pf_X9_388 F hB dX9_passSound_154 ((hB.2.2.2.2.2.2.2.2.2.1 _ hj).2.2 _ hT).2 (fun H locs hBn => ?_)
                    clear hB; have hB := hBn; clear hBn
                    have hI9 := si_of hB.2 (SI_done hV9 hI9 hj hi hk hT hQ9 hT9.2.1)
                    have hQ9 := tq_of hB.2 (TQ_PI (k9 := 2) (t := 13) hV9 hj hQ9 ((hB.2.2.2.2.2.2.2.2.2.1 _ hj).2.2 _ hT).2 (by decide))
                    have hV9 := hB.2
                    refine lv_iconst (v := 0) hx hb dX9_passSound_157 (by decide) ?_
                    exact cl_iret F hB hrt dX9_passSound_158 (by first | exact ⟨⟨_, rfl⟩, hI9, hQ9⟩ | exact ⟨⟨_, rfl⟩, SI_up hI9 (by omega), hQ9⟩ | fail "no road")
            · refine lv_aload_n hx hb dX9_passSound_85 rfl (lv_at hl 3 rfl) ?_
              refine lv_iconst (v := 1) hx hb dX9_passSound_86 (by decide) ?_
              refine pf_X9_623 F hB dX9_passSound_87 ((hB.2.2.2.2.2.2.2.2.2.1 _ hj).2.2 _ hT).2 ⟨by decide, by decide⟩ (fun H locs hBn => ?_)
              clear hB; have hB := hBn; clear hBn
              have hI9 := si_of hB.2 (SI_PI (k := 4) hV9 hI9 (t := 13) ((hB.2.2.2.2.2.2.2.2.2.1 _ hj).2.2 _ hT).2 rfl (by decide))
              have hT9 := ta_of hB.2 (TA_PI (k9 := 4) (t := 13) hV9 hj hi hk hT hT9 ((hB.2.2.2.2.2.2.2.2.2.1 _ hj).2.2 _ hT).2 rfl)
              have hQ9 := tq_of hB.2 (TQ_PI (k9 := 4) (t := 13) hV9 hj hQ9 ((hB.2.2.2.2.2.2.2.2.2.1 _ hj).2.2 _ hT).2 (by decide))
              have hV9 := hB.2
              refine lv_goto (tgt := 115) hx hb dX9_passSound_90 (by decide) ?_
              refine lv_aload_n hx hb dX9_passSound_115 rfl (lv_at hl 2 rfl) ?_
              refine gf_X9_144 F hB dX9_passSound_116 (hB.2.2.2.2.2.2.1 _ _ hi hk).1 ?_
              refine lv_if_eq (tgt := 147) hx hb dX9_passSound_119 (by decide) (fun c119 => ?_) (fun c119 => ?_)
              · refine lv_aload_n hx hb dX9_passSound_147 rfl (lv_at hl 3 rfl) ?_
                refine lv_dup hx hb dX9_passSound_148 rfl ?_
                refine gf_X9_388 F hB dX9_passSound_149 ((hB.2.2.2.2.2.2.2.2.2.1 _ hj).2.2 _ hT).2 ?_
                refine lv_iload_n hx hb dX9_passSound_152 rfl (lv_at hl 4 rfl) ?_
                refine lv_iadd hx hb dX9_passSound_153 ?_
                refine pf_X9_388 F hB dX9_passSound_154 ((hB.2.2.2.2.2.2.2.2.2.1 _ hj).2.2 _ hT).2 (fun H locs hBn => ?_)
                clear hB; have hB := hBn; clear hBn
                have hI9 := si_of hB.2 (SI_done hV9 hI9 hj hi hk hT hQ9 hT9.2.1)
                have hQ9 := tq_of hB.2 (TQ_PI (k9 := 2) (t := 13) hV9 hj hQ9 ((hB.2.2.2.2.2.2.2.2.2.1 _ hj).2.2 _ hT).2 (by decide))
                have hV9 := hB.2
                refine lv_iconst (v := 0) hx hb dX9_passSound_157 (by decide) ?_
                exact cl_iret F hB hrt dX9_passSound_158 (by first | exact ⟨⟨_, rfl⟩, hI9, hQ9⟩ | exact ⟨⟨_, rfl⟩, SI_up hI9 (by omega), hQ9⟩ | fail "no road")
              · refine lv_aload_n hx hb dX9_passSound_122 rfl (lv_at hl 2 rfl) ?_
                refine gr_X9_395 F hB dX9_passSound_123 (hB.2.2.2.2.2.2.1 _ _ hi hk).1 (hB.2.2.2.2.2.2.1 _ _ hi hk).2.1 ?_
                refine lv_iload_n hx hb dX9_passSound_126 rfl (lv_at hl 4 rfl) ?_
                refine cl_vi (n := 0) (NC := 0) (av := [.ref (yr Y i k), .int n]) hB (vi_crVN F.1 (m_ByteRow_drop_17 l D cy hst) ⟨va_cnB 1 F.1.2.2.2.2 (vgN (vm_0 _ (List.mem_of_getElem? (i := 11) rfl))) rfl rfl rfl (F.2.2.1.1 _ nf_124) (F.1.2.2.2.2 _ (List.mem_cons_of_mem _ (vm_0 _ (List.mem_of_getElem? (i := 23) rfl)))) ⟨by decide, by decide, by decide +kernel⟩ ⟨Nat.le_of_ble_eq_true rfl, Nat.le_of_ble_eq_true rfl⟩, F.1.2.2.2.2 _ (List.mem_cons_of_mem _ (vm_1 _ (List.mem_of_getElem? (i := 17) rfl))), F.1.2.2.2.2 _ (List.mem_cons_of_mem _ (vm_1 _ (List.mem_of_getElem? (i := 18) rfl)))⟩ rfl ⟨_, _, _, _, _, _, rfl, rfl, rfl, rfl⟩ F.2.1 F.2.2.1 hs (fun _ _ _ _ => True.intro) (fun q hq => Or.inr hq) ⟨Nat.le_refl _, Nat.le_refl _⟩) hl.1 rfl (by intro j9 a9 x9 g1 g2; exact match j9, g1, g2 with | 0, g1, g2 => by cases g1; cases g2; exact okr (en_row hB.2 hi hk) | 1, g1, g2 => by cases g1; cases g2; exact ⟨_, rfl, cl_full _⟩ | n + 2, g1, g2 => by cases g1) (fun f hf => by cases hf) (Nat.le_of_ble_eq_true rfl) (by decide +kernel) (by decide) dX9_passSound_127 rfl (fun alt ha127 H locs v σ127 w127 hB hk127 ht127 hs127 hA127 => ?_)
                have hv127 := vi_voids (by decide) ha127 hA127
                subst hv127
                have hI9 := SI_kept hV9 hB.2 hk127 (by decide +kernel) hI9
                have hT9 := TA_kept hV9 hB.2 hk127 (by decide +kernel) hj hi hk hT hT9
                have hQ9 := TQ_kept hV9 hB.2 hk127 (by decide +kernel) hj hQ9
                have hV9 := hB.2
                refine lv_aload_n hx hb dX9_passSound_130 rfl (lv_at hl 3 rfl) ?_
                refine lv_iload_n hx hb dX9_passSound_131 rfl (lv_at hl 4 rfl) ?_
                refine lv_aload_n hx hb dX9_passSound_132 rfl (lv_at hl 2 rfl) ?_
                refine gf_X9_147 F hB dX9_passSound_133 (hB.2.2.2.2.2.2.1 _ _ hi hk).1 ?_
                refine lv_icmp_ge (tgt := 143) hx hb dX9_passSound_136 (by decide) (fun c136 => ?_) (fun c136 => ?_)
                · refine lv_iconst (v := 0) hx hb dX9_passSound_143 (by decide) ?_
                  refine pf_X9_626 F hB dX9_passSound_144 ((hB.2.2.2.2.2.2.2.2.2.1 _ hj).2.2 _ hT).2 (show sgF 2 _ from ⟨by decide, by decide⟩) (fun H locs hBn => ?_)
                  clear hB; have hB := hBn; clear hBn
                  have hI9 := si_of hB.2 (SI_PI (k := 5) hV9 hI9 (t := 13) ((hB.2.2.2.2.2.2.2.2.2.1 _ hj).2.2 _ hT).2 rfl (by decide))
                  have hT9 := ta_of hB.2 (TA_PI (k9 := 5) (t := 13) hV9 hj hi hk hT hT9 ((hB.2.2.2.2.2.2.2.2.2.1 _ hj).2.2 _ hT).2 rfl)
                  have hQ9 := tq_of hB.2 (TQ_PI (k9 := 5) (t := 13) hV9 hj hQ9 ((hB.2.2.2.2.2.2.2.2.2.1 _ hj).2.2 _ hT).2 (by decide))
                  have hV9 := hB.2
                  refine lv_aload_n hx hb dX9_passSound_147 rfl (lv_at hl 3 rfl) ?_
                  refine lv_dup hx hb dX9_passSound_148 rfl ?_
                  refine gf_X9_388 F hB dX9_passSound_149 ((hB.2.2.2.2.2.2.2.2.2.1 _ hj).2.2 _ hT).2 ?_
                  refine lv_iload_n hx hb dX9_passSound_152 rfl (lv_at hl 4 rfl) ?_
                  refine lv_iadd hx hb dX9_passSound_153 ?_
                  refine pf_X9_388 F hB dX9_passSound_154 ((hB.2.2.2.2.2.2.2.2.2.1 _ hj).2.2 _ hT).2 (fun H locs hBn => ?_)
                  clear hB; have hB := hBn; clear hBn
                  have hI9 := si_of hB.2 (SI_done hV9 hI9 hj hi hk hT hQ9 hT9.2.1)
                  have hQ9 := tq_of hB.2 (TQ_PI (k9 := 2) (t := 13) hV9 hj hQ9 ((hB.2.2.2.2.2.2.2.2.2.1 _ hj).2.2 _ hT).2 (by decide))
                  have hV9 := hB.2
                  refine lv_iconst (v := 0) hx hb dX9_passSound_157 (by decide) ?_
                  exact cl_iret F hB hrt dX9_passSound_158 (by first | exact ⟨⟨_, rfl⟩, hI9, hQ9⟩ | exact ⟨⟨_, rfl⟩, SI_up hI9 (by omega), hQ9⟩ | fail "no road")
                · refine lv_iconst (v := 1) hx hb dX9_passSound_139 (by decide) ?_
                  refine lv_goto (tgt := 144) hx hb dX9_passSound_140 (by decide) ?_
                  refine pf_X9_626 F hB dX9_passSound_144 ((hB.2.2.2.2.2.2.2.2.2.1 _ hj).2.2 _ hT).2 (show sgF 2 _ from ⟨by decide, by decide⟩) (fun H locs hBn => ?_)
                  clear hB; have hB := hBn; clear hBn
                  have hI9 := si_of hB.2 (SI_PI (k := 5) hV9 hI9 (t := 13) ((hB.2.2.2.2.2.2.2.2.2.1 _ hj).2.2 _ hT).2 rfl (by decide))
                  have hT9 := ta_of hB.2 (TA_PI (k9 := 5) (t := 13) hV9 hj hi hk hT hT9 ((hB.2.2.2.2.2.2.2.2.2.1 _ hj).2.2 _ hT).2 rfl)
                  have hQ9 := tq_of hB.2 (TQ_PI (k9 := 5) (t := 13) hV9 hj hQ9 ((hB.2.2.2.2.2.2.2.2.2.1 _ hj).2.2 _ hT).2 (by decide))
                  have hV9 := hB.2
                  refine lv_aload_n hx hb dX9_passSound_147 rfl (lv_at hl 3 rfl) ?_
                  refine lv_dup hx hb dX9_passSound_148 rfl ?_
                  refine gf_X9_388 F hB dX9_passSound_149 ((hB.2.2.2.2.2.2.2.2.2.1 _ hj).2.2 _ hT).2 ?_
                  refine lv_iload_n hx hb dX9_passSound_152 rfl (lv_at hl 4 rfl) ?_
                  refine lv_iadd hx hb dX9_passSound_153 ?_
                  refine pf_X9_388 F hB dX9_passSound_154 ((hB.2.2.2.2.2.2.2.2.2.1 _ hj).2.2 _ hT).2 (fun H locs hBn => ?_)
                  clear hB; have hB := hBn; clear hBn
                  have hI9 := si_of hB.2 (SI_done hV9 hI9 hj hi hk hT hQ9 hT9.2.1)
                  have hQ9 := tq_of hB.2 (TQ_PI (k9 := 2) (t := 13) hV9 hj hQ9 ((hB.2.2.2.2.2.2.2.2.2.1 _ hj).2.2 _ hT).2 (by decide))
                  have hV9 := hB.2
                  refine lv_iconst (v := 0) hx hb dX9_passSound_157 (by decide) ?_
                  exact cl_iret F hB hrt dX9_passSound_158 (by first | exact ⟨⟨_, rfl⟩, hI9, hQ9⟩ | exact ⟨⟨_, rfl⟩, SI_up hI9 (by omega), hQ9⟩ | fail "no road")
          · refine lv_iconst (v := 1) hx hb dX9_passSound_43 (by decide) ?_
            refine lv_goto (tgt := 48) hx hb dX9_passSound_44 (by decide) ?_
            refine lv_istore (lv' := [(5, .int _), (0, .ref _), (1, .ref _), (2, .ref _), (3, .int _), (4, .int _)]) hx hb dX9_passSound_48 hl (by decide) rfl (fun ls hl => ?_)
            refine lv_iload hx hb dX9_passSound_50 (lv_at hl 0 rfl) ?_
            refine lv_if_eq (tgt := 78) hx hb dX9_passSound_52 (by decide) (fun c52 => (by first | exact absurd c52 (by decide) | exact (c52 (by decide)).elim)) (fun c52 => ?_)
            refine lv_aload_n hx hb dX9_passSound_55 rfl (lv_at hl 1 rfl) ?_
            obtain ⟨sn, hsn, tsn⟩ := sn_of hB.2
            refine gr_X9_59 F hB dX9_passSound_56 hB.2.2.1.1 hsn ?_
            refine lv_dup hx hb dX9_passSound_59 rfl ?_
            refine gf_X9_481 F hB dX9_passSound_60 tsn ?_
            refine lv_iconst (v := 1) hx hb dX9_passSound_63 (by decide) ?_
            refine lv_iadd hx hb dX9_passSound_64 ?_
            refine pf_X9_481 F hB dX9_passSound_65 tsn (fun H locs hBn => ?_)
            clear hB; have hB := hBn; clear hBn
            have hI9 := si_of hB.2 (SI_PI (k := 1) hV9 hI9 (t := 12) tsn rfl (by decide))
            have hT9 := ta_of hB.2 (TA_PI (k9 := 1) (t := 12) hV9 hj hi hk hT hT9 tsn rfl)
            have hQ9 := tq_of hB.2 (TQ_PI (k9 := 1) (t := 12) hV9 hj hQ9 tsn (by decide))
            have hV9 := hB.2
            refine lv_aload_n hx hb dX9_passSound_68 rfl (lv_at hl 2 rfl) ?_
            refine lv_dup hx hb dX9_passSound_69 rfl ?_
            refine gf_X9_629 F hB dX9_passSound_70 (hB.2.2.2.2.2.2.1 _ _ hi hk).1 ?_
            refine lv_iload_n hx hb dX9_passSound_73 rfl (lv_at hl 4 rfl) ?_
            refine lv_iadd hx hb dX9_passSound_74 ?_
            refine pf_X9_629 F hB dX9_passSound_75 (hB.2.2.2.2.2.2.1 _ _ hi hk).1 (fun H locs hBn => ?_)
            clear hB; have hB := hBn; clear hBn
            have hS9 := SI_sent hV9 hI9 hi hk hT9.2.1 h8 hB9
            have hG9 := hS9.2
            have hI9 := si_of hB.2 hS9.1
            have hT9 := ta_of hB.2 (TA_PI (k9 := 6) (t := 8) hV9 hj hi hk hT hT9 (hB.2.2.2.2.2.2.1 _ _ hi hk).1 rfl)
            have hQ9 := tq_of hB.2 (TQ_PI (k9 := 6) (t := 8) hV9 hj hQ9 (hB.2.2.2.2.2.2.1 _ _ hi hk).1 (by decide))
            have hV9 := hB.2
            refine lv_iload hx hb dX9_passSound_78 (lv_at hl 5 rfl) ?_
            refine lv_bipush (v := 32) hx hb dX9_passSound_80 (by decide) ?_
            refine lv_icmp_eq (tgt := 93) hx hb dX9_passSound_82 (by decide) (fun c82 => ?_) (fun c82 => ?_)
            · refine lv_aload_n hx hb dX9_passSound_93 rfl (lv_at hl 2 rfl) ?_
              refine gf_X9_144 F hB dX9_passSound_94 (hB.2.2.2.2.2.2.1 _ _ hi hk).1 ?_
              refine lv_if_eq (tgt := 109) hx hb dX9_passSound_97 (by decide) (fun c97 => ?_) (fun c97 => ?_)
              · have hw9 := gp_of (i := i) (k := k) (n := n.toInt) (B := B + 8) hB.2 (by first | exact hG9 ((c_nk (by decide)).symm.trans c97) | exact absurd c82 c26)
                have hI9 := si_of (B := B + 8) hB.2 (by first | exact hI9 | exact absurd c82 c26)
                refine lv_aload_n hx hb dX9_passSound_109 rfl (lv_at hl 2 rfl) ?_
                refine lv_aload_n hx hb dX9_passSound_110 rfl (lv_at hl 3 rfl) ?_
                refine lv_iload_n hx hb dX9_passSound_111 rfl (lv_at hl 4 rfl) ?_
                refine cl_callN (ci := 7) F hB (k_tkf l D cy hB.2 hj hi hk hT _ hw9.2.2 (by have q := hw9.1; have q2 := hw9.2.1; omega) _) ⟨va_cnB 2 F.1.2.2.2.2 (vgN (vm_1 _ (List.mem_of_getElem? (i := 12) rfl))) rfl rfl rfl (F.2.2.1.1 _ nf_138) (F.1.2.2.2.2 _ (List.mem_cons_of_mem _ (vm_1 _ (List.mem_of_getElem? (i := 4) rfl)))) ⟨by decide, by decide, by decide +kernel⟩ ⟨Nat.le_of_ble_eq_true rfl, Nat.le_of_ble_eq_true rfl⟩, F.1.2.2.2.2 _ (List.mem_cons_of_mem _ (vm_9 _ (List.mem_of_getElem? (i := 11) rfl))), F.1.2.2.2.2 _ (List.mem_cons_of_mem _ (vm_9 _ (List.mem_of_getElem? (i := 12) rfl)))⟩ rfl rfl (by decide) rfl hl.1 rfl (Nat.le_of_ble_eq_true rfl) dX9_passSound_112 ⟨Nat.le_of_ble_eq_true rfl, Nat.le_of_ble_eq_true rfl⟩ (hB.2.2.2.2.2.2.1 _ _ hi hk).1 (fun H locs v σ112 hB hP => ?_)
                obtain ⟨rfl, hR112, hx112⟩ := hP
                have hI9 := SI_ad hV9 hI9 hi hk hR112 (fun _ => by have q := hw9.1; omega)
                have hT9 := TA_ad hV9 hj hi hk hT (hV9.2.2.2.2.2.1 _ _ hi hk).2.2 hR112 hT9
                have hQ9 := TQ_ad hV9 hj (hV9.2.2.2.2.2.1 _ _ hi hk).2.2 hR112 hQ9
                have hV9 := hB.2
                refine lv_aload_n hx hb dX9_passSound_115 rfl (lv_at hl 2 rfl) ?_
                refine gf_X9_144 F hB dX9_passSound_116 (hB.2.2.2.2.2.2.1 _ _ hi hk).1 ?_
                refine lv_if_eq (tgt := 147) hx hb dX9_passSound_119 (by decide) (fun c119 => ?_) (fun c119 => ?_)
                · refine lv_aload_n hx hb dX9_passSound_147 rfl (lv_at hl 3 rfl) ?_
                  refine lv_dup hx hb dX9_passSound_148 rfl ?_
                  refine gf_X9_388 F hB dX9_passSound_149 ((hB.2.2.2.2.2.2.2.2.2.1 _ hj).2.2 _ hT).2 ?_
                  refine lv_iload_n hx hb dX9_passSound_152 rfl (lv_at hl 4 rfl) ?_
                  refine lv_iadd hx hb dX9_passSound_153 ?_
                  refine pf_X9_388 F hB dX9_passSound_154 ((hB.2.2.2.2.2.2.2.2.2.1 _ hj).2.2 _ hT).2 (fun H locs hBn => ?_)
                  clear hB; have hB := hBn; clear hBn
                  have hI9 := si_of hB.2 (SI_done hV9 hI9 hj hi hk hT hQ9 hT9.2.1)
                  have hQ9 := tq_of hB.2 (TQ_PI (k9 := 2) (t := 13) hV9 hj hQ9 ((hB.2.2.2.2.2.2.2.2.2.1 _ hj).2.2 _ hT).2 (by decide))
                  have hV9 := hB.2
                  refine lv_iconst (v := 0) hx hb dX9_passSound_157 (by decide) ?_
                  exact cl_iret F hB hrt dX9_passSound_158 (by first | exact ⟨⟨_, rfl⟩, hI9, hQ9⟩ | exact ⟨⟨_, rfl⟩, SI_up hI9 (by omega), hQ9⟩ | fail "no road")
                · refine lv_aload_n hx hb dX9_passSound_122 rfl (lv_at hl 2 rfl) ?_
                  refine gr_X9_395 F hB dX9_passSound_123 (hB.2.2.2.2.2.2.1 _ _ hi hk).1 (hB.2.2.2.2.2.2.1 _ _ hi hk).2.1 ?_
                  refine lv_iload_n hx hb dX9_passSound_126 rfl (lv_at hl 4 rfl) ?_
                  refine cl_vi (n := 0) (NC := 0) (av := [.ref (yr Y i k), .int n]) hB (vi_crVN F.1 (m_ByteRow_drop_17 l D cy hst) ⟨va_cnB 1 F.1.2.2.2.2 (vgN (vm_0 _ (List.mem_of_getElem? (i := 11) rfl))) rfl rfl rfl (F.2.2.1.1 _ nf_124) (F.1.2.2.2.2 _ (List.mem_cons_of_mem _ (vm_0 _ (List.mem_of_getElem? (i := 23) rfl)))) ⟨by decide, by decide, by decide +kernel⟩ ⟨Nat.le_of_ble_eq_true rfl, Nat.le_of_ble_eq_true rfl⟩, F.1.2.2.2.2 _ (List.mem_cons_of_mem _ (vm_1 _ (List.mem_of_getElem? (i := 17) rfl))), F.1.2.2.2.2 _ (List.mem_cons_of_mem _ (vm_1 _ (List.mem_of_getElem? (i := 18) rfl)))⟩ rfl ⟨_, _, _, _, _, _, rfl, rfl, rfl, rfl⟩ F.2.1 F.2.2.1 hs (fun _ _ _ _ => True.intro) (fun q hq => Or.inr hq) ⟨Nat.le_refl _, Nat.le_refl _⟩) hl.1 rfl (by intro j9 a9 x9 g1 g2; exact match j9, g1, g2 with | 0, g1, g2 => by cases g1; cases g2; exact okr (en_row hB.2 hi hk) | 1, g1, g2 => by cases g1; cases g2; exact ⟨_, rfl, cl_full _⟩ | n + 2, g1, g2 => by cases g1) (fun f hf => by cases hf) (Nat.le_of_ble_eq_true rfl) (by decide +kernel) (by decide) dX9_passSound_127 rfl (fun alt ha127 H locs v σ127 w127 hB hk127 ht127 hs127 hA127 => ?_)
                  have hv127 := vi_voids (by decide) ha127 hA127
                  subst hv127
                  have hI9 := SI_kept hV9 hB.2 hk127 (by decide +kernel) hI9
                  have hT9 := TA_kept hV9 hB.2 hk127 (by decide +kernel) hj hi hk hT hT9
                  have hQ9 := TQ_kept hV9 hB.2 hk127 (by decide +kernel) hj hQ9
                  have hV9 := hB.2
                  refine lv_aload_n hx hb dX9_passSound_130 rfl (lv_at hl 3 rfl) ?_
                  refine lv_iload_n hx hb dX9_passSound_131 rfl (lv_at hl 4 rfl) ?_
                  refine lv_aload_n hx hb dX9_passSound_132 rfl (lv_at hl 2 rfl) ?_
                  refine gf_X9_147 F hB dX9_passSound_133 (hB.2.2.2.2.2.2.1 _ _ hi hk).1 ?_
                  refine lv_icmp_ge (tgt := 143) hx hb dX9_passSound_136 (by decide) (fun c136 => ?_) (fun c136 => ?_)
                  · refine lv_iconst (v := 0) hx hb dX9_passSound_143 (by decide) ?_
                    refine pf_X9_626 F hB dX9_passSound_144 ((hB.2.2.2.2.2.2.2.2.2.1 _ hj).2.2 _ hT).2 (show sgF 2 _ from ⟨by decide, by decide⟩) (fun H locs hBn => ?_)
                    clear hB; have hB := hBn; clear hBn
                    have hI9 := si_of hB.2 (SI_PI (k := 5) hV9 hI9 (t := 13) ((hB.2.2.2.2.2.2.2.2.2.1 _ hj).2.2 _ hT).2 rfl (by decide))
                    have hT9 := ta_of hB.2 (TA_PI (k9 := 5) (t := 13) hV9 hj hi hk hT hT9 ((hB.2.2.2.2.2.2.2.2.2.1 _ hj).2.2 _ hT).2 rfl)
                    have hQ9 := tq_of hB.2 (TQ_PI (k9 := 5) (t := 13) hV9 hj hQ9 ((hB.2.2.2.2.2.2.2.2.2.1 _ hj).2.2 _ hT).2 (by decide))
                    have hV9 := hB.2
                    refine lv_aload_n hx hb dX9_passSound_147 rfl (lv_at hl 3 rfl) ?_
                    refine lv_dup hx hb dX9_passSound_148 rfl ?_
                    refine gf_X9_388 F hB dX9_passSound_149 ((hB.2.2.2.2.2.2.2.2.2.1 _ hj).2.2 _ hT).2 ?_
                    refine lv_iload_n hx hb dX9_passSound_152 rfl (lv_at hl 4 rfl) ?_
                    refine lv_iadd hx hb dX9_passSound_153 ?_
                    refine pf_X9_388 F hB dX9_passSound_154 ((hB.2.2.2.2.2.2.2.2.2.1 _ hj).2.2 _ hT).2 (fun H locs hBn => ?_)
                    clear hB; have hB := hBn; clear hBn
                    have hI9 := si_of hB.2 (SI_done hV9 hI9 hj hi hk hT hQ9 hT9.2.1)
                    have hQ9 := tq_of hB.2 (TQ_PI (k9 := 2) (t := 13) hV9 hj hQ9 ((hB.2.2.2.2.2.2.2.2.2.1 _ hj).2.2 _ hT).2 (by decide))
                    have hV9 := hB.2
                    refine lv_iconst (v := 0) hx hb dX9_passSound_157 (by decide) ?_
                    exact cl_iret F hB hrt dX9_passSound_158 (by first | exact ⟨⟨_, rfl⟩, hI9, hQ9⟩ | exact ⟨⟨_, rfl⟩, SI_up hI9 (by omega), hQ9⟩ | fail "no road")
                  · refine lv_iconst (v := 1) hx hb dX9_passSound_139 (by decide) ?_
                    refine lv_goto (tgt := 144) hx hb dX9_passSound_140 (by decide) ?_
                    refine pf_X9_626 F hB dX9_passSound_144 ((hB.2.2.2.2.2.2.2.2.2.1 _ hj).2.2 _ hT).2 (show sgF 2 _ from ⟨by decide, by decide⟩) (fun H locs hBn => ?_)
                    clear hB; have hB := hBn; clear hBn
                    have hI9 := si_of hB.2 (SI_PI (k := 5) hV9 hI9 (t := 13) ((hB.2.2.2.2.2.2.2.2.2.1 _ hj).2.2 _ hT).2 rfl (by decide))
                    have hT9 := ta_of hB.2 (TA_PI (k9 := 5) (t := 13) hV9 hj hi hk hT hT9 ((hB.2.2.2.2.2.2.2.2.2.1 _ hj).2.2 _ hT).2 rfl)
                    have hQ9 := tq_of hB.2 (TQ_PI (k9 := 5) (t := 13) hV9 hj hQ9 ((hB.2.2.2.2.2.2.2.2.2.1 _ hj).2.2 _ hT).2 (by decide))
                    have hV9 := hB.2
                    refine lv_aload_n hx hb dX9_passSound_147 rfl (lv_at hl 3 rfl) ?_
                    refine lv_dup hx hb dX9_passSound_148 rfl ?_
                    refine gf_X9_388 F hB dX9_passSound_149 ((hB.2.2.2.2.2.2.2.2.2.1 _ hj).2.2 _ hT).2 ?_
                    refine lv_iload_n hx hb dX9_passSound_152 rfl (lv_at hl 4 rfl) ?_
                    refine lv_iadd hx hb dX9_passSound_153 ?_
                    refine pf_X9_388 F hB dX9_passSound_154 ((hB.2.2.2.2.2.2.2.2.2.1 _ hj).2.2 _ hT).2 (fun H locs hBn => ?_)
                    clear hB; have hB := hBn; clear hBn
                    have hI9 := si_of hB.2 (SI_done hV9 hI9 hj hi hk hT hQ9 hT9.2.1)
                    have hQ9 := tq_of hB.2 (TQ_PI (k9 := 2) (t := 13) hV9 hj hQ9 ((hB.2.2.2.2.2.2.2.2.2.1 _ hj).2.2 _ hT).2 (by decide))
                    have hV9 := hB.2
                    refine lv_iconst (v := 0) hx hb dX9_passSound_157 (by decide) ?_
                    exact cl_iret F hB hrt dX9_passSound_158 (by first | exact ⟨⟨_, rfl⟩, hI9, hQ9⟩ | exact ⟨⟨_, rfl⟩, SI_up hI9 (by omega), hQ9⟩ | fail "no road")
              · refine lv_aload_n hx hb dX9_passSound_100 rfl (lv_at hl 1 rfl) ?_
                refine lv_aload_n hx hb dX9_passSound_101 rfl (lv_at hl 2 rfl) ?_
                refine lv_iload_n hx hb dX9_passSound_102 rfl (lv_at hl 4 rfl) ?_
                refine cl_vi (n := 0) (NC := 0) (av := [.ref (yX Y), .ref (ye Y i k), .int n]) hB (vi_crV F.1 (m_Hubcascade_receive_0 l D cy hst) (cwV 2 F.1.2.2.2.2 (vgV (vm_9 _ (List.mem_of_getElem? (i := 8) rfl)) (vm_9 _ (List.mem_of_getElem? (i := 9) rfl)) (vm_9 _ (List.mem_of_getElem? (i := 10) rfl)) (vm_4 _ (List.mem_of_getElem? (i := 20) rfl)) (vm_9 _ (List.mem_of_getElem? (i := 7) rfl))) rfl rfl rfl ⟨rfl, by decide, by decide, by decide +kernel⟩ ⟨Nat.le_of_ble_eq_true rfl, Nat.le_of_ble_eq_true rfl⟩) rfl ⟨_, _, _, _, _, _, rfl, rfl, rfl, rfl⟩ F.2.1 F.2.2.1 hs (fun _ _ _ _ => True.intro) (fun q hq => Or.inr hq) ⟨Nat.le_refl _, Nat.le_refl _⟩) hl.1 rfl (by intro j9 a9 x9 g1 g2; exact match j9, g1, g2 with | 0, g1, g2 => by cases g1; cases g2; exact okr (cl_kd (kd := 0) hB.2.1 hB.2.2.1.1 (by decide) (by decide +kernel)) | 1, g1, g2 => by cases g1; cases g2; exact okr (cl_kd (kd := 5) hB.2.1 (hB.2.2.2.2.2.2.1 _ _ hi hk).1 (by decide) (by decide +kernel)) | 2, g1, g2 => by cases g1; cases g2; exact ⟨_, rfl, (cl_full _).1, h8⟩ | n + 3, g1, g2 => by cases g1) (fun f hf => by cases hf) (Nat.le_of_ble_eq_true rfl) (by decide +kernel) (by decide) dX9_passSound_103 rfl (fun alt ha103 H locs v σ103 w103 hB hk103 ht103 hs103 hA103 => ?_)
                have hv103 := vi_voids (by decide) ha103 hA103
                subst hv103
                have hI9 := SI_kept hV9 hB.2 hk103 (by decide +kernel) hI9
                have hT9 := TA_kept hV9 hB.2 hk103 (by decide +kernel) hj hi hk hT hT9
                have hQ9 := TQ_kept hV9 hB.2 hk103 (by decide +kernel) hj hQ9
                have hV9 := hB.2
                refine lv_goto (tgt := 115) hx hb dX9_passSound_106 (by decide) ?_
                refine lv_aload_n hx hb dX9_passSound_115 rfl (lv_at hl 2 rfl) ?_
                refine gf_X9_144 F hB dX9_passSound_116 (hB.2.2.2.2.2.2.1 _ _ hi hk).1 ?_
                refine lv_if_eq (tgt := 147) hx hb dX9_passSound_119 (by decide) (fun c119 => ?_) (fun c119 => ?_)
                · refine lv_aload_n hx hb dX9_passSound_147 rfl (lv_at hl 3 rfl) ?_
                  refine lv_dup hx hb dX9_passSound_148 rfl ?_
                  refine gf_X9_388 F hB dX9_passSound_149 ((hB.2.2.2.2.2.2.2.2.2.1 _ hj).2.2 _ hT).2 ?_
                  refine lv_iload_n hx hb dX9_passSound_152 rfl (lv_at hl 4 rfl) ?_
                  refine lv_iadd hx hb dX9_passSound_153 ?_
                  refine pf_X9_388 F hB dX9_passSound_154 ((hB.2.2.2.2.2.2.2.2.2.1 _ hj).2.2 _ hT).2 (fun H locs hBn => ?_)
                  clear hB; have hB := hBn; clear hBn
                  have hI9 := si_of hB.2 (SI_done hV9 hI9 hj hi hk hT hQ9 hT9.2.1)
                  have hQ9 := tq_of hB.2 (TQ_PI (k9 := 2) (t := 13) hV9 hj hQ9 ((hB.2.2.2.2.2.2.2.2.2.1 _ hj).2.2 _ hT).2 (by decide))
                  have hV9 := hB.2
                  refine lv_iconst (v := 0) hx hb dX9_passSound_157 (by decide) ?_
                  exact cl_iret F hB hrt dX9_passSound_158 (by first | exact ⟨⟨_, rfl⟩, hI9, hQ9⟩ | exact ⟨⟨_, rfl⟩, SI_up hI9 (by omega), hQ9⟩ | fail "no road")
                · refine lv_aload_n hx hb dX9_passSound_122 rfl (lv_at hl 2 rfl) ?_
                  refine gr_X9_395 F hB dX9_passSound_123 (hB.2.2.2.2.2.2.1 _ _ hi hk).1 (hB.2.2.2.2.2.2.1 _ _ hi hk).2.1 ?_
                  refine lv_iload_n hx hb dX9_passSound_126 rfl (lv_at hl 4 rfl) ?_
                  refine cl_vi (n := 0) (NC := 0) (av := [.ref (yr Y i k), .int n]) hB (vi_crVN F.1 (m_ByteRow_drop_17 l D cy hst) ⟨va_cnB 1 F.1.2.2.2.2 (vgN (vm_0 _ (List.mem_of_getElem? (i := 11) rfl))) rfl rfl rfl (F.2.2.1.1 _ nf_124) (F.1.2.2.2.2 _ (List.mem_cons_of_mem _ (vm_0 _ (List.mem_of_getElem? (i := 23) rfl)))) ⟨by decide, by decide, by decide +kernel⟩ ⟨Nat.le_of_ble_eq_true rfl, Nat.le_of_ble_eq_true rfl⟩, F.1.2.2.2.2 _ (List.mem_cons_of_mem _ (vm_1 _ (List.mem_of_getElem? (i := 17) rfl))), F.1.2.2.2.2 _ (List.mem_cons_of_mem _ (vm_1 _ (List.mem_of_getElem? (i := 18) rfl)))⟩ rfl ⟨_, _, _, _, _, _, rfl, rfl, rfl, rfl⟩ F.2.1 F.2.2.1 hs (fun _ _ _ _ => True.intro) (fun q hq => Or.inr hq) ⟨Nat.le_refl _, Nat.le_refl _⟩) hl.1 rfl (by intro j9 a9 x9 g1 g2; exact match j9, g1, g2 with | 0, g1, g2 => by cases g1; cases g2; exact okr (en_row hB.2 hi hk) | 1, g1, g2 => by cases g1; cases g2; exact ⟨_, rfl, cl_full _⟩ | n + 2, g1, g2 => by cases g1) (fun f hf => by cases hf) (Nat.le_of_ble_eq_true rfl) (by decide +kernel) (by decide) dX9_passSound_127 rfl (fun alt ha127 H locs v σ127 w127 hB hk127 ht127 hs127 hA127 => ?_)
                  have hv127 := vi_voids (by decide) ha127 hA127
                  subst hv127
                  have hI9 := SI_kept hV9 hB.2 hk127 (by decide +kernel) hI9
                  have hT9 := TA_kept hV9 hB.2 hk127 (by decide +kernel) hj hi hk hT hT9
                  have hQ9 := TQ_kept hV9 hB.2 hk127 (by decide +kernel) hj hQ9
                  have hV9 := hB.2
                  refine lv_aload_n hx hb dX9_passSound_130 rfl (lv_at hl 3 rfl) ?_
                  refine lv_iload_n hx hb dX9_passSound_131 rfl (lv_at hl 4 rfl) ?_
                  refine lv_aload_n hx hb dX9_passSound_132 rfl (lv_at hl 2 rfl) ?_
                  refine gf_X9_147 F hB dX9_passSound_133 (hB.2.2.2.2.2.2.1 _ _ hi hk).1 ?_
                  refine lv_icmp_ge (tgt := 143) hx hb dX9_passSound_136 (by decide) (fun c136 => ?_) (fun c136 => ?_)
                  · refine lv_iconst (v := 0) hx hb dX9_passSound_143 (by decide) ?_
                    refine pf_X9_626 F hB dX9_passSound_144 ((hB.2.2.2.2.2.2.2.2.2.1 _ hj).2.2 _ hT).2 (show sgF 2 _ from ⟨by decide, by decide⟩) (fun H locs hBn => ?_)
                    clear hB; have hB := hBn; clear hBn
                    have hI9 := si_of hB.2 (SI_PI (k := 5) hV9 hI9 (t := 13) ((hB.2.2.2.2.2.2.2.2.2.1 _ hj).2.2 _ hT).2 rfl (by decide))
                    have hT9 := ta_of hB.2 (TA_PI (k9 := 5) (t := 13) hV9 hj hi hk hT hT9 ((hB.2.2.2.2.2.2.2.2.2.1 _ hj).2.2 _ hT).2 rfl)
                    have hQ9 := tq_of hB.2 (TQ_PI (k9 := 5) (t := 13) hV9 hj hQ9 ((hB.2.2.2.2.2.2.2.2.2.1 _ hj).2.2 _ hT).2 (by decide))
                    have hV9 := hB.2
                    refine lv_aload_n hx hb dX9_passSound_147 rfl (lv_at hl 3 rfl) ?_
                    refine lv_dup hx hb dX9_passSound_148 rfl ?_
                    refine gf_X9_388 F hB dX9_passSound_149 ((hB.2.2.2.2.2.2.2.2.2.1 _ hj).2.2 _ hT).2 ?_
                    refine lv_iload_n hx hb dX9_passSound_152 rfl (lv_at hl 4 rfl) ?_
                    refine lv_iadd hx hb dX9_passSound_153 ?_
                    refine pf_X9_388 F hB dX9_passSound_154 ((hB.2.2.2.2.2.2.2.2.2.1 _ hj).2.2 _ hT).2 (fun H locs hBn => ?_)
                    clear hB; have hB := hBn; clear hBn
                    have hI9 := si_of hB.2 (SI_done hV9 hI9 hj hi hk hT hQ9 hT9.2.1)
                    have hQ9 := tq_of hB.2 (TQ_PI (k9 := 2) (t := 13) hV9 hj hQ9 ((hB.2.2.2.2.2.2.2.2.2.1 _ hj).2.2 _ hT).2 (by decide))
                    have hV9 := hB.2
                    refine lv_iconst (v := 0) hx hb dX9_passSound_157 (by decide) ?_
                    exact cl_iret F hB hrt dX9_passSound_158 (by first | exact ⟨⟨_, rfl⟩, hI9, hQ9⟩ | exact ⟨⟨_, rfl⟩, SI_up hI9 (by omega), hQ9⟩ | fail "no road")
                  · refine lv_iconst (v := 1) hx hb dX9_passSound_139 (by decide) ?_
                    refine lv_goto (tgt := 144) hx hb dX9_passSound_140 (by decide) ?_
                    refine pf_X9_626 F hB dX9_passSound_144 ((hB.2.2.2.2.2.2.2.2.2.1 _ hj).2.2 _ hT).2 (show sgF 2 _ from ⟨by decide, by decide⟩) (fun H locs hBn => ?_)
                    clear hB; have hB := hBn; clear hBn
                    have hI9 := si_of hB.2 (SI_PI (k := 5) hV9 hI9 (t := 13) ((hB.2.2.2.2.2.2.2.2.2.1 _ hj).2.2 _ hT).2 rfl (by decide))
                    have hT9 := ta_of hB.2 (TA_PI (k9 := 5) (t := 13) hV9 hj hi hk hT hT9 ((hB.2.2.2.2.2.2.2.2.2.1 _ hj).2.2 _ hT).2 rfl)
                    have hQ9 := tq_of hB.2 (TQ_PI (k9 := 5) (t := 13) hV9 hj hQ9 ((hB.2.2.2.2.2.2.2.2.2.1 _ hj).2.2 _ hT).2 (by decide))
                    have hV9 := hB.2
                    refine lv_aload_n hx hb dX9_passSound_147 rfl (lv_at hl 3 rfl) ?_
                    refine lv_dup hx hb dX9_passSound_148 rfl ?_
                    refine gf_X9_388 F hB dX9_passSound_149 ((hB.2.2.2.2.2.2.2.2.2.1 _ hj).2.2 _ hT).2 ?_
                    refine lv_iload_n hx hb dX9_passSound_152 rfl (lv_at hl 4 rfl) ?_
                    refine lv_iadd hx hb dX9_passSound_153 ?_
                    refine pf_X9_388 F hB dX9_passSound_154 ((hB.2.2.2.2.2.2.2.2.2.1 _ hj).2.2 _ hT).2 (fun H locs hBn => ?_)
                    clear hB; have hB := hBn; clear hBn
                    have hI9 := si_of hB.2 (SI_done hV9 hI9 hj hi hk hT hQ9 hT9.2.1)
                    have hQ9 := tq_of hB.2 (TQ_PI (k9 := 2) (t := 13) hV9 hj hQ9 ((hB.2.2.2.2.2.2.2.2.2.1 _ hj).2.2 _ hT).2 (by decide))
                    have hV9 := hB.2
                    refine lv_iconst (v := 0) hx hb dX9_passSound_157 (by decide) ?_
                    exact cl_iret F hB hrt dX9_passSound_158 (by first | exact ⟨⟨_, rfl⟩, hI9, hQ9⟩ | exact ⟨⟨_, rfl⟩, SI_up hI9 (by omega), hQ9⟩ | fail "no road")
            · refine lv_aload_n hx hb dX9_passSound_85 rfl (lv_at hl 3 rfl) ?_
              refine lv_iconst (v := 1) hx hb dX9_passSound_86 (by decide) ?_
              refine pf_X9_623 F hB dX9_passSound_87 ((hB.2.2.2.2.2.2.2.2.2.1 _ hj).2.2 _ hT).2 ⟨by decide, by decide⟩ (fun H locs hBn => ?_)
              clear hB; have hB := hBn; clear hBn
              have hI9 := si_of hB.2 (SI_PI (k := 4) hV9 hI9 (t := 13) ((hB.2.2.2.2.2.2.2.2.2.1 _ hj).2.2 _ hT).2 rfl (by decide))
              have hT9 := ta_of hB.2 (TA_PI (k9 := 4) (t := 13) hV9 hj hi hk hT hT9 ((hB.2.2.2.2.2.2.2.2.2.1 _ hj).2.2 _ hT).2 rfl)
              have hQ9 := tq_of hB.2 (TQ_PI (k9 := 4) (t := 13) hV9 hj hQ9 ((hB.2.2.2.2.2.2.2.2.2.1 _ hj).2.2 _ hT).2 (by decide))
              have hV9 := hB.2
              refine lv_goto (tgt := 115) hx hb dX9_passSound_90 (by decide) ?_
              refine lv_aload_n hx hb dX9_passSound_115 rfl (lv_at hl 2 rfl) ?_
              refine gf_X9_144 F hB dX9_passSound_116 (hB.2.2.2.2.2.2.1 _ _ hi hk).1 ?_
              refine lv_if_eq (tgt := 147) hx hb dX9_passSound_119 (by decide) (fun c119 => ?_) (fun c119 => ?_)
              · refine lv_aload_n hx hb dX9_passSound_147 rfl (lv_at hl 3 rfl) ?_
                refine lv_dup hx hb dX9_passSound_148 rfl ?_
                refine gf_X9_388 F hB dX9_passSound_149 ((hB.2.2.2.2.2.2.2.2.2.1 _ hj).2.2 _ hT).2 ?_
                refine lv_iload_n hx hb dX9_passSound_152 rfl (lv_at hl 4 rfl) ?_
                refine lv_iadd hx hb dX9_passSound_153 ?_
                refine pf_X9_388 F hB dX9_passSound_154 ((hB.2.2.2.2.2.2.2.2.2.1 _ hj).2.2 _ hT).2 (fun H locs hBn => ?_)
                clear hB; have hB := hBn; clear hBn
                have hI9 := si_of hB.2 (SI_done hV9 hI9 hj hi hk hT hQ9 hT9.2.1)
                have hQ9 := tq_of hB.2 (TQ_PI (k9 := 2) (t := 13) hV9 hj hQ9 ((hB.2.2.2.2.2.2.2.2.2.1 _ hj).2.2 _ hT).2 (by decide))
                have hV9 := hB.2
                refine lv_iconst (v := 0) hx hb dX9_passSound_157 (by decide) ?_
                exact cl_iret F hB hrt dX9_passSound_158 (by first | exact ⟨⟨_, rfl⟩, hI9, hQ9⟩ | exact ⟨⟨_, rfl⟩, SI_up hI9 (by omega), hQ9⟩ | fail "no road")
              · refine lv_aload_n hx hb dX9_passSound_122 rfl (lv_at hl 2 rfl) ?_
                refine gr_X9_395 F hB dX9_passSound_123 (hB.2.2.2.2.2.2.1 _ _ hi hk).1 (hB.2.2.2.2.2.2.1 _ _ hi hk).2.1 ?_
                refine lv_iload_n hx hb dX9_passSound_126 rfl (lv_at hl 4 rfl) ?_
                refine cl_vi (n := 0) (NC := 0) (av := [.ref (yr Y i k), .int n]) hB (vi_crVN F.1 (m_ByteRow_drop_17 l D cy hst) ⟨va_cnB 1 F.1.2.2.2.2 (vgN (vm_0 _ (List.mem_of_getElem? (i := 11) rfl))) rfl rfl rfl (F.2.2.1.1 _ nf_124) (F.1.2.2.2.2 _ (List.mem_cons_of_mem _ (vm_0 _ (List.mem_of_getElem? (i := 23) rfl)))) ⟨by decide, by decide, by decide +kernel⟩ ⟨Nat.le_of_ble_eq_true rfl, Nat.le_of_ble_eq_true rfl⟩, F.1.2.2.2.2 _ (List.mem_cons_of_mem _ (vm_1 _ (List.mem_of_getElem? (i := 17) rfl))), F.1.2.2.2.2 _ (List.mem_cons_of_mem _ (vm_1 _ (List.mem_of_getElem? (i := 18) rfl)))⟩ rfl ⟨_, _, _, _, _, _, rfl, rfl, rfl, rfl⟩ F.2.1 F.2.2.1 hs (fun _ _ _ _ => True.intro) (fun q hq => Or.inr hq) ⟨Nat.le_refl _, Nat.le_refl _⟩) hl.1 rfl (by intro j9 a9 x9 g1 g2; exact match j9, g1, g2 with | 0, g1, g2 => by cases g1; cases g2; exact okr (en_row hB.2 hi hk) | 1, g1, g2 => by cases g1; cases g2; exact ⟨_, rfl, cl_full _⟩ | n + 2, g1, g2 => by cases g1) (fun f hf => by cases hf) (Nat.le_of_ble_eq_true rfl) (by decide +kernel) (by decide) dX9_passSound_127 rfl (fun alt ha127 H locs v σ127 w127 hB hk127 ht127 hs127 hA127 => ?_)
                have hv127 := vi_voids (by decide) ha127 hA127
                subst hv127
                have hI9 := SI_kept hV9 hB.2 hk127 (by decide +kernel) hI9
                have hT9 := TA_kept hV9 hB.2 hk127 (by decide +kernel) hj hi hk hT hT9
                have hQ9 := TQ_kept hV9 hB.2 hk127 (by decide +kernel) hj hQ9
                have hV9 := hB.2
                refine lv_aload_n hx hb dX9_passSound_130 rfl (lv_at hl 3 rfl) ?_
                refine lv_iload_n hx hb dX9_passSound_131 rfl (lv_at hl 4 rfl) ?_
                refine lv_aload_n hx hb dX9_passSound_132 rfl (lv_at hl 2 rfl) ?_
                refine gf_X9_147 F hB dX9_passSound_133 (hB.2.2.2.2.2.2.1 _ _ hi hk).1 ?_
                refine lv_icmp_ge (tgt := 143) hx hb dX9_passSound_136 (by decide) (fun c136 => ?_) (fun c136 => ?_)
                · refine lv_iconst (v := 0) hx hb dX9_passSound_143 (by decide) ?_
                  refine pf_X9_626 F hB dX9_passSound_144 ((hB.2.2.2.2.2.2.2.2.2.1 _ hj).2.2 _ hT).2 (show sgF 2 _ from ⟨by decide, by decide⟩) (fun H locs hBn => ?_)
                  clear hB; have hB := hBn; clear hBn
                  have hI9 := si_of hB.2 (SI_PI (k := 5) hV9 hI9 (t := 13) ((hB.2.2.2.2.2.2.2.2.2.1 _ hj).2.2 _ hT).2 rfl (by decide))
                  have hT9 := ta_of hB.2 (TA_PI (k9 := 5) (t := 13) hV9 hj hi hk hT hT9 ((hB.2.2.2.2.2.2.2.2.2.1 _ hj).2.2 _ hT).2 rfl)
                  have hQ9 := tq_of hB.2 (TQ_PI (k9 := 5) (t := 13) hV9 hj hQ9 ((hB.2.2.2.2.2.2.2.2.2.1 _ hj).2.2 _ hT).2 (by decide))
                  have hV9 := hB.2
                  refine lv_aload_n hx hb dX9_passSound_147 rfl (lv_at hl 3 rfl) ?_
                  refine lv_dup hx hb dX9_passSound_148 rfl ?_
                  refine gf_X9_388 F hB dX9_passSound_149 ((hB.2.2.2.2.2.2.2.2.2.1 _ hj).2.2 _ hT).2 ?_
                  refine lv_iload_n hx hb dX9_passSound_152 rfl (lv_at hl 4 rfl) ?_
                  refine lv_iadd hx hb dX9_passSound_153 ?_
                  refine pf_X9_388 F hB dX9_passSound_154 ((hB.2.2.2.2.2.2.2.2.2.1 _ hj).2.2 _ hT).2 (fun H locs hBn => ?_)
                  clear hB; have hB := hBn; clear hBn
                  have hI9 := si_of hB.2 (SI_done hV9 hI9 hj hi hk hT hQ9 hT9.2.1)
                  have hQ9 := tq_of hB.2 (TQ_PI (k9 := 2) (t := 13) hV9 hj hQ9 ((hB.2.2.2.2.2.2.2.2.2.1 _ hj).2.2 _ hT).2 (by decide))
                  have hV9 := hB.2
                  refine lv_iconst (v := 0) hx hb dX9_passSound_157 (by decide) ?_
                  exact cl_iret F hB hrt dX9_passSound_158 (by first | exact ⟨⟨_, rfl⟩, hI9, hQ9⟩ | exact ⟨⟨_, rfl⟩, SI_up hI9 (by omega), hQ9⟩ | fail "no road")
                · refine lv_iconst (v := 1) hx hb dX9_passSound_139 (by decide) ?_
                  refine lv_goto (tgt := 144) hx hb dX9_passSound_140 (by decide) ?_
                  refine pf_X9_626 F hB dX9_passSound_144 ((hB.2.2.2.2.2.2.2.2.2.1 _ hj).2.2 _ hT).2 (show sgF 2 _ from ⟨by decide, by decide⟩) (fun H locs hBn => ?_)
                  clear hB; have hB := hBn; clear hBn
                  have hI9 := si_of hB.2 (SI_PI (k := 5) hV9 hI9 (t := 13) ((hB.2.2.2.2.2.2.2.2.2.1 _ hj).2.2 _ hT).2 rfl (by decide))
                  have hT9 := ta_of hB.2 (TA_PI (k9 := 5) (t := 13) hV9 hj hi hk hT hT9 ((hB.2.2.2.2.2.2.2.2.2.1 _ hj).2.2 _ hT).2 rfl)
                  have hQ9 := tq_of hB.2 (TQ_PI (k9 := 5) (t := 13) hV9 hj hQ9 ((hB.2.2.2.2.2.2.2.2.2.1 _ hj).2.2 _ hT).2 (by decide))
                  have hV9 := hB.2
                  refine lv_aload_n hx hb dX9_passSound_147 rfl (lv_at hl 3 rfl) ?_
                  refine lv_dup hx hb dX9_passSound_148 rfl ?_
                  refine gf_X9_388 F hB dX9_passSound_149 ((hB.2.2.2.2.2.2.2.2.2.1 _ hj).2.2 _ hT).2 ?_
                  refine lv_iload_n hx hb dX9_passSound_152 rfl (lv_at hl 4 rfl) ?_
                  refine lv_iadd hx hb dX9_passSound_153 ?_
                  refine pf_X9_388 F hB dX9_passSound_154 ((hB.2.2.2.2.2.2.2.2.2.1 _ hj).2.2 _ hT).2 (fun H locs hBn => ?_)
                  clear hB; have hB := hBn; clear hBn
                  have hI9 := si_of hB.2 (SI_done hV9 hI9 hj hi hk hT hQ9 hT9.2.1)
                  have hQ9 := tq_of hB.2 (TQ_PI (k9 := 2) (t := 13) hV9 hj hQ9 ((hB.2.2.2.2.2.2.2.2.2.1 _ hj).2.2 _ hT).2 (by decide))
                  have hV9 := hB.2
                  refine lv_iconst (v := 0) hx hb dX9_passSound_157 (by decide) ?_
                  exact cl_iret F hB hrt dX9_passSound_158 (by first | exact ⟨⟨_, rfl⟩, hI9, hQ9⟩ | exact ⟨⟨_, rfl⟩, SI_up hI9 (by omega), hQ9⟩ | fail "no road")
    · refine lv_iconst (v := 2) hx hb dX9_passSound_20 (by decide) ?_
      exact cl_iret F hB hrt dX9_passSound_21 (by first | exact ⟨⟨_, rfl⟩, hI9, hQ9⟩ | exact ⟨⟨_, rfl⟩, SI_up hI9 (by omega), hQ9⟩ | fail "no road")
  · refine lv_iload hx hb dX9_passSound_7 (lv_at hl 4 rfl) ?_
    refine lv_bipush (v := 98) hx hb dX9_passSound_9 (by decide) ?_
    refine lv_icmp_ne (tgt := 16) hx hb dX9_passSound_11 (by decide) (fun c11 => ?_) (fun c11 => ?_)
    · refine lv_iload_n hx hb dX9_passSound_16 rfl (lv_at hl 3 rfl) ?_
      refine lv_if_ne (tgt := 22) hx hb dX9_passSound_17 (by decide) (fun c17 => ?_) (fun c17 => ?_)
      · refine lv_iload hx hb dX9_passSound_22 (lv_at hl 4 rfl) ?_
        refine lv_bipush (v := 32) hx hb dX9_passSound_24 (by decide) ?_
        refine lv_icmp_eq (tgt := 43) hx hb dX9_passSound_26 (by decide) (fun c26 => ?_) (fun c26 => ?_)
        · refine lv_iconst (v := 1) hx hb dX9_passSound_43 (by decide) ?_
          refine lv_goto (tgt := 48) hx hb dX9_passSound_44 (by decide) ?_
          refine lv_istore (lv' := [(5, .int _), (0, .ref _), (1, .ref _), (2, .ref _), (3, .int _), (4, .int _)]) hx hb dX9_passSound_48 hl (by decide) rfl (fun ls hl => ?_)
          refine lv_iload hx hb dX9_passSound_50 (lv_at hl 0 rfl) ?_
          refine lv_if_eq (tgt := 78) hx hb dX9_passSound_52 (by decide) (fun c52 => (by first | exact absurd c52 (by decide) | exact (c52 (by decide)).elim)) (fun c52 => ?_)
          refine lv_aload_n hx hb dX9_passSound_55 rfl (lv_at hl 1 rfl) ?_
          obtain ⟨sn, hsn, tsn⟩ := sn_of hB.2
          refine gr_X9_59 F hB dX9_passSound_56 hB.2.2.1.1 hsn ?_
          refine lv_dup hx hb dX9_passSound_59 rfl ?_
          refine gf_X9_481 F hB dX9_passSound_60 tsn ?_
          refine lv_iconst (v := 1) hx hb dX9_passSound_63 (by decide) ?_
          refine lv_iadd hx hb dX9_passSound_64 ?_
          refine pf_X9_481 F hB dX9_passSound_65 tsn (fun H locs hBn => ?_)
          clear hB; have hB := hBn; clear hBn
          have hI9 := si_of hB.2 (SI_PI (k := 1) hV9 hI9 (t := 12) tsn rfl (by decide))
          have hT9 := ta_of hB.2 (TA_PI (k9 := 1) (t := 12) hV9 hj hi hk hT hT9 tsn rfl)
          have hQ9 := tq_of hB.2 (TQ_PI (k9 := 1) (t := 12) hV9 hj hQ9 tsn (by decide))
          have hV9 := hB.2
          refine lv_aload_n hx hb dX9_passSound_68 rfl (lv_at hl 2 rfl) ?_
          refine lv_dup hx hb dX9_passSound_69 rfl ?_
          refine gf_X9_629 F hB dX9_passSound_70 (hB.2.2.2.2.2.2.1 _ _ hi hk).1 ?_
          refine lv_iload_n hx hb dX9_passSound_73 rfl (lv_at hl 4 rfl) ?_
          refine lv_iadd hx hb dX9_passSound_74 ?_
          refine pf_X9_629 F hB dX9_passSound_75 (hB.2.2.2.2.2.2.1 _ _ hi hk).1 (fun H locs hBn => ?_)
          clear hB; have hB := hBn; clear hBn
          have hS9 := SI_sent hV9 hI9 hi hk hT9.2.1 h8 hB9
          have hG9 := hS9.2
          have hI9 := si_of hB.2 hS9.1
          have hT9 := ta_of hB.2 (TA_PI (k9 := 6) (t := 8) hV9 hj hi hk hT hT9 (hB.2.2.2.2.2.2.1 _ _ hi hk).1 rfl)
          have hQ9 := tq_of hB.2 (TQ_PI (k9 := 6) (t := 8) hV9 hj hQ9 (hB.2.2.2.2.2.2.1 _ _ hi hk).1 (by decide))
          have hV9 := hB.2
          refine lv_iload hx hb dX9_passSound_78 (lv_at hl 5 rfl) ?_
          refine lv_bipush (v := 32) hx hb dX9_passSound_80 (by decide) ?_
          refine lv_icmp_eq (tgt := 93) hx hb dX9_passSound_82 (by decide) (fun c82 => ?_) (fun c82 => ?_)
          · refine lv_aload_n hx hb dX9_passSound_93 rfl (lv_at hl 2 rfl) ?_
            refine gf_X9_144 F hB dX9_passSound_94 (hB.2.2.2.2.2.2.1 _ _ hi hk).1 ?_
            refine lv_if_eq (tgt := 109) hx hb dX9_passSound_97 (by decide) (fun c97 => ?_) (fun c97 => ?_)
            · have hw9 := gp_of (i := i) (k := k) (n := n.toInt) (B := B + 8) hB.2 (by first | exact hG9 ((c_nk (by decide)).symm.trans c97) | exact absurd c82 c26)
              have hI9 := si_of (B := B + 8) hB.2 (by first | exact hI9 | exact absurd c82 c26)
              refine lv_aload_n hx hb dX9_passSound_109 rfl (lv_at hl 2 rfl) ?_
              refine lv_aload_n hx hb dX9_passSound_110 rfl (lv_at hl 3 rfl) ?_
              refine lv_iload_n hx hb dX9_passSound_111 rfl (lv_at hl 4 rfl) ?_
              refine cl_callN (ci := 7) F hB (k_tkf l D cy hB.2 hj hi hk hT _ hw9.2.2 (by have q := hw9.1; have q2 := hw9.2.1; omega) _) ⟨va_cnB 2 F.1.2.2.2.2 (vgN (vm_1 _ (List.mem_of_getElem? (i := 12) rfl))) rfl rfl rfl (F.2.2.1.1 _ nf_138) (F.1.2.2.2.2 _ (List.mem_cons_of_mem _ (vm_1 _ (List.mem_of_getElem? (i := 4) rfl)))) ⟨by decide, by decide, by decide +kernel⟩ ⟨Nat.le_of_ble_eq_true rfl, Nat.le_of_ble_eq_true rfl⟩, F.1.2.2.2.2 _ (List.mem_cons_of_mem _ (vm_9 _ (List.mem_of_getElem? (i := 11) rfl))), F.1.2.2.2.2 _ (List.mem_cons_of_mem _ (vm_9 _ (List.mem_of_getElem? (i := 12) rfl)))⟩ rfl rfl (by decide) rfl hl.1 rfl (Nat.le_of_ble_eq_true rfl) dX9_passSound_112 ⟨Nat.le_of_ble_eq_true rfl, Nat.le_of_ble_eq_true rfl⟩ (hB.2.2.2.2.2.2.1 _ _ hi hk).1 (fun H locs v σ112 hB hP => ?_)
              obtain ⟨rfl, hR112, hx112⟩ := hP
              have hI9 := SI_ad hV9 hI9 hi hk hR112 (fun _ => by have q := hw9.1; omega)
              have hT9 := TA_ad hV9 hj hi hk hT (hV9.2.2.2.2.2.1 _ _ hi hk).2.2 hR112 hT9
              have hQ9 := TQ_ad hV9 hj (hV9.2.2.2.2.2.1 _ _ hi hk).2.2 hR112 hQ9
              have hV9 := hB.2
              refine lv_aload_n hx hb dX9_passSound_115 rfl (lv_at hl 2 rfl) ?_
              refine gf_X9_144 F hB dX9_passSound_116 (hB.2.2.2.2.2.2.1 _ _ hi hk).1 ?_
              refine lv_if_eq (tgt := 147) hx hb dX9_passSound_119 (by decide) (fun c119 => ?_) (fun c119 => ?_)
              · refine lv_aload_n hx hb dX9_passSound_147 rfl (lv_at hl 3 rfl) ?_
                refine lv_dup hx hb dX9_passSound_148 rfl ?_
                refine gf_X9_388 F hB dX9_passSound_149 ((hB.2.2.2.2.2.2.2.2.2.1 _ hj).2.2 _ hT).2 ?_
                refine lv_iload_n hx hb dX9_passSound_152 rfl (lv_at hl 4 rfl) ?_
                refine lv_iadd hx hb dX9_passSound_153 ?_
                refine pf_X9_388 F hB dX9_passSound_154 ((hB.2.2.2.2.2.2.2.2.2.1 _ hj).2.2 _ hT).2 (fun H locs hBn => ?_)
                clear hB; have hB := hBn; clear hBn
                have hI9 := si_of hB.2 (SI_done hV9 hI9 hj hi hk hT hQ9 hT9.2.1)
                have hQ9 := tq_of hB.2 (TQ_PI (k9 := 2) (t := 13) hV9 hj hQ9 ((hB.2.2.2.2.2.2.2.2.2.1 _ hj).2.2 _ hT).2 (by decide))
                have hV9 := hB.2
                refine lv_iconst (v := 0) hx hb dX9_passSound_157 (by decide) ?_
                exact cl_iret F hB hrt dX9_passSound_158 (by first | exact ⟨⟨_, rfl⟩, hI9, hQ9⟩ | exact ⟨⟨_, rfl⟩, SI_up hI9 (by omega), hQ9⟩ | fail "no road")
              · refine lv_aload_n hx hb dX9_passSound_122 rfl (lv_at hl 2 rfl) ?_
                refine gr_X9_395 F hB dX9_passSound_123 (hB.2.2.2.2.2.2.1 _ _ hi hk).1 (hB.2.2.2.2.2.2.1 _ _ hi hk).2.1 ?_
                refine lv_iload_n hx hb dX9_passSound_126 rfl (lv_at hl 4 rfl) ?_
                refine cl_vi (n := 0) (NC := 0) (av := [.ref (yr Y i k), .int n]) hB (vi_crVN F.1 (m_ByteRow_drop_17 l D cy hst) ⟨va_cnB 1 F.1.2.2.2.2 (vgN (vm_0 _ (List.mem_of_getElem? (i := 11) rfl))) rfl rfl rfl (F.2.2.1.1 _ nf_124) (F.1.2.2.2.2 _ (List.mem_cons_of_mem _ (vm_0 _ (List.mem_of_getElem? (i := 23) rfl)))) ⟨by decide, by decide, by decide +kernel⟩ ⟨Nat.le_of_ble_eq_true rfl, Nat.le_of_ble_eq_true rfl⟩, F.1.2.2.2.2 _ (List.mem_cons_of_mem _ (vm_1 _ (List.mem_of_getElem? (i := 17) rfl))), F.1.2.2.2.2 _ (List.mem_cons_of_mem _ (vm_1 _ (List.mem_of_getElem? (i := 18) rfl)))⟩ rfl ⟨_, _, _, _, _, _, rfl, rfl, rfl, rfl⟩ F.2.1 F.2.2.1 hs (fun _ _ _ _ => True.intro) (fun q hq => Or.inr hq) ⟨Nat.le_refl _, Nat.le_refl _⟩) hl.1 rfl (by intro j9 a9 x9 g1 g2; exact match j9, g1, g2 with | 0, g1, g2 => by cases g1; cases g2; exact okr (en_row hB.2 hi hk) | 1, g1, g2 => by cases g1; cases g2; exact ⟨_, rfl, cl_full _⟩ | n + 2, g1, g2 => by cases g1) (fun f hf => by cases hf) (Nat.le_of_ble_eq_true rfl) (by decide +kernel) (by decide) dX9_passSound_127 rfl (fun alt ha127 H locs v σ127 w127 hB hk127 ht127 hs127 hA127 => ?_)
                have hv127 := vi_voids (by decide) ha127 hA127
                subst hv127
                have hI9 := SI_kept hV9 hB.2 hk127 (by decide +kernel) hI9
                have hT9 := TA_kept hV9 hB.2 hk127 (by decide +kernel) hj hi hk hT hT9
                have hQ9 := TQ_kept hV9 hB.2 hk127 (by decide +kernel) hj hQ9
                have hV9 := hB.2
                refine lv_aload_n hx hb dX9_passSound_130 rfl (lv_at hl 3 rfl) ?_
                refine lv_iload_n hx hb dX9_passSound_131 rfl (lv_at hl 4 rfl) ?_
                refine lv_aload_n hx hb dX9_passSound_132 rfl (lv_at hl 2 rfl) ?_
                refine gf_X9_147 F hB dX9_passSound_133 (hB.2.2.2.2.2.2.1 _ _ hi hk).1 ?_
                refine lv_icmp_ge (tgt := 143) hx hb dX9_passSound_136 (by decide) (fun c136 => ?_) (fun c136 => ?_)
                · refine lv_iconst (v := 0) hx hb dX9_passSound_143 (by decide) ?_
                  refine pf_X9_626 F hB dX9_passSound_144 ((hB.2.2.2.2.2.2.2.2.2.1 _ hj).2.2 _ hT).2 (show sgF 2 _ from ⟨by decide, by decide⟩) (fun H locs hBn => ?_)
                  clear hB; have hB := hBn; clear hBn
                  have hI9 := si_of hB.2 (SI_PI (k := 5) hV9 hI9 (t := 13) ((hB.2.2.2.2.2.2.2.2.2.1 _ hj).2.2 _ hT).2 rfl (by decide))
                  have hT9 := ta_of hB.2 (TA_PI (k9 := 5) (t := 13) hV9 hj hi hk hT hT9 ((hB.2.2.2.2.2.2.2.2.2.1 _ hj).2.2 _ hT).2 rfl)
                  have hQ9 := tq_of hB.2 (TQ_PI (k9 := 5) (t := 13) hV9 hj hQ9 ((hB.2.2.2.2.2.2.2.2.2.1 _ hj).2.2 _ hT).2 (by decide))
                  have hV9 := hB.2
                  refine lv_aload_n hx hb dX9_passSound_147 rfl (lv_at hl 3 rfl) ?_
                  refine lv_dup hx hb dX9_passSound_148 rfl ?_
                  refine gf_X9_388 F hB dX9_passSound_149 ((hB.2.2.2.2.2.2.2.2.2.1 _ hj).2.2 _ hT).2 ?_
                  refine lv_iload_n hx hb dX9_passSound_152 rfl (lv_at hl 4 rfl) ?_
                  refine lv_iadd hx hb dX9_passSound_153 ?_
                  refine pf_X9_388 F hB dX9_passSound_154 ((hB.2.2.2.2.2.2.2.2.2.1 _ hj).2.2 _ hT).2 (fun H locs hBn => ?_)
                  clear hB; have hB := hBn; clear hBn
                  have hI9 := si_of hB.2 (SI_done hV9 hI9 hj hi hk hT hQ9 hT9.2.1)
                  have hQ9 := tq_of hB.2 (TQ_PI (k9 := 2) (t := 13) hV9 hj hQ9 ((hB.2.2.2.2.2.2.2.2.2.1 _ hj).2.2 _ hT).2 (by decide))
                  have hV9 := hB.2
                  refine lv_iconst (v := 0) hx hb dX9_passSound_157 (by decide) ?_
                  exact cl_iret F hB hrt dX9_passSound_158 (by first | exact ⟨⟨_, rfl⟩, hI9, hQ9⟩ | exact ⟨⟨_, rfl⟩, SI_up hI9 (by omega), hQ9⟩ | fail "no road")
                · refine lv_iconst (v := 1) hx hb dX9_passSound_139 (by decide) ?_
                  refine lv_goto (tgt := 144) hx hb dX9_passSound_140 (by decide) ?_
                  refine pf_X9_626 F hB dX9_passSound_144 ((hB.2.2.2.2.2.2.2.2.2.1 _ hj).2.2 _ hT).2 (show sgF 2 _ from ⟨by decide, by decide⟩) (fun H locs hBn => ?_)
                  clear hB; have hB := hBn; clear hBn
                  have hI9 := si_of hB.2 (SI_PI (k := 5) hV9 hI9 (t := 13) ((hB.2.2.2.2.2.2.2.2.2.1 _ hj).2.2 _ hT).2 rfl (by decide))
                  have hT9 := ta_of hB.2 (TA_PI (k9 := 5) (t := 13) hV9 hj hi hk hT hT9 ((hB.2.2.2.2.2.2.2.2.2.1 _ hj).2.2 _ hT).2 rfl)
                  have hQ9 := tq_of hB.2 (TQ_PI (k9 := 5) (t := 13) hV9 hj hQ9 ((hB.2.2.2.2.2.2.2.2.2.1 _ hj).2.2 _ hT).2 (by decide))
                  have hV9 := hB.2
                  refine lv_aload_n hx hb dX9_passSound_147 rfl (lv_at hl 3 rfl) ?_
                  refine lv_dup hx hb dX9_passSound_148 rfl ?_
                  refine gf_X9_388 F hB dX9_passSound_149 ((hB.2.2.2.2.2.2.2.2.2.1 _ hj).2.2 _ hT).2 ?_
                  refine lv_iload_n hx hb dX9_passSound_152 rfl (lv_at hl 4 rfl) ?_
                  refine lv_iadd hx hb dX9_passSound_153 ?_
                  refine pf_X9_388 F hB dX9_passSound_154 ((hB.2.2.2.2.2.2.2.2.2.1 _ hj).2.2 _ hT).2 (fun H locs hBn => ?_)
                  clear hB; have hB := hBn; clear hBn
                  have hI9 := si_of hB.2 (SI_done hV9 hI9 hj hi hk hT hQ9 hT9.2.1)
                  have hQ9 := tq_of hB.2 (TQ_PI (k9 := 2) (t := 13) hV9 hj hQ9 ((hB.2.2.2.2.2.2.2.2.2.1 _ hj).2.2 _ hT).2 (by decide))
                  have hV9 := hB.2
                  refine lv_iconst (v := 0) hx hb dX9_passSound_157 (by decide) ?_
                  exact cl_iret F hB hrt dX9_passSound_158 (by first | exact ⟨⟨_, rfl⟩, hI9, hQ9⟩ | exact ⟨⟨_, rfl⟩, SI_up hI9 (by omega), hQ9⟩ | fail "no road")
            · refine lv_aload_n hx hb dX9_passSound_100 rfl (lv_at hl 1 rfl) ?_
              refine lv_aload_n hx hb dX9_passSound_101 rfl (lv_at hl 2 rfl) ?_
              refine lv_iload_n hx hb dX9_passSound_102 rfl (lv_at hl 4 rfl) ?_
              refine cl_vi (n := 0) (NC := 0) (av := [.ref (yX Y), .ref (ye Y i k), .int n]) hB (vi_crV F.1 (m_Hubcascade_receive_0 l D cy hst) (cwV 2 F.1.2.2.2.2 (vgV (vm_9 _ (List.mem_of_getElem? (i := 8) rfl)) (vm_9 _ (List.mem_of_getElem? (i := 9) rfl)) (vm_9 _ (List.mem_of_getElem? (i := 10) rfl)) (vm_4 _ (List.mem_of_getElem? (i := 20) rfl)) (vm_9 _ (List.mem_of_getElem? (i := 7) rfl))) rfl rfl rfl ⟨rfl, by decide, by decide, by decide +kernel⟩ ⟨Nat.le_of_ble_eq_true rfl, Nat.le_of_ble_eq_true rfl⟩) rfl ⟨_, _, _, _, _, _, rfl, rfl, rfl, rfl⟩ F.2.1 F.2.2.1 hs (fun _ _ _ _ => True.intro) (fun q hq => Or.inr hq) ⟨Nat.le_refl _, Nat.le_refl _⟩) hl.1 rfl (by intro j9 a9 x9 g1 g2; exact match j9, g1, g2 with | 0, g1, g2 => by cases g1; cases g2; exact okr (cl_kd (kd := 0) hB.2.1 hB.2.2.1.1 (by decide) (by decide +kernel)) | 1, g1, g2 => by cases g1; cases g2; exact okr (cl_kd (kd := 5) hB.2.1 (hB.2.2.2.2.2.2.1 _ _ hi hk).1 (by decide) (by decide +kernel)) | 2, g1, g2 => by cases g1; cases g2; exact ⟨_, rfl, (cl_full _).1, h8⟩ | n + 3, g1, g2 => by cases g1) (fun f hf => by cases hf) (Nat.le_of_ble_eq_true rfl) (by decide +kernel) (by decide) dX9_passSound_103 rfl (fun alt ha103 H locs v σ103 w103 hB hk103 ht103 hs103 hA103 => ?_)
              have hv103 := vi_voids (by decide) ha103 hA103
              subst hv103
              have hI9 := SI_kept hV9 hB.2 hk103 (by decide +kernel) hI9
              have hT9 := TA_kept hV9 hB.2 hk103 (by decide +kernel) hj hi hk hT hT9
              have hQ9 := TQ_kept hV9 hB.2 hk103 (by decide +kernel) hj hQ9
              have hV9 := hB.2
              refine lv_goto (tgt := 115) hx hb dX9_passSound_106 (by decide) ?_
              refine lv_aload_n hx hb dX9_passSound_115 rfl (lv_at hl 2 rfl) ?_
              refine gf_X9_144 F hB dX9_passSound_116 (hB.2.2.2.2.2.2.1 _ _ hi hk).1 ?_
              refine lv_if_eq (tgt := 147) hx hb dX9_passSound_119 (by decide) (fun c119 => ?_) (fun c119 => ?_)
              · refine lv_aload_n hx hb dX9_passSound_147 rfl (lv_at hl 3 rfl) ?_
                refine lv_dup hx hb dX9_passSound_148 rfl ?_
                refine gf_X9_388 F hB dX9_passSound_149 ((hB.2.2.2.2.2.2.2.2.2.1 _ hj).2.2 _ hT).2 ?_
                refine lv_iload_n hx hb dX9_passSound_152 rfl (lv_at hl 4 rfl) ?_
                refine lv_iadd hx hb dX9_passSound_153 ?_
                refine pf_X9_388 F hB dX9_passSound_154 ((hB.2.2.2.2.2.2.2.2.2.1 _ hj).2.2 _ hT).2 (fun H locs hBn => ?_)
                clear hB; have hB := hBn; clear hBn
                have hI9 := si_of hB.2 (SI_done hV9 hI9 hj hi hk hT hQ9 hT9.2.1)
                have hQ9 := tq_of hB.2 (TQ_PI (k9 := 2) (t := 13) hV9 hj hQ9 ((hB.2.2.2.2.2.2.2.2.2.1 _ hj).2.2 _ hT).2 (by decide))
                have hV9 := hB.2
                refine lv_iconst (v := 0) hx hb dX9_passSound_157 (by decide) ?_
                exact cl_iret F hB hrt dX9_passSound_158 (by first | exact ⟨⟨_, rfl⟩, hI9, hQ9⟩ | exact ⟨⟨_, rfl⟩, SI_up hI9 (by omega), hQ9⟩ | fail "no road")
              · refine lv_aload_n hx hb dX9_passSound_122 rfl (lv_at hl 2 rfl) ?_
                refine gr_X9_395 F hB dX9_passSound_123 (hB.2.2.2.2.2.2.1 _ _ hi hk).1 (hB.2.2.2.2.2.2.1 _ _ hi hk).2.1 ?_
                refine lv_iload_n hx hb dX9_passSound_126 rfl (lv_at hl 4 rfl) ?_
                refine cl_vi (n := 0) (NC := 0) (av := [.ref (yr Y i k), .int n]) hB (vi_crVN F.1 (m_ByteRow_drop_17 l D cy hst) ⟨va_cnB 1 F.1.2.2.2.2 (vgN (vm_0 _ (List.mem_of_getElem? (i := 11) rfl))) rfl rfl rfl (F.2.2.1.1 _ nf_124) (F.1.2.2.2.2 _ (List.mem_cons_of_mem _ (vm_0 _ (List.mem_of_getElem? (i := 23) rfl)))) ⟨by decide, by decide, by decide +kernel⟩ ⟨Nat.le_of_ble_eq_true rfl, Nat.le_of_ble_eq_true rfl⟩, F.1.2.2.2.2 _ (List.mem_cons_of_mem _ (vm_1 _ (List.mem_of_getElem? (i := 17) rfl))), F.1.2.2.2.2 _ (List.mem_cons_of_mem _ (vm_1 _ (List.mem_of_getElem? (i := 18) rfl)))⟩ rfl ⟨_, _, _, _, _, _, rfl, rfl, rfl, rfl⟩ F.2.1 F.2.2.1 hs (fun _ _ _ _ => True.intro) (fun q hq => Or.inr hq) ⟨Nat.le_refl _, Nat.le_refl _⟩) hl.1 rfl (by intro j9 a9 x9 g1 g2; exact match j9, g1, g2 with | 0, g1, g2 => by cases g1; cases g2; exact okr (en_row hB.2 hi hk) | 1, g1, g2 => by cases g1; cases g2; exact ⟨_, rfl, cl_full _⟩ | n + 2, g1, g2 => by cases g1) (fun f hf => by cases hf) (Nat.le_of_ble_eq_true rfl) (by decide +kernel) (by decide) dX9_passSound_127 rfl (fun alt ha127 H locs v σ127 w127 hB hk127 ht127 hs127 hA127 => ?_)
                have hv127 := vi_voids (by decide) ha127 hA127
                subst hv127
                have hI9 := SI_kept hV9 hB.2 hk127 (by decide +kernel) hI9
                have hT9 := TA_kept hV9 hB.2 hk127 (by decide +kernel) hj hi hk hT hT9
                have hQ9 := TQ_kept hV9 hB.2 hk127 (by decide +kernel) hj hQ9
                have hV9 := hB.2
                refine lv_aload_n hx hb dX9_passSound_130 rfl (lv_at hl 3 rfl) ?_
                refine lv_iload_n hx hb dX9_passSound_131 rfl (lv_at hl 4 rfl) ?_
                refine lv_aload_n hx hb dX9_passSound_132 rfl (lv_at hl 2 rfl) ?_
                refine gf_X9_147 F hB dX9_passSound_133 (hB.2.2.2.2.2.2.1 _ _ hi hk).1 ?_
                refine lv_icmp_ge (tgt := 143) hx hb dX9_passSound_136 (by decide) (fun c136 => ?_) (fun c136 => ?_)
                · refine lv_iconst (v := 0) hx hb dX9_passSound_143 (by decide) ?_
                  refine pf_X9_626 F hB dX9_passSound_144 ((hB.2.2.2.2.2.2.2.2.2.1 _ hj).2.2 _ hT).2 (show sgF 2 _ from ⟨by decide, by decide⟩) (fun H locs hBn => ?_)
                  clear hB; have hB := hBn; clear hBn
                  have hI9 := si_of hB.2 (SI_PI (k := 5) hV9 hI9 (t := 13) ((hB.2.2.2.2.2.2.2.2.2.1 _ hj).2.2 _ hT).2 rfl (by decide))
                  have hT9 := ta_of hB.2 (TA_PI (k9 := 5) (t := 13) hV9 hj hi hk hT hT9 ((hB.2.2.2.2.2.2.2.2.2.1 _ hj).2.2 _ hT).2 rfl)
                  have hQ9 := tq_of hB.2 (TQ_PI (k9 := 5) (t := 13) hV9 hj hQ9 ((hB.2.2.2.2.2.2.2.2.2.1 _ hj).2.2 _ hT).2 (by decide))
                  have hV9 := hB.2
                  refine lv_aload_n hx hb dX9_passSound_147 rfl (lv_at hl 3 rfl) ?_
                  refine lv_dup hx hb dX9_passSound_148 rfl ?_
                  refine gf_X9_388 F hB dX9_passSound_149 ((hB.2.2.2.2.2.2.2.2.2.1 _ hj).2.2 _ hT).2 ?_
                  refine lv_iload_n hx hb dX9_passSound_152 rfl (lv_at hl 4 rfl) ?_
                  refine lv_iadd hx hb dX9_passSound_153 ?_
                  refine pf_X9_388 F hB dX9_passSound_154 ((hB.2.2.2.2.2.2.2.2.2.1 _ hj).2.2 _ hT).2 (fun H locs hBn => ?_)
                  clear hB; have hB := hBn; clear hBn
                  have hI9 := si_of hB.2 (SI_done hV9 hI9 hj hi hk hT hQ9 hT9.2.1)
                  have hQ9 := tq_of hB.2 (TQ_PI (k9 := 2) (t := 13) hV9 hj hQ9 ((hB.2.2.2.2.2.2.2.2.2.1 _ hj).2.2 _ hT).2 (by decide))
                  have hV9 := hB.2
                  refine lv_iconst (v := 0) hx hb dX9_passSound_157 (by decide) ?_
                  exact cl_iret F hB hrt dX9_passSound_158 (by first | exact ⟨⟨_, rfl⟩, hI9, hQ9⟩ | exact ⟨⟨_, rfl⟩, SI_up hI9 (by omega), hQ9⟩ | fail "no road")
                · refine lv_iconst (v := 1) hx hb dX9_passSound_139 (by decide) ?_
                  refine lv_goto (tgt := 144) hx hb dX9_passSound_140 (by decide) ?_
                  refine pf_X9_626 F hB dX9_passSound_144 ((hB.2.2.2.2.2.2.2.2.2.1 _ hj).2.2 _ hT).2 (show sgF 2 _ from ⟨by decide, by decide⟩) (fun H locs hBn => ?_)
                  clear hB; have hB := hBn; clear hBn
                  have hI9 := si_of hB.2 (SI_PI (k := 5) hV9 hI9 (t := 13) ((hB.2.2.2.2.2.2.2.2.2.1 _ hj).2.2 _ hT).2 rfl (by decide))
                  have hT9 := ta_of hB.2 (TA_PI (k9 := 5) (t := 13) hV9 hj hi hk hT hT9 ((hB.2.2.2.2.2.2.2.2.2.1 _ hj).2.2 _ hT).2 rfl)
                  have hQ9 := tq_of hB.2 (TQ_PI (k9 := 5) (t := 13) hV9 hj hQ9 ((hB.2.2.2.2.2.2.2.2.2.1 _ hj).2.2 _ hT).2 (by decide))
                  have hV9 := hB.2
                  refine lv_aload_n hx hb dX9_passSound_147 rfl (lv_at hl 3 rfl) ?_
                  refine lv_dup hx hb dX9_passSound_148 rfl ?_
                  refine gf_X9_388 F hB dX9_passSound_149 ((hB.2.2.2.2.2.2.2.2.2.1 _ hj).2.2 _ hT).2 ?_
                  refine lv_iload_n hx hb dX9_passSound_152 rfl (lv_at hl 4 rfl) ?_
                  refine lv_iadd hx hb dX9_passSound_153 ?_
                  refine pf_X9_388 F hB dX9_passSound_154 ((hB.2.2.2.2.2.2.2.2.2.1 _ hj).2.2 _ hT).2 (fun H locs hBn => ?_)
                  clear hB; have hB := hBn; clear hBn
                  have hI9 := si_of hB.2 (SI_done hV9 hI9 hj hi hk hT hQ9 hT9.2.1)
                  have hQ9 := tq_of hB.2 (TQ_PI (k9 := 2) (t := 13) hV9 hj hQ9 ((hB.2.2.2.2.2.2.2.2.2.1 _ hj).2.2 _ hT).2 (by decide))
                  have hV9 := hB.2
                  refine lv_iconst (v := 0) hx hb dX9_passSound_157 (by decide) ?_
                  exact cl_iret F hB hrt dX9_passSound_158 (by first | exact ⟨⟨_, rfl⟩, hI9, hQ9⟩ | exact ⟨⟨_, rfl⟩, SI_up hI9 (by omega), hQ9⟩ | fail "no road")
          · refine lv_aload_n hx hb dX9_passSound_85 rfl (lv_at hl 3 rfl) ?_
            refine lv_iconst (v := 1) hx hb dX9_passSound_86 (by decide) ?_
            refine pf_X9_623 F hB dX9_passSound_87 ((hB.2.2.2.2.2.2.2.2.2.1 _ hj).2.2 _ hT).2 ⟨by decide, by decide⟩ (fun H locs hBn => ?_)
            clear hB; have hB := hBn; clear hBn
            have hI9 := si_of hB.2 (SI_PI (k := 4) hV9 hI9 (t := 13) ((hB.2.2.2.2.2.2.2.2.2.1 _ hj).2.2 _ hT).2 rfl (by decide))
            have hT9 := ta_of hB.2 (TA_PI (k9 := 4) (t := 13) hV9 hj hi hk hT hT9 ((hB.2.2.2.2.2.2.2.2.2.1 _ hj).2.2 _ hT).2 rfl)
            have hQ9 := tq_of hB.2 (TQ_PI (k9 := 4) (t := 13) hV9 hj hQ9 ((hB.2.2.2.2.2.2.2.2.2.1 _ hj).2.2 _ hT).2 (by decide))
            have hV9 := hB.2
            refine lv_goto (tgt := 115) hx hb dX9_passSound_90 (by decide) ?_
            refine lv_aload_n hx hb dX9_passSound_115 rfl (lv_at hl 2 rfl) ?_
            refine gf_X9_144 F hB dX9_passSound_116 (hB.2.2.2.2.2.2.1 _ _ hi hk).1 ?_
            refine lv_if_eq (tgt := 147) hx hb dX9_passSound_119 (by decide) (fun c119 => ?_) (fun c119 => ?_)
            · refine lv_aload_n hx hb dX9_passSound_147 rfl (lv_at hl 3 rfl) ?_
              refine lv_dup hx hb dX9_passSound_148 rfl ?_
              refine gf_X9_388 F hB dX9_passSound_149 ((hB.2.2.2.2.2.2.2.2.2.1 _ hj).2.2 _ hT).2 ?_
              refine lv_iload_n hx hb dX9_passSound_152 rfl (lv_at hl 4 rfl) ?_
              refine lv_iadd hx hb dX9_passSound_153 ?_
              refine pf_X9_388 F hB dX9_passSound_154 ((hB.2.2.2.2.2.2.2.2.2.1 _ hj).2.2 _ hT).2 (fun H locs hBn => ?_)
              clear hB; have hB := hBn; clear hBn
              have hI9 := si_of hB.2 (SI_done hV9 hI9 hj hi hk hT hQ9 hT9.2.1)
              have hQ9 := tq_of hB.2 (TQ_PI (k9 := 2) (t := 13) hV9 hj hQ9 ((hB.2.2.2.2.2.2.2.2.2.1 _ hj).2.2 _ hT).2 (by decide))
              have hV9 := hB.2
              refine lv_iconst (v := 0) hx hb dX9_passSound_157 (by decide) ?_
              exact cl_iret F hB hrt dX9_passSound_158 (by first | exact ⟨⟨_, rfl⟩, hI9, hQ9⟩ | exact ⟨⟨_, rfl⟩, SI_up hI9 (by omega), hQ9⟩ | fail "no road")
            · refine lv_aload_n hx hb dX9_passSound_122 rfl (lv_at hl 2 rfl) ?_
              refine gr_X9_395 F hB dX9_passSound_123 (hB.2.2.2.2.2.2.1 _ _ hi hk).1 (hB.2.2.2.2.2.2.1 _ _ hi hk).2.1 ?_
              refine lv_iload_n hx hb dX9_passSound_126 rfl (lv_at hl 4 rfl) ?_
              refine cl_vi (n := 0) (NC := 0) (av := [.ref (yr Y i k), .int n]) hB (vi_crVN F.1 (m_ByteRow_drop_17 l D cy hst) ⟨va_cnB 1 F.1.2.2.2.2 (vgN (vm_0 _ (List.mem_of_getElem? (i := 11) rfl))) rfl rfl rfl (F.2.2.1.1 _ nf_124) (F.1.2.2.2.2 _ (List.mem_cons_of_mem _ (vm_0 _ (List.mem_of_getElem? (i := 23) rfl)))) ⟨by decide, by decide, by decide +kernel⟩ ⟨Nat.le_of_ble_eq_true rfl, Nat.le_of_ble_eq_true rfl⟩, F.1.2.2.2.2 _ (List.mem_cons_of_mem _ (vm_1 _ (List.mem_of_getElem? (i := 17) rfl))), F.1.2.2.2.2 _ (List.mem_cons_of_mem _ (vm_1 _ (List.mem_of_getElem? (i := 18) rfl)))⟩ rfl ⟨_, _, _, _, _, _, rfl, rfl, rfl, rfl⟩ F.2.1 F.2.2.1 hs (fun _ _ _ _ => True.intro) (fun q hq => Or.inr hq) ⟨Nat.le_refl _, Nat.le_refl _⟩) hl.1 rfl (by intro j9 a9 x9 g1 g2; exact match j9, g1, g2 with | 0, g1, g2 => by cases g1; cases g2; exact okr (en_row hB.2 hi hk) | 1, g1, g2 => by cases g1; cases g2; exact ⟨_, rfl, cl_full _⟩ | n + 2, g1, g2 => by cases g1) (fun f hf => by cases hf) (Nat.le_of_ble_eq_true rfl) (by decide +kernel) (by decide) dX9_passSound_127 rfl (fun alt ha127 H locs v σ127 w127 hB hk127 ht127 hs127 hA127 => ?_)
              have hv127 := vi_voids (by decide) ha127 hA127
              subst hv127
              have hI9 := SI_kept hV9 hB.2 hk127 (by decide +kernel) hI9
              have hT9 := TA_kept hV9 hB.2 hk127 (by decide +kernel) hj hi hk hT hT9
              have hQ9 := TQ_kept hV9 hB.2 hk127 (by decide +kernel) hj hQ9
              have hV9 := hB.2
              refine lv_aload_n hx hb dX9_passSound_130 rfl (lv_at hl 3 rfl) ?_
              refine lv_iload_n hx hb dX9_passSound_131 rfl (lv_at hl 4 rfl) ?_
              refine lv_aload_n hx hb dX9_passSound_132 rfl (lv_at hl 2 rfl) ?_
              refine gf_X9_147 F hB dX9_passSound_133 (hB.2.2.2.2.2.2.1 _ _ hi hk).1 ?_
              refine lv_icmp_ge (tgt := 143) hx hb dX9_passSound_136 (by decide) (fun c136 => ?_) (fun c136 => ?_)
              · refine lv_iconst (v := 0) hx hb dX9_passSound_143 (by decide) ?_
                refine pf_X9_626 F hB dX9_passSound_144 ((hB.2.2.2.2.2.2.2.2.2.1 _ hj).2.2 _ hT).2 (show sgF 2 _ from ⟨by decide, by decide⟩) (fun H locs hBn => ?_)
                clear hB; have hB := hBn; clear hBn
                have hI9 := si_of hB.2 (SI_PI (k := 5) hV9 hI9 (t := 13) ((hB.2.2.2.2.2.2.2.2.2.1 _ hj).2.2 _ hT).2 rfl (by decide))
                have hT9 := ta_of hB.2 (TA_PI (k9 := 5) (t := 13) hV9 hj hi hk hT hT9 ((hB.2.2.2.2.2.2.2.2.2.1 _ hj).2.2 _ hT).2 rfl)
                have hQ9 := tq_of hB.2 (TQ_PI (k9 := 5) (t := 13) hV9 hj hQ9 ((hB.2.2.2.2.2.2.2.2.2.1 _ hj).2.2 _ hT).2 (by decide))
                have hV9 := hB.2
                refine lv_aload_n hx hb dX9_passSound_147 rfl (lv_at hl 3 rfl) ?_
                refine lv_dup hx hb dX9_passSound_148 rfl ?_
                refine gf_X9_388 F hB dX9_passSound_149 ((hB.2.2.2.2.2.2.2.2.2.1 _ hj).2.2 _ hT).2 ?_
                refine lv_iload_n hx hb dX9_passSound_152 rfl (lv_at hl 4 rfl) ?_
                refine lv_iadd hx hb dX9_passSound_153 ?_
                refine pf_X9_388 F hB dX9_passSound_154 ((hB.2.2.2.2.2.2.2.2.2.1 _ hj).2.2 _ hT).2 (fun H locs hBn => ?_)
                clear hB; have hB := hBn; clear hBn
                have hI9 := si_of hB.2 (SI_done hV9 hI9 hj hi hk hT hQ9 hT9.2.1)
                have hQ9 := tq_of hB.2 (TQ_PI (k9 := 2) (t := 13) hV9 hj hQ9 ((hB.2.2.2.2.2.2.2.2.2.1 _ hj).2.2 _ hT).2 (by decide))
                have hV9 := hB.2
                refine lv_iconst (v := 0) hx hb dX9_passSound_157 (by decide) ?_
                exact cl_iret F hB hrt dX9_passSound_158 (by first | exact ⟨⟨_, rfl⟩, hI9, hQ9⟩ | exact ⟨⟨_, rfl⟩, SI_up hI9 (by omega), hQ9⟩ | fail "no road")
              · refine lv_iconst (v := 1) hx hb dX9_passSound_139 (by decide) ?_
                refine lv_goto (tgt := 144) hx hb dX9_passSound_140 (by decide) ?_
                refine pf_X9_626 F hB dX9_passSound_144 ((hB.2.2.2.2.2.2.2.2.2.1 _ hj).2.2 _ hT).2 (show sgF 2 _ from ⟨by decide, by decide⟩) (fun H locs hBn => ?_)
                clear hB; have hB := hBn; clear hBn
                have hI9 := si_of hB.2 (SI_PI (k := 5) hV9 hI9 (t := 13) ((hB.2.2.2.2.2.2.2.2.2.1 _ hj).2.2 _ hT).2 rfl (by decide))
                have hT9 := ta_of hB.2 (TA_PI (k9 := 5) (t := 13) hV9 hj hi hk hT hT9 ((hB.2.2.2.2.2.2.2.2.2.1 _ hj).2.2 _ hT).2 rfl)
                have hQ9 := tq_of hB.2 (TQ_PI (k9 := 5) (t := 13) hV9 hj hQ9 ((hB.2.2.2.2.2.2.2.2.2.1 _ hj).2.2 _ hT).2 (by decide))
                have hV9 := hB.2
                refine lv_aload_n hx hb dX9_passSound_147 rfl (lv_at hl 3 rfl) ?_
                refine lv_dup hx hb dX9_passSound_148 rfl ?_
                refine gf_X9_388 F hB dX9_passSound_149 ((hB.2.2.2.2.2.2.2.2.2.1 _ hj).2.2 _ hT).2 ?_
                refine lv_iload_n hx hb dX9_passSound_152 rfl (lv_at hl 4 rfl) ?_
                refine lv_iadd hx hb dX9_passSound_153 ?_
                refine pf_X9_388 F hB dX9_passSound_154 ((hB.2.2.2.2.2.2.2.2.2.1 _ hj).2.2 _ hT).2 (fun H locs hBn => ?_)
                clear hB; have hB := hBn; clear hBn
                have hI9 := si_of hB.2 (SI_done hV9 hI9 hj hi hk hT hQ9 hT9.2.1)
                have hQ9 := tq_of hB.2 (TQ_PI (k9 := 2) (t := 13) hV9 hj hQ9 ((hB.2.2.2.2.2.2.2.2.2.1 _ hj).2.2 _ hT).2 (by decide))
                have hV9 := hB.2
                refine lv_iconst (v := 0) hx hb dX9_passSound_157 (by decide) ?_
                exact cl_iret F hB hrt dX9_passSound_158 (by first | exact ⟨⟨_, rfl⟩, hI9, hQ9⟩ | exact ⟨⟨_, rfl⟩, SI_up hI9 (by omega), hQ9⟩ | fail "no road")
        · refine lv_iload hx hb dX9_passSound_29 (lv_at hl 4 rfl) ?_
          refine lv_bipush (v := 100) hx hb dX9_passSound_31 (by decide) ?_
          refine lv_icmp_eq (tgt := 43) hx hb dX9_passSound_33 (by decide) (fun c33 => ?_) (fun c33 => ?_)
          · refine lv_iconst (v := 1) hx hb dX9_passSound_43 (by decide) ?_
            refine lv_goto (tgt := 48) hx hb dX9_passSound_44 (by decide) ?_
            refine lv_istore (lv' := [(5, .int _), (0, .ref _), (1, .ref _), (2, .ref _), (3, .int _), (4, .int _)]) hx hb dX9_passSound_48 hl (by decide) rfl (fun ls hl => ?_)
            refine lv_iload hx hb dX9_passSound_50 (lv_at hl 0 rfl) ?_
            refine lv_if_eq (tgt := 78) hx hb dX9_passSound_52 (by decide) (fun c52 => (by first | exact absurd c52 (by decide) | exact (c52 (by decide)).elim)) (fun c52 => ?_)
            refine lv_aload_n hx hb dX9_passSound_55 rfl (lv_at hl 1 rfl) ?_
            obtain ⟨sn, hsn, tsn⟩ := sn_of hB.2
            refine gr_X9_59 F hB dX9_passSound_56 hB.2.2.1.1 hsn ?_
            refine lv_dup hx hb dX9_passSound_59 rfl ?_
            refine gf_X9_481 F hB dX9_passSound_60 tsn ?_
            refine lv_iconst (v := 1) hx hb dX9_passSound_63 (by decide) ?_
            refine lv_iadd hx hb dX9_passSound_64 ?_
            refine pf_X9_481 F hB dX9_passSound_65 tsn (fun H locs hBn => ?_)
            clear hB; have hB := hBn; clear hBn
            have hI9 := si_of hB.2 (SI_PI (k := 1) hV9 hI9 (t := 12) tsn rfl (by decide))
            have hT9 := ta_of hB.2 (TA_PI (k9 := 1) (t := 12) hV9 hj hi hk hT hT9 tsn rfl)
            have hQ9 := tq_of hB.2 (TQ_PI (k9 := 1) (t := 12) hV9 hj hQ9 tsn (by decide))
            have hV9 := hB.2
            refine lv_aload_n hx hb dX9_passSound_68 rfl (lv_at hl 2 rfl) ?_
            refine lv_dup hx hb dX9_passSound_69 rfl ?_
            refine gf_X9_629 F hB dX9_passSound_70 (hB.2.2.2.2.2.2.1 _ _ hi hk).1 ?_
            refine lv_iload_n hx hb dX9_passSound_73 rfl (lv_at hl 4 rfl) ?_
            refine lv_iadd hx hb dX9_passSound_74 ?_
            refine pf_X9_629 F hB dX9_passSound_75 (hB.2.2.2.2.2.2.1 _ _ hi hk).1 (fun H locs hBn => ?_)
            clear hB; have hB := hBn; clear hBn
            have hS9 := SI_sent hV9 hI9 hi hk hT9.2.1 h8 hB9
            have hG9 := hS9.2
            have hI9 := si_of hB.2 hS9.1
            have hT9 := ta_of hB.2 (TA_PI (k9 := 6) (t := 8) hV9 hj hi hk hT hT9 (hB.2.2.2.2.2.2.1 _ _ hi hk).1 rfl)
            have hQ9 := tq_of hB.2 (TQ_PI (k9 := 6) (t := 8) hV9 hj hQ9 (hB.2.2.2.2.2.2.1 _ _ hi hk).1 (by decide))
            have hV9 := hB.2
            refine lv_iload hx hb dX9_passSound_78 (lv_at hl 5 rfl) ?_
            refine lv_bipush (v := 32) hx hb dX9_passSound_80 (by decide) ?_
            refine lv_icmp_eq (tgt := 93) hx hb dX9_passSound_82 (by decide) (fun c82 => ?_) (fun c82 => ?_)
            · refine lv_aload_n hx hb dX9_passSound_93 rfl (lv_at hl 2 rfl) ?_
              refine gf_X9_144 F hB dX9_passSound_94 (hB.2.2.2.2.2.2.1 _ _ hi hk).1 ?_
              refine lv_if_eq (tgt := 109) hx hb dX9_passSound_97 (by decide) (fun c97 => ?_) (fun c97 => ?_)
              · have hw9 := gp_of (i := i) (k := k) (n := n.toInt) (B := B + 8) hB.2 (by first | exact hG9 ((c_nk (by decide)).symm.trans c97) | exact absurd c82 c26)
                have hI9 := si_of (B := B + 8) hB.2 (by first | exact hI9 | exact absurd c82 c26)
                refine lv_aload_n hx hb dX9_passSound_109 rfl (lv_at hl 2 rfl) ?_
                refine lv_aload_n hx hb dX9_passSound_110 rfl (lv_at hl 3 rfl) ?_
                refine lv_iload_n hx hb dX9_passSound_111 rfl (lv_at hl 4 rfl) ?_
                refine cl_callN (ci := 7) F hB (k_tkf l D cy hB.2 hj hi hk hT _ hw9.2.2 (by have q := hw9.1; have q2 := hw9.2.1; omega) _) ⟨va_cnB 2 F.1.2.2.2.2 (vgN (vm_1 _ (List.mem_of_getElem? (i := 12) rfl))) rfl rfl rfl (F.2.2.1.1 _ nf_138) (F.1.2.2.2.2 _ (List.mem_cons_of_mem _ (vm_1 _ (List.mem_of_getElem? (i := 4) rfl)))) ⟨by decide, by decide, by decide +kernel⟩ ⟨Nat.le_of_ble_eq_true rfl, Nat.le_of_ble_eq_true rfl⟩, F.1.2.2.2.2 _ (List.mem_cons_of_mem _ (vm_9 _ (List.mem_of_getElem? (i := 11) rfl))), F.1.2.2.2.2 _ (List.mem_cons_of_mem _ (vm_9 _ (List.mem_of_getElem? (i := 12) rfl)))⟩ rfl rfl (by decide) rfl hl.1 rfl (Nat.le_of_ble_eq_true rfl) dX9_passSound_112 ⟨Nat.le_of_ble_eq_true rfl, Nat.le_of_ble_eq_true rfl⟩ (hB.2.2.2.2.2.2.1 _ _ hi hk).1 (fun H locs v σ112 hB hP => ?_)
                obtain ⟨rfl, hR112, hx112⟩ := hP
                have hI9 := SI_ad hV9 hI9 hi hk hR112 (fun _ => by have q := hw9.1; omega)
                have hT9 := TA_ad hV9 hj hi hk hT (hV9.2.2.2.2.2.1 _ _ hi hk).2.2 hR112 hT9
                have hQ9 := TQ_ad hV9 hj (hV9.2.2.2.2.2.1 _ _ hi hk).2.2 hR112 hQ9
                have hV9 := hB.2
                refine lv_aload_n hx hb dX9_passSound_115 rfl (lv_at hl 2 rfl) ?_
                refine gf_X9_144 F hB dX9_passSound_116 (hB.2.2.2.2.2.2.1 _ _ hi hk).1 ?_
                refine lv_if_eq (tgt := 147) hx hb dX9_passSound_119 (by decide) (fun c119 => ?_) (fun c119 => ?_)
                · refine lv_aload_n hx hb dX9_passSound_147 rfl (lv_at hl 3 rfl) ?_
                  refine lv_dup hx hb dX9_passSound_148 rfl ?_
                  refine gf_X9_388 F hB dX9_passSound_149 ((hB.2.2.2.2.2.2.2.2.2.1 _ hj).2.2 _ hT).2 ?_
                  refine lv_iload_n hx hb dX9_passSound_152 rfl (lv_at hl 4 rfl) ?_
                  refine lv_iadd hx hb dX9_passSound_153 ?_
                  refine pf_X9_388 F hB dX9_passSound_154 ((hB.2.2.2.2.2.2.2.2.2.1 _ hj).2.2 _ hT).2 (fun H locs hBn => ?_)
                  clear hB; have hB := hBn; clear hBn
                  have hI9 := si_of hB.2 (SI_done hV9 hI9 hj hi hk hT hQ9 hT9.2.1)
                  have hQ9 := tq_of hB.2 (TQ_PI (k9 := 2) (t := 13) hV9 hj hQ9 ((hB.2.2.2.2.2.2.2.2.2.1 _ hj).2.2 _ hT).2 (by decide))
                  have hV9 := hB.2
                  refine lv_iconst (v := 0) hx hb dX9_passSound_157 (by decide) ?_
                  exact cl_iret F hB hrt dX9_passSound_158 (by first | exact ⟨⟨_, rfl⟩, hI9, hQ9⟩ | exact ⟨⟨_, rfl⟩, SI_up hI9 (by omega), hQ9⟩ | fail "no road")
                · refine lv_aload_n hx hb dX9_passSound_122 rfl (lv_at hl 2 rfl) ?_
                  refine gr_X9_395 F hB dX9_passSound_123 (hB.2.2.2.2.2.2.1 _ _ hi hk).1 (hB.2.2.2.2.2.2.1 _ _ hi hk).2.1 ?_
                  refine lv_iload_n hx hb dX9_passSound_126 rfl (lv_at hl 4 rfl) ?_
                  refine cl_vi (n := 0) (NC := 0) (av := [.ref (yr Y i k), .int n]) hB (vi_crVN F.1 (m_ByteRow_drop_17 l D cy hst) ⟨va_cnB 1 F.1.2.2.2.2 (vgN (vm_0 _ (List.mem_of_getElem? (i := 11) rfl))) rfl rfl rfl (F.2.2.1.1 _ nf_124) (F.1.2.2.2.2 _ (List.mem_cons_of_mem _ (vm_0 _ (List.mem_of_getElem? (i := 23) rfl)))) ⟨by decide, by decide, by decide +kernel⟩ ⟨Nat.le_of_ble_eq_true rfl, Nat.le_of_ble_eq_true rfl⟩, F.1.2.2.2.2 _ (List.mem_cons_of_mem _ (vm_1 _ (List.mem_of_getElem? (i := 17) rfl))), F.1.2.2.2.2 _ (List.mem_cons_of_mem _ (vm_1 _ (List.mem_of_getElem? (i := 18) rfl)))⟩ rfl ⟨_, _, _, _, _, _, rfl, rfl, rfl, rfl⟩ F.2.1 F.2.2.1 hs (fun _ _ _ _ => True.intro) (fun q hq => Or.inr hq) ⟨Nat.le_refl _, Nat.le_refl _⟩) hl.1 rfl (by intro j9 a9 x9 g1 g2; exact match j9, g1, g2 with | 0, g1, g2 => by cases g1; cases g2; exact okr (en_row hB.2 hi hk) | 1, g1, g2 => by cases g1; cases g2; exact ⟨_, rfl, cl_full _⟩ | n + 2, g1, g2 => by cases g1) (fun f hf => by cases hf) (Nat.le_of_ble_eq_true rfl) (by decide +kernel) (by decide) dX9_passSound_127 rfl (fun alt ha127 H locs v σ127 w127 hB hk127 ht127 hs127 hA127 => ?_)
                  have hv127 := vi_voids (by decide) ha127 hA127
                  subst hv127
                  have hI9 := SI_kept hV9 hB.2 hk127 (by decide +kernel) hI9
                  have hT9 := TA_kept hV9 hB.2 hk127 (by decide +kernel) hj hi hk hT hT9
                  have hQ9 := TQ_kept hV9 hB.2 hk127 (by decide +kernel) hj hQ9
                  have hV9 := hB.2
                  refine lv_aload_n hx hb dX9_passSound_130 rfl (lv_at hl 3 rfl) ?_
                  refine lv_iload_n hx hb dX9_passSound_131 rfl (lv_at hl 4 rfl) ?_
                  refine lv_aload_n hx hb dX9_passSound_132 rfl (lv_at hl 2 rfl) ?_
                  refine gf_X9_147 F hB dX9_passSound_133 (hB.2.2.2.2.2.2.1 _ _ hi hk).1 ?_
                  refine lv_icmp_ge (tgt := 143) hx hb dX9_passSound_136 (by decide) (fun c136 => ?_) (fun c136 => ?_)
                  · refine lv_iconst (v := 0) hx hb dX9_passSound_143 (by decide) ?_
                    refine pf_X9_626 F hB dX9_passSound_144 ((hB.2.2.2.2.2.2.2.2.2.1 _ hj).2.2 _ hT).2 (show sgF 2 _ from ⟨by decide, by decide⟩) (fun H locs hBn => ?_)
                    clear hB; have hB := hBn; clear hBn
                    have hI9 := si_of hB.2 (SI_PI (k := 5) hV9 hI9 (t := 13) ((hB.2.2.2.2.2.2.2.2.2.1 _ hj).2.2 _ hT).2 rfl (by decide))
                    have hT9 := ta_of hB.2 (TA_PI (k9 := 5) (t := 13) hV9 hj hi hk hT hT9 ((hB.2.2.2.2.2.2.2.2.2.1 _ hj).2.2 _ hT).2 rfl)
                    have hQ9 := tq_of hB.2 (TQ_PI (k9 := 5) (t := 13) hV9 hj hQ9 ((hB.2.2.2.2.2.2.2.2.2.1 _ hj).2.2 _ hT).2 (by decide))
                    have hV9 := hB.2
                    refine lv_aload_n hx hb dX9_passSound_147 rfl (lv_at hl 3 rfl) ?_
                    refine lv_dup hx hb dX9_passSound_148 rfl ?_
                    refine gf_X9_388 F hB dX9_passSound_149 ((hB.2.2.2.2.2.2.2.2.2.1 _ hj).2.2 _ hT).2 ?_
                    refine lv_iload_n hx hb dX9_passSound_152 rfl (lv_at hl 4 rfl) ?_
                    refine lv_iadd hx hb dX9_passSound_153 ?_
                    refine pf_X9_388 F hB dX9_passSound_154 ((hB.2.2.2.2.2.2.2.2.2.1 _ hj).2.2 _ hT).2 (fun H locs hBn => ?_)
                    clear hB; have hB := hBn; clear hBn
                    have hI9 := si_of hB.2 (SI_done hV9 hI9 hj hi hk hT hQ9 hT9.2.1)
                    have hQ9 := tq_of hB.2 (TQ_PI (k9 := 2) (t := 13) hV9 hj hQ9 ((hB.2.2.2.2.2.2.2.2.2.1 _ hj).2.2 _ hT).2 (by decide))
                    have hV9 := hB.2
                    refine lv_iconst (v := 0) hx hb dX9_passSound_157 (by decide) ?_
                    exact cl_iret F hB hrt dX9_passSound_158 (by first | exact ⟨⟨_, rfl⟩, hI9, hQ9⟩ | exact ⟨⟨_, rfl⟩, SI_up hI9 (by omega), hQ9⟩ | fail "no road")
                  · refine lv_iconst (v := 1) hx hb dX9_passSound_139 (by decide) ?_
                    refine lv_goto (tgt := 144) hx hb dX9_passSound_140 (by decide) ?_
                    refine pf_X9_626 F hB dX9_passSound_144 ((hB.2.2.2.2.2.2.2.2.2.1 _ hj).2.2 _ hT).2 (show sgF 2 _ from ⟨by decide, by decide⟩) (fun H locs hBn => ?_)
                    clear hB; have hB := hBn; clear hBn
                    have hI9 := si_of hB.2 (SI_PI (k := 5) hV9 hI9 (t := 13) ((hB.2.2.2.2.2.2.2.2.2.1 _ hj).2.2 _ hT).2 rfl (by decide))
                    have hT9 := ta_of hB.2 (TA_PI (k9 := 5) (t := 13) hV9 hj hi hk hT hT9 ((hB.2.2.2.2.2.2.2.2.2.1 _ hj).2.2 _ hT).2 rfl)
                    have hQ9 := tq_of hB.2 (TQ_PI (k9 := 5) (t := 13) hV9 hj hQ9 ((hB.2.2.2.2.2.2.2.2.2.1 _ hj).2.2 _ hT).2 (by decide))
                    have hV9 := hB.2
                    refine lv_aload_n hx hb dX9_passSound_147 rfl (lv_at hl 3 rfl) ?_
                    refine lv_dup hx hb dX9_passSound_148 rfl ?_
                    refine gf_X9_388 F hB dX9_passSound_149 ((hB.2.2.2.2.2.2.2.2.2.1 _ hj).2.2 _ hT).2 ?_
                    refine lv_iload_n hx hb dX9_passSound_152 rfl (lv_at hl 4 rfl) ?_
                    refine lv_iadd hx hb dX9_passSound_153 ?_
                    refine pf_X9_388 F hB dX9_passSound_154 ((hB.2.2.2.2.2.2.2.2.2.1 _ hj).2.2 _ hT).2 (fun H locs hBn => ?_)
                    clear hB; have hB := hBn; clear hBn
                    have hI9 := si_of hB.2 (SI_done hV9 hI9 hj hi hk hT hQ9 hT9.2.1)
                    have hQ9 := tq_of hB.2 (TQ_PI (k9 := 2) (t := 13) hV9 hj hQ9 ((hB.2.2.2.2.2.2.2.2.2.1 _ hj).2.2 _ hT).2 (by decide))
                    have hV9 := hB.2
                    refine lv_iconst (v := 0) hx hb dX9_passSound_157 (by decide) ?_
                    exact cl_iret F hB hrt dX9_passSound_158 (by first | exact ⟨⟨_, rfl⟩, hI9, hQ9⟩ | exact ⟨⟨_, rfl⟩, SI_up hI9 (by omega), hQ9⟩ | fail "no road")
              · refine lv_aload_n hx hb dX9_passSound_100 rfl (lv_at hl 1 rfl) ?_
                refine lv_aload_n hx hb dX9_passSound_101 rfl (lv_at hl 2 rfl) ?_
                refine lv_iload_n hx hb dX9_passSound_102 rfl (lv_at hl 4 rfl) ?_
                refine cl_vi (n := 0) (NC := 0) (av := [.ref (yX Y), .ref (ye Y i k), .int n]) hB (vi_crV F.1 (m_Hubcascade_receive_0 l D cy hst) (cwV 2 F.1.2.2.2.2 (vgV (vm_9 _ (List.mem_of_getElem? (i := 8) rfl)) (vm_9 _ (List.mem_of_getElem? (i := 9) rfl)) (vm_9 _ (List.mem_of_getElem? (i := 10) rfl)) (vm_4 _ (List.mem_of_getElem? (i := 20) rfl)) (vm_9 _ (List.mem_of_getElem? (i := 7) rfl))) rfl rfl rfl ⟨rfl, by decide, by decide, by decide +kernel⟩ ⟨Nat.le_of_ble_eq_true rfl, Nat.le_of_ble_eq_true rfl⟩) rfl ⟨_, _, _, _, _, _, rfl, rfl, rfl, rfl⟩ F.2.1 F.2.2.1 hs (fun _ _ _ _ => True.intro) (fun q hq => Or.inr hq) ⟨Nat.le_refl _, Nat.le_refl _⟩) hl.1 rfl (by intro j9 a9 x9 g1 g2; exact match j9, g1, g2 with | 0, g1, g2 => by cases g1; cases g2; exact okr (cl_kd (kd := 0) hB.2.1 hB.2.2.1.1 (by decide) (by decide +kernel)) | 1, g1, g2 => by cases g1; cases g2; exact okr (cl_kd (kd := 5) hB.2.1 (hB.2.2.2.2.2.2.1 _ _ hi hk).1 (by decide) (by decide +kernel)) | 2, g1, g2 => by cases g1; cases g2; exact ⟨_, rfl, (cl_full _).1, h8⟩ | n + 3, g1, g2 => by cases g1) (fun f hf => by cases hf) (Nat.le_of_ble_eq_true rfl) (by decide +kernel) (by decide) dX9_passSound_103 rfl (fun alt ha103 H locs v σ103 w103 hB hk103 ht103 hs103 hA103 => ?_)
                have hv103 := vi_voids (by decide) ha103 hA103
                subst hv103
                have hI9 := SI_kept hV9 hB.2 hk103 (by decide +kernel) hI9
                have hT9 := TA_kept hV9 hB.2 hk103 (by decide +kernel) hj hi hk hT hT9
                have hQ9 := TQ_kept hV9 hB.2 hk103 (by decide +kernel) hj hQ9
                have hV9 := hB.2
                refine lv_goto (tgt := 115) hx hb dX9_passSound_106 (by decide) ?_
                refine lv_aload_n hx hb dX9_passSound_115 rfl (lv_at hl 2 rfl) ?_
                refine gf_X9_144 F hB dX9_passSound_116 (hB.2.2.2.2.2.2.1 _ _ hi hk).1 ?_
                refine lv_if_eq (tgt := 147) hx hb dX9_passSound_119 (by decide) (fun c119 => ?_) (fun c119 => ?_)
                · refine lv_aload_n hx hb dX9_passSound_147 rfl (lv_at hl 3 rfl) ?_
                  refine lv_dup hx hb dX9_passSound_148 rfl ?_
                  refine gf_X9_388 F hB dX9_passSound_149 ((hB.2.2.2.2.2.2.2.2.2.1 _ hj).2.2 _ hT).2 ?_
                  refine lv_iload_n hx hb dX9_passSound_152 rfl (lv_at hl 4 rfl) ?_
                  refine lv_iadd hx hb dX9_passSound_153 ?_
                  refine pf_X9_388 F hB dX9_passSound_154 ((hB.2.2.2.2.2.2.2.2.2.1 _ hj).2.2 _ hT).2 (fun H locs hBn => ?_)
                  clear hB; have hB := hBn; clear hBn
                  have hI9 := si_of hB.2 (SI_done hV9 hI9 hj hi hk hT hQ9 hT9.2.1)
                  have hQ9 := tq_of hB.2 (TQ_PI (k9 := 2) (t := 13) hV9 hj hQ9 ((hB.2.2.2.2.2.2.2.2.2.1 _ hj).2.2 _ hT).2 (by decide))
                  have hV9 := hB.2
                  refine lv_iconst (v := 0) hx hb dX9_passSound_157 (by decide) ?_
                  exact cl_iret F hB hrt dX9_passSound_158 (by first | exact ⟨⟨_, rfl⟩, hI9, hQ9⟩ | exact ⟨⟨_, rfl⟩, SI_up hI9 (by omega), hQ9⟩ | fail "no road")
                · refine lv_aload_n hx hb dX9_passSound_122 rfl (lv_at hl 2 rfl) ?_
                  refine gr_X9_395 F hB dX9_passSound_123 (hB.2.2.2.2.2.2.1 _ _ hi hk).1 (hB.2.2.2.2.2.2.1 _ _ hi hk).2.1 ?_
                  refine lv_iload_n hx hb dX9_passSound_126 rfl (lv_at hl 4 rfl) ?_
                  refine cl_vi (n := 0) (NC := 0) (av := [.ref (yr Y i k), .int n]) hB (vi_crVN F.1 (m_ByteRow_drop_17 l D cy hst) ⟨va_cnB 1 F.1.2.2.2.2 (vgN (vm_0 _ (List.mem_of_getElem? (i := 11) rfl))) rfl rfl rfl (F.2.2.1.1 _ nf_124) (F.1.2.2.2.2 _ (List.mem_cons_of_mem _ (vm_0 _ (List.mem_of_getElem? (i := 23) rfl)))) ⟨by decide, by decide, by decide +kernel⟩ ⟨Nat.le_of_ble_eq_true rfl, Nat.le_of_ble_eq_true rfl⟩, F.1.2.2.2.2 _ (List.mem_cons_of_mem _ (vm_1 _ (List.mem_of_getElem? (i := 17) rfl))), F.1.2.2.2.2 _ (List.mem_cons_of_mem _ (vm_1 _ (List.mem_of_getElem? (i := 18) rfl)))⟩ rfl ⟨_, _, _, _, _, _, rfl, rfl, rfl, rfl⟩ F.2.1 F.2.2.1 hs (fun _ _ _ _ => True.intro) (fun q hq => Or.inr hq) ⟨Nat.le_refl _, Nat.le_refl _⟩) hl.1 rfl (by intro j9 a9 x9 g1 g2; exact match j9, g1, g2 with | 0, g1, g2 => by cases g1; cases g2; exact okr (en_row hB.2 hi hk) | 1, g1, g2 => by cases g1; cases g2; exact ⟨_, rfl, cl_full _⟩ | n + 2, g1, g2 => by cases g1) (fun f hf => by cases hf) (Nat.le_of_ble_eq_true rfl) (by decide +kernel) (by decide) dX9_passSound_127 rfl (fun alt ha127 H locs v σ127 w127 hB hk127 ht127 hs127 hA127 => ?_)
                  have hv127 := vi_voids (by decide) ha127 hA127
                  subst hv127
                  have hI9 := SI_kept hV9 hB.2 hk127 (by decide +kernel) hI9
                  have hT9 := TA_kept hV9 hB.2 hk127 (by decide +kernel) hj hi hk hT hT9
                  have hQ9 := TQ_kept hV9 hB.2 hk127 (by decide +kernel) hj hQ9
                  have hV9 := hB.2
                  refine lv_aload_n hx hb dX9_passSound_130 rfl (lv_at hl 3 rfl) ?_
                  refine lv_iload_n hx hb dX9_passSound_131 rfl (lv_at hl 4 rfl) ?_
                  refine lv_aload_n hx hb dX9_passSound_132 rfl (lv_at hl 2 rfl) ?_
                  refine gf_X9_147 F hB dX9_passSound_133 (hB.2.2.2.2.2.2.1 _ _ hi hk).1 ?_
                  refine lv_icmp_ge (tgt := 143) hx hb dX9_passSound_136 (by decide) (fun c136 => ?_) (fun c136 => ?_)
                  · refine lv_iconst (v := 0) hx hb dX9_passSound_143 (by decide) ?_
                    refine pf_X9_626 F hB dX9_passSound_144 ((hB.2.2.2.2.2.2.2.2.2.1 _ hj).2.2 _ hT).2 (show sgF 2 _ from ⟨by decide, by decide⟩) (fun H locs hBn => ?_)
                    clear hB; have hB := hBn; clear hBn
                    have hI9 := si_of hB.2 (SI_PI (k := 5) hV9 hI9 (t := 13) ((hB.2.2.2.2.2.2.2.2.2.1 _ hj).2.2 _ hT).2 rfl (by decide))
                    have hT9 := ta_of hB.2 (TA_PI (k9 := 5) (t := 13) hV9 hj hi hk hT hT9 ((hB.2.2.2.2.2.2.2.2.2.1 _ hj).2.2 _ hT).2 rfl)
                    have hQ9 := tq_of hB.2 (TQ_PI (k9 := 5) (t := 13) hV9 hj hQ9 ((hB.2.2.2.2.2.2.2.2.2.1 _ hj).2.2 _ hT).2 (by decide))
                    have hV9 := hB.2
                    refine lv_aload_n hx hb dX9_passSound_147 rfl (lv_at hl 3 rfl) ?_
                    refine lv_dup hx hb dX9_passSound_148 rfl ?_
                    refine gf_X9_388 F hB dX9_passSound_149 ((hB.2.2.2.2.2.2.2.2.2.1 _ hj).2.2 _ hT).2 ?_
                    refine lv_iload_n hx hb dX9_passSound_152 rfl (lv_at hl 4 rfl) ?_
                    refine lv_iadd hx hb dX9_passSound_153 ?_
                    refine pf_X9_388 F hB dX9_passSound_154 ((hB.2.2.2.2.2.2.2.2.2.1 _ hj).2.2 _ hT).2 (fun H locs hBn => ?_)
                    clear hB; have hB := hBn; clear hBn
                    have hI9 := si_of hB.2 (SI_done hV9 hI9 hj hi hk hT hQ9 hT9.2.1)
                    have hQ9 := tq_of hB.2 (TQ_PI (k9 := 2) (t := 13) hV9 hj hQ9 ((hB.2.2.2.2.2.2.2.2.2.1 _ hj).2.2 _ hT).2 (by decide))
                    have hV9 := hB.2
                    refine lv_iconst (v := 0) hx hb dX9_passSound_157 (by decide) ?_
                    exact cl_iret F hB hrt dX9_passSound_158 (by first | exact ⟨⟨_, rfl⟩, hI9, hQ9⟩ | exact ⟨⟨_, rfl⟩, SI_up hI9 (by omega), hQ9⟩ | fail "no road")
                  · refine lv_iconst (v := 1) hx hb dX9_passSound_139 (by decide) ?_
                    refine lv_goto (tgt := 144) hx hb dX9_passSound_140 (by decide) ?_
                    refine pf_X9_626 F hB dX9_passSound_144 ((hB.2.2.2.2.2.2.2.2.2.1 _ hj).2.2 _ hT).2 (show sgF 2 _ from ⟨by decide, by decide⟩) (fun H locs hBn => ?_)
                    clear hB; have hB := hBn; clear hBn
                    have hI9 := si_of hB.2 (SI_PI (k := 5) hV9 hI9 (t := 13) ((hB.2.2.2.2.2.2.2.2.2.1 _ hj).2.2 _ hT).2 rfl (by decide))
                    have hT9 := ta_of hB.2 (TA_PI (k9 := 5) (t := 13) hV9 hj hi hk hT hT9 ((hB.2.2.2.2.2.2.2.2.2.1 _ hj).2.2 _ hT).2 rfl)
                    have hQ9 := tq_of hB.2 (TQ_PI (k9 := 5) (t := 13) hV9 hj hQ9 ((hB.2.2.2.2.2.2.2.2.2.1 _ hj).2.2 _ hT).2 (by decide))
                    have hV9 := hB.2
                    refine lv_aload_n hx hb dX9_passSound_147 rfl (lv_at hl 3 rfl) ?_
                    refine lv_dup hx hb dX9_passSound_148 rfl ?_
                    refine gf_X9_388 F hB dX9_passSound_149 ((hB.2.2.2.2.2.2.2.2.2.1 _ hj).2.2 _ hT).2 ?_
                    refine lv_iload_n hx hb dX9_passSound_152 rfl (lv_at hl 4 rfl) ?_
                    refine lv_iadd hx hb dX9_passSound_153 ?_
                    refine pf_X9_388 F hB dX9_passSound_154 ((hB.2.2.2.2.2.2.2.2.2.1 _ hj).2.2 _ hT).2 (fun H locs hBn => ?_)
                    clear hB; have hB := hBn; clear hBn
                    have hI9 := si_of hB.2 (SI_done hV9 hI9 hj hi hk hT hQ9 hT9.2.1)
                    have hQ9 := tq_of hB.2 (TQ_PI (k9 := 2) (t := 13) hV9 hj hQ9 ((hB.2.2.2.2.2.2.2.2.2.1 _ hj).2.2 _ hT).2 (by decide))
                    have hV9 := hB.2
                    refine lv_iconst (v := 0) hx hb dX9_passSound_157 (by decide) ?_
                    exact cl_iret F hB hrt dX9_passSound_158 (by first | exact ⟨⟨_, rfl⟩, hI9, hQ9⟩ | exact ⟨⟨_, rfl⟩, SI_up hI9 (by omega), hQ9⟩ | fail "no road")
            · refine lv_aload_n hx hb dX9_passSound_85 rfl (lv_at hl 3 rfl) ?_
              refine lv_iconst (v := 1) hx hb dX9_passSound_86 (by decide) ?_
              refine pf_X9_623 F hB dX9_passSound_87 ((hB.2.2.2.2.2.2.2.2.2.1 _ hj).2.2 _ hT).2 ⟨by decide, by decide⟩ (fun H locs hBn => ?_)
              clear hB; have hB := hBn; clear hBn
              have hI9 := si_of hB.2 (SI_PI (k := 4) hV9 hI9 (t := 13) ((hB.2.2.2.2.2.2.2.2.2.1 _ hj).2.2 _ hT).2 rfl (by decide))
              have hT9 := ta_of hB.2 (TA_PI (k9 := 4) (t := 13) hV9 hj hi hk hT hT9 ((hB.2.2.2.2.2.2.2.2.2.1 _ hj).2.2 _ hT).2 rfl)
              have hQ9 := tq_of hB.2 (TQ_PI (k9 := 4) (t := 13) hV9 hj hQ9 ((hB.2.2.2.2.2.2.2.2.2.1 _ hj).2.2 _ hT).2 (by decide))
              have hV9 := hB.2
              refine lv_goto (tgt := 115) hx hb dX9_passSound_90 (by decide) ?_
              refine lv_aload_n hx hb dX9_passSound_115 rfl (lv_at hl 2 rfl) ?_
              refine gf_X9_144 F hB dX9_passSound_116 (hB.2.2.2.2.2.2.1 _ _ hi hk).1 ?_
              refine lv_if_eq (tgt := 147) hx hb dX9_passSound_119 (by decide) (fun c119 => ?_) (fun c119 => ?_)
              · refine lv_aload_n hx hb dX9_passSound_147 rfl (lv_at hl 3 rfl) ?_
                refine lv_dup hx hb dX9_passSound_148 rfl ?_
                refine gf_X9_388 F hB dX9_passSound_149 ((hB.2.2.2.2.2.2.2.2.2.1 _ hj).2.2 _ hT).2 ?_
                refine lv_iload_n hx hb dX9_passSound_152 rfl (lv_at hl 4 rfl) ?_
                refine lv_iadd hx hb dX9_passSound_153 ?_
                refine pf_X9_388 F hB dX9_passSound_154 ((hB.2.2.2.2.2.2.2.2.2.1 _ hj).2.2 _ hT).2 (fun H locs hBn => ?_)
                clear hB; have hB := hBn; clear hBn
                have hI9 := si_of hB.2 (SI_done hV9 hI9 hj hi hk hT hQ9 hT9.2.1)
                have hQ9 := tq_of hB.2 (TQ_PI (k9 := 2) (t := 13) hV9 hj hQ9 ((hB.2.2.2.2.2.2.2.2.2.1 _ hj).2.2 _ hT).2 (by decide))
                have hV9 := hB.2
                refine lv_iconst (v := 0) hx hb dX9_passSound_157 (by decide) ?_
                exact cl_iret F hB hrt dX9_passSound_158 (by first | exact ⟨⟨_, rfl⟩, hI9, hQ9⟩ | exact ⟨⟨_, rfl⟩, SI_up hI9 (by omega), hQ9⟩ | fail "no road")
              · refine lv_aload_n hx hb dX9_passSound_122 rfl (lv_at hl 2 rfl) ?_
                refine gr_X9_395 F hB dX9_passSound_123 (hB.2.2.2.2.2.2.1 _ _ hi hk).1 (hB.2.2.2.2.2.2.1 _ _ hi hk).2.1 ?_
                refine lv_iload_n hx hb dX9_passSound_126 rfl (lv_at hl 4 rfl) ?_
                refine cl_vi (n := 0) (NC := 0) (av := [.ref (yr Y i k), .int n]) hB (vi_crVN F.1 (m_ByteRow_drop_17 l D cy hst) ⟨va_cnB 1 F.1.2.2.2.2 (vgN (vm_0 _ (List.mem_of_getElem? (i := 11) rfl))) rfl rfl rfl (F.2.2.1.1 _ nf_124) (F.1.2.2.2.2 _ (List.mem_cons_of_mem _ (vm_0 _ (List.mem_of_getElem? (i := 23) rfl)))) ⟨by decide, by decide, by decide +kernel⟩ ⟨Nat.le_of_ble_eq_true rfl, Nat.le_of_ble_eq_true rfl⟩, F.1.2.2.2.2 _ (List.mem_cons_of_mem _ (vm_1 _ (List.mem_of_getElem? (i := 17) rfl))), F.1.2.2.2.2 _ (List.mem_cons_of_mem _ (vm_1 _ (List.mem_of_getElem? (i := 18) rfl)))⟩ rfl ⟨_, _, _, _, _, _, rfl, rfl, rfl, rfl⟩ F.2.1 F.2.2.1 hs (fun _ _ _ _ => True.intro) (fun q hq => Or.inr hq) ⟨Nat.le_refl _, Nat.le_refl _⟩) hl.1 rfl (by intro j9 a9 x9 g1 g2; exact match j9, g1, g2 with | 0, g1, g2 => by cases g1; cases g2; exact okr (en_row hB.2 hi hk) | 1, g1, g2 => by cases g1; cases g2; exact ⟨_, rfl, cl_full _⟩ | n + 2, g1, g2 => by cases g1) (fun f hf => by cases hf) (Nat.le_of_ble_eq_true rfl) (by decide +kernel) (by decide) dX9_passSound_127 rfl (fun alt ha127 H locs v σ127 w127 hB hk127 ht127 hs127 hA127 => ?_)
                have hv127 := vi_voids (by decide) ha127 hA127
                subst hv127
                have hI9 := SI_kept hV9 hB.2 hk127 (by decide +kernel) hI9
                have hT9 := TA_kept hV9 hB.2 hk127 (by decide +kernel) hj hi hk hT hT9
                have hQ9 := TQ_kept hV9 hB.2 hk127 (by decide +kernel) hj hQ9
                have hV9 := hB.2
                refine lv_aload_n hx hb dX9_passSound_130 rfl (lv_at hl 3 rfl) ?_
                refine lv_iload_n hx hb dX9_passSound_131 rfl (lv_at hl 4 rfl) ?_
                refine lv_aload_n hx hb dX9_passSound_132 rfl (lv_at hl 2 rfl) ?_
                refine gf_X9_147 F hB dX9_passSound_133 (hB.2.2.2.2.2.2.1 _ _ hi hk).1 ?_
                refine lv_icmp_ge (tgt := 143) hx hb dX9_passSound_136 (by decide) (fun c136 => ?_) (fun c136 => ?_)
                · refine lv_iconst (v := 0) hx hb dX9_passSound_143 (by decide) ?_
                  refine pf_X9_626 F hB dX9_passSound_144 ((hB.2.2.2.2.2.2.2.2.2.1 _ hj).2.2 _ hT).2 (show sgF 2 _ from ⟨by decide, by decide⟩) (fun H locs hBn => ?_)
                  clear hB; have hB := hBn; clear hBn
                  have hI9 := si_of hB.2 (SI_PI (k := 5) hV9 hI9 (t := 13) ((hB.2.2.2.2.2.2.2.2.2.1 _ hj).2.2 _ hT).2 rfl (by decide))
                  have hT9 := ta_of hB.2 (TA_PI (k9 := 5) (t := 13) hV9 hj hi hk hT hT9 ((hB.2.2.2.2.2.2.2.2.2.1 _ hj).2.2 _ hT).2 rfl)
                  have hQ9 := tq_of hB.2 (TQ_PI (k9 := 5) (t := 13) hV9 hj hQ9 ((hB.2.2.2.2.2.2.2.2.2.1 _ hj).2.2 _ hT).2 (by decide))
                  have hV9 := hB.2
                  refine lv_aload_n hx hb dX9_passSound_147 rfl (lv_at hl 3 rfl) ?_
                  refine lv_dup hx hb dX9_passSound_148 rfl ?_
                  refine gf_X9_388 F hB dX9_passSound_149 ((hB.2.2.2.2.2.2.2.2.2.1 _ hj).2.2 _ hT).2 ?_
                  refine lv_iload_n hx hb dX9_passSound_152 rfl (lv_at hl 4 rfl) ?_
                  refine lv_iadd hx hb dX9_passSound_153 ?_
                  refine pf_X9_388 F hB dX9_passSound_154 ((hB.2.2.2.2.2.2.2.2.2.1 _ hj).2.2 _ hT).2 (fun H locs hBn => ?_)
                  clear hB; have hB := hBn; clear hBn
                  have hI9 := si_of hB.2 (SI_done hV9 hI9 hj hi hk hT hQ9 hT9.2.1)
                  have hQ9 := tq_of hB.2 (TQ_PI (k9 := 2) (t := 13) hV9 hj hQ9 ((hB.2.2.2.2.2.2.2.2.2.1 _ hj).2.2 _ hT).2 (by decide))
                  have hV9 := hB.2
                  refine lv_iconst (v := 0) hx hb dX9_passSound_157 (by decide) ?_
                  exact cl_iret F hB hrt dX9_passSound_158 (by first | exact ⟨⟨_, rfl⟩, hI9, hQ9⟩ | exact ⟨⟨_, rfl⟩, SI_up hI9 (by omega), hQ9⟩ | fail "no road")
                · refine lv_iconst (v := 1) hx hb dX9_passSound_139 (by decide) ?_
                  refine lv_goto (tgt := 144) hx hb dX9_passSound_140 (by decide) ?_
                  refine pf_X9_626 F hB dX9_passSound_144 ((hB.2.2.2.2.2.2.2.2.2.1 _ hj).2.2 _ hT).2 (show sgF 2 _ from ⟨by decide, by decide⟩) (fun H locs hBn => ?_)
                  clear hB; have hB := hBn; clear hBn
                  have hI9 := si_of hB.2 (SI_PI (k := 5) hV9 hI9 (t := 13) ((hB.2.2.2.2.2.2.2.2.2.1 _ hj).2.2 _ hT).2 rfl (by decide))
                  have hT9 := ta_of hB.2 (TA_PI (k9 := 5) (t := 13) hV9 hj hi hk hT hT9 ((hB.2.2.2.2.2.2.2.2.2.1 _ hj).2.2 _ hT).2 rfl)
                  have hQ9 := tq_of hB.2 (TQ_PI (k9 := 5) (t := 13) hV9 hj hQ9 ((hB.2.2.2.2.2.2.2.2.2.1 _ hj).2.2 _ hT).2 (by decide))
                  have hV9 := hB.2
                  refine lv_aload_n hx hb dX9_passSound_147 rfl (lv_at hl 3 rfl) ?_
                  refine lv_dup hx hb dX9_passSound_148 rfl ?_
                  refine gf_X9_388 F hB dX9_passSound_149 ((hB.2.2.2.2.2.2.2.2.2.1 _ hj).2.2 _ hT).2 ?_
                  refine lv_iload_n hx hb dX9_passSound_152 rfl (lv_at hl 4 rfl) ?_
                  refine lv_iadd hx hb dX9_passSound_153 ?_
                  refine pf_X9_388 F hB dX9_passSound_154 ((hB.2.2.2.2.2.2.2.2.2.1 _ hj).2.2 _ hT).2 (fun H locs hBn => ?_)
                  clear hB; have hB := hBn; clear hBn
                  have hI9 := si_of hB.2 (SI_done hV9 hI9 hj hi hk hT hQ9 hT9.2.1)
                  have hQ9 := tq_of hB.2 (TQ_PI (k9 := 2) (t := 13) hV9 hj hQ9 ((hB.2.2.2.2.2.2.2.2.2.1 _ hj).2.2 _ hT).2 (by decide))
                  have hV9 := hB.2
                  refine lv_iconst (v := 0) hx hb dX9_passSound_157 (by decide) ?_
                  exact cl_iret F hB hrt dX9_passSound_158 (by first | exact ⟨⟨_, rfl⟩, hI9, hQ9⟩ | exact ⟨⟨_, rfl⟩, SI_up hI9 (by omega), hQ9⟩ | fail "no road")
          · refine lv_iload hx hb dX9_passSound_36 (lv_at hl 4 rfl) ?_
            refine lv_bipush (v := 97) hx hb dX9_passSound_38 (by decide) ?_
            refine lv_icmp_ne (tgt := 47) hx hb dX9_passSound_40 (by decide) (fun c40 => ?_) (fun c40 => ?_)
            · refine lv_iconst (v := 0) hx hb dX9_passSound_47 (by decide) ?_
              refine lv_istore (lv' := [(5, .int _), (0, .ref _), (1, .ref _), (2, .ref _), (3, .int _), (4, .int _)]) hx hb dX9_passSound_48 hl (by decide) rfl (fun ls hl => ?_)
              refine lv_iload hx hb dX9_passSound_50 (lv_at hl 0 rfl) ?_
              refine lv_if_eq (tgt := 78) hx hb dX9_passSound_52 (by decide) (fun c52 => ?_) (fun c52 => (by first | exact absurd c52 (by decide) | exact (c52 (by decide)).elim))
              refine lv_iload hx hb dX9_passSound_78 (lv_at hl 5 rfl) ?_
              refine lv_bipush (v := 32) hx hb dX9_passSound_80 (by decide) ?_
              refine lv_icmp_eq (tgt := 93) hx hb dX9_passSound_82 (by decide) (fun c82 => ?_) (fun c82 => ?_)
              · refine lv_aload_n hx hb dX9_passSound_93 rfl (lv_at hl 2 rfl) ?_
                refine gf_X9_144 F hB dX9_passSound_94 (hB.2.2.2.2.2.2.1 _ _ hi hk).1 ?_
                refine lv_if_eq (tgt := 109) hx hb dX9_passSound_97 (by decide) (fun c97 => ?_) (fun c97 => ?_)
                · have hw9 := gp_of (i := i) (k := k) (n := n.toInt) (B := B + 8) hB.2 (by first | exact hG9 ((c_nk (by decide)).symm.trans c97) | exact absurd c82 c26)
                  have hI9 := si_of (B := B + 8) hB.2 (by first | exact hI9 | exact absurd c82 c26)
                  refine lv_aload_n hx hb dX9_passSound_109 rfl (lv_at hl 2 rfl) ?_
                  refine lv_aload_n hx hb dX9_passSound_110 rfl (lv_at hl 3 rfl) ?_
                  refine lv_iload_n hx hb dX9_passSound_111 rfl (lv_at hl 4 rfl) ?_
                  refine cl_callN (ci := 7) F hB (k_tkf l D cy hB.2 hj hi hk hT _ hw9.2.2 (by have q := hw9.1; have q2 := hw9.2.1; omega) _) ⟨va_cnB 2 F.1.2.2.2.2 (vgN (vm_1 _ (List.mem_of_getElem? (i := 12) rfl))) rfl rfl rfl (F.2.2.1.1 _ nf_138) (F.1.2.2.2.2 _ (List.mem_cons_of_mem _ (vm_1 _ (List.mem_of_getElem? (i := 4) rfl)))) ⟨by decide, by decide, by decide +kernel⟩ ⟨Nat.le_of_ble_eq_true rfl, Nat.le_of_ble_eq_true rfl⟩, F.1.2.2.2.2 _ (List.mem_cons_of_mem _ (vm_9 _ (List.mem_of_getElem? (i := 11) rfl))), F.1.2.2.2.2 _ (List.mem_cons_of_mem _ (vm_9 _ (List.mem_of_getElem? (i := 12) rfl)))⟩ rfl rfl (by decide) rfl hl.1 rfl (Nat.le_of_ble_eq_true rfl) dX9_passSound_112 ⟨Nat.le_of_ble_eq_true rfl, Nat.le_of_ble_eq_true rfl⟩ (hB.2.2.2.2.2.2.1 _ _ hi hk).1 (fun H locs v σ112 hB hP => ?_)
                  obtain ⟨rfl, hR112, hx112⟩ := hP
                  have hI9 := SI_ad hV9 hI9 hi hk hR112 (fun _ => by have q := hw9.1; omega)
                  have hT9 := TA_ad hV9 hj hi hk hT (hV9.2.2.2.2.2.1 _ _ hi hk).2.2 hR112 hT9
                  have hQ9 := TQ_ad hV9 hj (hV9.2.2.2.2.2.1 _ _ hi hk).2.2 hR112 hQ9
                  have hV9 := hB.2
                  refine lv_aload_n hx hb dX9_passSound_115 rfl (lv_at hl 2 rfl) ?_
                  refine gf_X9_144 F hB dX9_passSound_116 (hB.2.2.2.2.2.2.1 _ _ hi hk).1 ?_
                  refine lv_if_eq (tgt := 147) hx hb dX9_passSound_119 (by decide) (fun c119 => ?_) (fun c119 => ?_)
                  · refine lv_aload_n hx hb dX9_passSound_147 rfl (lv_at hl 3 rfl) ?_
                    refine lv_dup hx hb dX9_passSound_148 rfl ?_
                    refine gf_X9_388 F hB dX9_passSound_149 ((hB.2.2.2.2.2.2.2.2.2.1 _ hj).2.2 _ hT).2 ?_
                    refine lv_iload_n hx hb dX9_passSound_152 rfl (lv_at hl 4 rfl) ?_
                    refine lv_iadd hx hb dX9_passSound_153 ?_
                    refine pf_X9_388 F hB dX9_passSound_154 ((hB.2.2.2.2.2.2.2.2.2.1 _ hj).2.2 _ hT).2 (fun H locs hBn => ?_)
                    clear hB; have hB := hBn; clear hBn
                    have hI9 := si_of hB.2 (SI_done hV9 hI9 hj hi hk hT hQ9 hT9.2.1)
                    have hQ9 := tq_of hB.2 (TQ_PI (k9 := 2) (t := 13) hV9 hj hQ9 ((hB.2.2.2.2.2.2.2.2.2.1 _ hj).2.2 _ hT).2 (by decide))
                    have hV9 := hB.2
                    refine lv_iconst (v := 0) hx hb dX9_passSound_157 (by decide) ?_
                    exact cl_iret F hB hrt dX9_passSound_158 (by first | exact ⟨⟨_, rfl⟩, hI9, hQ9⟩ | exact ⟨⟨_, rfl⟩, SI_up hI9 (by omega), hQ9⟩ | fail "no road")
                  · refine lv_aload_n hx hb dX9_passSound_122 rfl (lv_at hl 2 rfl) ?_
                    refine gr_X9_395 F hB dX9_passSound_123 (hB.2.2.2.2.2.2.1 _ _ hi hk).1 (hB.2.2.2.2.2.2.1 _ _ hi hk).2.1 ?_
                    refine lv_iload_n hx hb dX9_passSound_126 rfl (lv_at hl 4 rfl) ?_
                    refine cl_vi (n := 0) (NC := 0) (av := [.ref (yr Y i k), .int n]) hB (vi_crVN F.1 (m_ByteRow_drop_17 l D cy hst) ⟨va_cnB 1 F.1.2.2.2.2 (vgN (vm_0 _ (List.mem_of_getElem? (i := 11) rfl))) rfl rfl rfl (F.2.2.1.1 _ nf_124) (F.1.2.2.2.2 _ (List.mem_cons_of_mem _ (vm_0 _ (List.mem_of_getElem? (i := 23) rfl)))) ⟨by decide, by decide, by decide +kernel⟩ ⟨Nat.le_of_ble_eq_true rfl, Nat.le_of_ble_eq_true rfl⟩, F.1.2.2.2.2 _ (List.mem_cons_of_mem _ (vm_1 _ (List.mem_of_getElem? (i := 17) rfl))), F.1.2.2.2.2 _ (List.mem_cons_of_mem _ (vm_1 _ (List.mem_of_getElem? (i := 18) rfl)))⟩ rfl ⟨_, _, _, _, _, _, rfl, rfl, rfl, rfl⟩ F.2.1 F.2.2.1 hs (fun _ _ _ _ => True.intro) (fun q hq => Or.inr hq) ⟨Nat.le_refl _, Nat.le_refl _⟩) hl.1 rfl (by intro j9 a9 x9 g1 g2; exact match j9, g1, g2 with | 0, g1, g2 => by cases g1; cases g2; exact okr (en_row hB.2 hi hk) | 1, g1, g2 => by cases g1; cases g2; exact ⟨_, rfl, cl_full _⟩ | n + 2, g1, g2 => by cases g1) (fun f hf => by cases hf) (Nat.le_of_ble_eq_true rfl) (by decide +kernel) (by decide) dX9_passSound_127 rfl (fun alt ha127 H locs v σ127 w127 hB hk127 ht127 hs127 hA127 => ?_)
                    have hv127 := vi_voids (by decide) ha127 hA127
                    subst hv127
                    have hI9 := SI_kept hV9 hB.2 hk127 (by decide +kernel) hI9
                    have hT9 := TA_kept hV9 hB.2 hk127 (by decide +kernel) hj hi hk hT hT9
                    have hQ9 := TQ_kept hV9 hB.2 hk127 (by decide +kernel) hj hQ9
                    have hV9 := hB.2
                    refine lv_aload_n hx hb dX9_passSound_130 rfl (lv_at hl 3 rfl) ?_
                    refine lv_iload_n hx hb dX9_passSound_131 rfl (lv_at hl 4 rfl) ?_
                    refine lv_aload_n hx hb dX9_passSound_132 rfl (lv_at hl 2 rfl) ?_
                    refine gf_X9_147 F hB dX9_passSound_133 (hB.2.2.2.2.2.2.1 _ _ hi hk).1 ?_
                    refine lv_icmp_ge (tgt := 143) hx hb dX9_passSound_136 (by decide) (fun c136 => ?_) (fun c136 => ?_)
                    · refine lv_iconst (v := 0) hx hb dX9_passSound_143 (by decide) ?_
                      refine pf_X9_626 F hB dX9_passSound_144 ((hB.2.2.2.2.2.2.2.2.2.1 _ hj).2.2 _ hT).2 (show sgF 2 _ from ⟨by decide, by decide⟩) (fun H locs hBn => ?_)
                      clear hB; have hB := hBn; clear hBn
                      have hI9 := si_of hB.2 (SI_PI (k := 5) hV9 hI9 (t := 13) ((hB.2.2.2.2.2.2.2.2.2.1 _ hj).2.2 _ hT).2 rfl (by decide))
                      have hT9 := ta_of hB.2 (TA_PI (k9 := 5) (t := 13) hV9 hj hi hk hT hT9 ((hB.2.2.2.2.2.2.2.2.2.1 _ hj).2.2 _ hT).2 rfl)
                      have hQ9 := tq_of hB.2 (TQ_PI (k9 := 5) (t := 13) hV9 hj hQ9 ((hB.2.2.2.2.2.2.2.2.2.1 _ hj).2.2 _ hT).2 (by decide))
                      have hV9 := hB.2
                      refine lv_aload_n hx hb dX9_passSound_147 rfl (lv_at hl 3 rfl) ?_
                      refine lv_dup hx hb dX9_passSound_148 rfl ?_
                      refine gf_X9_388 F hB dX9_passSound_149 ((hB.2.2.2.2.2.2.2.2.2.1 _ hj).2.2 _ hT).2 ?_
                      refine lv_iload_n hx hb dX9_passSound_152 rfl (lv_at hl 4 rfl) ?_
                      refine lv_iadd hx hb dX9_passSound_153 ?_
                      refine pf_X9_388 F hB dX9_passSound_154 ((hB.2.2.2.2.2.2.2.2.2.1 _ hj).2.2 _ hT).2 (fun H locs hBn => ?_)
                      clear hB; have hB := hBn; clear hBn
                      have hI9 := si_of hB.2 (SI_done hV9 hI9 hj hi hk hT hQ9 hT9.2.1)
                      have hQ9 := tq_of hB.2 (TQ_PI (k9 := 2) (t := 13) hV9 hj hQ9 ((hB.2.2.2.2.2.2.2.2.2.1 _ hj).2.2 _ hT).2 (by decide))
                      have hV9 := hB.2
                      refine lv_iconst (v := 0) hx hb dX9_passSound_157 (by decide) ?_
                      exact cl_iret F hB hrt dX9_passSound_158 (by first | exact ⟨⟨_, rfl⟩, hI9, hQ9⟩ | exact ⟨⟨_, rfl⟩, SI_up hI9 (by omega), hQ9⟩ | fail "no road")
                    · refine lv_iconst (v := 1) hx hb dX9_passSound_139 (by decide) ?_
                      refine lv_goto (tgt := 144) hx hb dX9_passSound_140 (by decide) ?_
                      refine pf_X9_626 F hB dX9_passSound_144 ((hB.2.2.2.2.2.2.2.2.2.1 _ hj).2.2 _ hT).2 (show sgF 2 _ from ⟨by decide, by decide⟩) (fun H locs hBn => ?_)
                      clear hB; have hB := hBn; clear hBn
                      have hI9 := si_of hB.2 (SI_PI (k := 5) hV9 hI9 (t := 13) ((hB.2.2.2.2.2.2.2.2.2.1 _ hj).2.2 _ hT).2 rfl (by decide))
                      have hT9 := ta_of hB.2 (TA_PI (k9 := 5) (t := 13) hV9 hj hi hk hT hT9 ((hB.2.2.2.2.2.2.2.2.2.1 _ hj).2.2 _ hT).2 rfl)
                      have hQ9 := tq_of hB.2 (TQ_PI (k9 := 5) (t := 13) hV9 hj hQ9 ((hB.2.2.2.2.2.2.2.2.2.1 _ hj).2.2 _ hT).2 (by decide))
                      have hV9 := hB.2
                      refine lv_aload_n hx hb dX9_passSound_147 rfl (lv_at hl 3 rfl) ?_
                      refine lv_dup hx hb dX9_passSound_148 rfl ?_
                      refine gf_X9_388 F hB dX9_passSound_149 ((hB.2.2.2.2.2.2.2.2.2.1 _ hj).2.2 _ hT).2 ?_
                      refine lv_iload_n hx hb dX9_passSound_152 rfl (lv_at hl 4 rfl) ?_
                      refine lv_iadd hx hb dX9_passSound_153 ?_
                      refine pf_X9_388 F hB dX9_passSound_154 ((hB.2.2.2.2.2.2.2.2.2.1 _ hj).2.2 _ hT).2 (fun H locs hBn => ?_)
                      clear hB; have hB := hBn; clear hBn
                      have hI9 := si_of hB.2 (SI_done hV9 hI9 hj hi hk hT hQ9 hT9.2.1)
                      have hQ9 := tq_of hB.2 (TQ_PI (k9 := 2) (t := 13) hV9 hj hQ9 ((hB.2.2.2.2.2.2.2.2.2.1 _ hj).2.2 _ hT).2 (by decide))
                      have hV9 := hB.2
                      refine lv_iconst (v := 0) hx hb dX9_passSound_157 (by decide) ?_
                      exact cl_iret F hB hrt dX9_passSound_158 (by first | exact ⟨⟨_, rfl⟩, hI9, hQ9⟩ | exact ⟨⟨_, rfl⟩, SI_up hI9 (by omega), hQ9⟩ | fail "no road")
                · refine lv_aload_n hx hb dX9_passSound_100 rfl (lv_at hl 1 rfl) ?_
                  refine lv_aload_n hx hb dX9_passSound_101 rfl (lv_at hl 2 rfl) ?_
                  refine lv_iload_n hx hb dX9_passSound_102 rfl (lv_at hl 4 rfl) ?_
                  refine cl_vi (n := 0) (NC := 0) (av := [.ref (yX Y), .ref (ye Y i k), .int n]) hB (vi_crV F.1 (m_Hubcascade_receive_0 l D cy hst) (cwV 2 F.1.2.2.2.2 (vgV (vm_9 _ (List.mem_of_getElem? (i := 8) rfl)) (vm_9 _ (List.mem_of_getElem? (i := 9) rfl)) (vm_9 _ (List.mem_of_getElem? (i := 10) rfl)) (vm_4 _ (List.mem_of_getElem? (i := 20) rfl)) (vm_9 _ (List.mem_of_getElem? (i := 7) rfl))) rfl rfl rfl ⟨rfl, by decide, by decide, by decide +kernel⟩ ⟨Nat.le_of_ble_eq_true rfl, Nat.le_of_ble_eq_true rfl⟩) rfl ⟨_, _, _, _, _, _, rfl, rfl, rfl, rfl⟩ F.2.1 F.2.2.1 hs (fun _ _ _ _ => True.intro) (fun q hq => Or.inr hq) ⟨Nat.le_refl _, Nat.le_refl _⟩) hl.1 rfl (by intro j9 a9 x9 g1 g2; exact match j9, g1, g2 with | 0, g1, g2 => by cases g1; cases g2; exact okr (cl_kd (kd := 0) hB.2.1 hB.2.2.1.1 (by decide) (by decide +kernel)) | 1, g1, g2 => by cases g1; cases g2; exact okr (cl_kd (kd := 5) hB.2.1 (hB.2.2.2.2.2.2.1 _ _ hi hk).1 (by decide) (by decide +kernel)) | 2, g1, g2 => by cases g1; cases g2; exact ⟨_, rfl, (cl_full _).1, h8⟩ | n + 3, g1, g2 => by cases g1) (fun f hf => by cases hf) (Nat.le_of_ble_eq_true rfl) (by decide +kernel) (by decide) dX9_passSound_103 rfl (fun alt ha103 H locs v σ103 w103 hB hk103 ht103 hs103 hA103 => ?_)
                  have hv103 := vi_voids (by decide) ha103 hA103
                  subst hv103
                  have hI9 := SI_kept hV9 hB.2 hk103 (by decide +kernel) hI9
                  have hT9 := TA_kept hV9 hB.2 hk103 (by decide +kernel) hj hi hk hT hT9
                  have hQ9 := TQ_kept hV9 hB.2 hk103 (by decide +kernel) hj hQ9
                  have hV9 := hB.2
                  refine lv_goto (tgt := 115) hx hb dX9_passSound_106 (by decide) ?_
                  refine lv_aload_n hx hb dX9_passSound_115 rfl (lv_at hl 2 rfl) ?_
                  refine gf_X9_144 F hB dX9_passSound_116 (hB.2.2.2.2.2.2.1 _ _ hi hk).1 ?_
                  refine lv_if_eq (tgt := 147) hx hb dX9_passSound_119 (by decide) (fun c119 => ?_) (fun c119 => ?_)
                  · refine lv_aload_n hx hb dX9_passSound_147 rfl (lv_at hl 3 rfl) ?_
                    refine lv_dup hx hb dX9_passSound_148 rfl ?_
                    refine gf_X9_388 F hB dX9_passSound_149 ((hB.2.2.2.2.2.2.2.2.2.1 _ hj).2.2 _ hT).2 ?_
                    refine lv_iload_n hx hb dX9_passSound_152 rfl (lv_at hl 4 rfl) ?_
                    refine lv_iadd hx hb dX9_passSound_153 ?_
                    refine pf_X9_388 F hB dX9_passSound_154 ((hB.2.2.2.2.2.2.2.2.2.1 _ hj).2.2 _ hT).2 (fun H locs hBn => ?_)
                    clear hB; have hB := hBn; clear hBn
                    have hI9 := si_of hB.2 (SI_done hV9 hI9 hj hi hk hT hQ9 hT9.2.1)
                    have hQ9 := tq_of hB.2 (TQ_PI (k9 := 2) (t := 13) hV9 hj hQ9 ((hB.2.2.2.2.2.2.2.2.2.1 _ hj).2.2 _ hT).2 (by decide))
                    have hV9 := hB.2
                    refine lv_iconst (v := 0) hx hb dX9_passSound_157 (by decide) ?_
                    exact cl_iret F hB hrt dX9_passSound_158 (by first | exact ⟨⟨_, rfl⟩, hI9, hQ9⟩ | exact ⟨⟨_, rfl⟩, SI_up hI9 (by omega), hQ9⟩ | fail "no road")
                  · refine lv_aload_n hx hb dX9_passSound_122 rfl (lv_at hl 2 rfl) ?_
                    refine gr_X9_395 F hB dX9_passSound_123 (hB.2.2.2.2.2.2.1 _ _ hi hk).1 (hB.2.2.2.2.2.2.1 _ _ hi hk).2.1 ?_
                    refine lv_iload_n hx hb dX9_passSound_126 rfl (lv_at hl 4 rfl) ?_
                    refine cl_vi (n := 0) (NC := 0) (av := [.ref (yr Y i k), .int n]) hB (vi_crVN F.1 (m_ByteRow_drop_17 l D cy hst) ⟨va_cnB 1 F.1.2.2.2.2 (vgN (vm_0 _ (List.mem_of_getElem? (i := 11) rfl))) rfl rfl rfl (F.2.2.1.1 _ nf_124) (F.1.2.2.2.2 _ (List.mem_cons_of_mem _ (vm_0 _ (List.mem_of_getElem? (i := 23) rfl)))) ⟨by decide, by decide, by decide +kernel⟩ ⟨Nat.le_of_ble_eq_true rfl, Nat.le_of_ble_eq_true rfl⟩, F.1.2.2.2.2 _ (List.mem_cons_of_mem _ (vm_1 _ (List.mem_of_getElem? (i := 17) rfl))), F.1.2.2.2.2 _ (List.mem_cons_of_mem _ (vm_1 _ (List.mem_of_getElem? (i := 18) rfl)))⟩ rfl ⟨_, _, _, _, _, _, rfl, rfl, rfl, rfl⟩ F.2.1 F.2.2.1 hs (fun _ _ _ _ => True.intro) (fun q hq => Or.inr hq) ⟨Nat.le_refl _, Nat.le_refl _⟩) hl.1 rfl (by intro j9 a9 x9 g1 g2; exact match j9, g1, g2 with | 0, g1, g2 => by cases g1; cases g2; exact okr (en_row hB.2 hi hk) | 1, g1, g2 => by cases g1; cases g2; exact ⟨_, rfl, cl_full _⟩ | n + 2, g1, g2 => by cases g1) (fun f hf => by cases hf) (Nat.le_of_ble_eq_true rfl) (by decide +kernel) (by decide) dX9_passSound_127 rfl (fun alt ha127 H locs v σ127 w127 hB hk127 ht127 hs127 hA127 => ?_)
                    have hv127 := vi_voids (by decide) ha127 hA127
                    subst hv127
                    have hI9 := SI_kept hV9 hB.2 hk127 (by decide +kernel) hI9
                    have hT9 := TA_kept hV9 hB.2 hk127 (by decide +kernel) hj hi hk hT hT9
                    have hQ9 := TQ_kept hV9 hB.2 hk127 (by decide +kernel) hj hQ9
                    have hV9 := hB.2
                    refine lv_aload_n hx hb dX9_passSound_130 rfl (lv_at hl 3 rfl) ?_
                    refine lv_iload_n hx hb dX9_passSound_131 rfl (lv_at hl 4 rfl) ?_
                    refine lv_aload_n hx hb dX9_passSound_132 rfl (lv_at hl 2 rfl) ?_
                    refine gf_X9_147 F hB dX9_passSound_133 (hB.2.2.2.2.2.2.1 _ _ hi hk).1 ?_
                    refine lv_icmp_ge (tgt := 143) hx hb dX9_passSound_136 (by decide) (fun c136 => ?_) (fun c136 => ?_)
                    · refine lv_iconst (v := 0) hx hb dX9_passSound_143 (by decide) ?_
                      refine pf_X9_626 F hB dX9_passSound_144 ((hB.2.2.2.2.2.2.2.2.2.1 _ hj).2.2 _ hT).2 (show sgF 2 _ from ⟨by decide, by decide⟩) (fun H locs hBn => ?_)
                      clear hB; have hB := hBn; clear hBn
                      have hI9 := si_of hB.2 (SI_PI (k := 5) hV9 hI9 (t := 13) ((hB.2.2.2.2.2.2.2.2.2.1 _ hj).2.2 _ hT).2 rfl (by decide))
                      have hT9 := ta_of hB.2 (TA_PI (k9 := 5) (t := 13) hV9 hj hi hk hT hT9 ((hB.2.2.2.2.2.2.2.2.2.1 _ hj).2.2 _ hT).2 rfl)
                      have hQ9 := tq_of hB.2 (TQ_PI (k9 := 5) (t := 13) hV9 hj hQ9 ((hB.2.2.2.2.2.2.2.2.2.1 _ hj).2.2 _ hT).2 (by decide))
                      have hV9 := hB.2
                      refine lv_aload_n hx hb dX9_passSound_147 rfl (lv_at hl 3 rfl) ?_
                      refine lv_dup hx hb dX9_passSound_148 rfl ?_
                      refine gf_X9_388 F hB dX9_passSound_149 ((hB.2.2.2.2.2.2.2.2.2.1 _ hj).2.2 _ hT).2 ?_
                      refine lv_iload_n hx hb dX9_passSound_152 rfl (lv_at hl 4 rfl) ?_
                      refine lv_iadd hx hb dX9_passSound_153 ?_
                      refine pf_X9_388 F hB dX9_passSound_154 ((hB.2.2.2.2.2.2.2.2.2.1 _ hj).2.2 _ hT).2 (fun H locs hBn => ?_)
                      clear hB; have hB := hBn; clear hBn
                      have hI9 := si_of hB.2 (SI_done hV9 hI9 hj hi hk hT hQ9 hT9.2.1)
                      have hQ9 := tq_of hB.2 (TQ_PI (k9 := 2) (t := 13) hV9 hj hQ9 ((hB.2.2.2.2.2.2.2.2.2.1 _ hj).2.2 _ hT).2 (by decide))
                      have hV9 := hB.2
                      refine lv_iconst (v := 0) hx hb dX9_passSound_157 (by decide) ?_
                      exact cl_iret F hB hrt dX9_passSound_158 (by first | exact ⟨⟨_, rfl⟩, hI9, hQ9⟩ | exact ⟨⟨_, rfl⟩, SI_up hI9 (by omega), hQ9⟩ | fail "no road")
                    · refine lv_iconst (v := 1) hx hb dX9_passSound_139 (by decide) ?_
                      refine lv_goto (tgt := 144) hx hb dX9_passSound_140 (by decide) ?_
                      refine pf_X9_626 F hB dX9_passSound_144 ((hB.2.2.2.2.2.2.2.2.2.1 _ hj).2.2 _ hT).2 (show sgF 2 _ from ⟨by decide, by decide⟩) (fun H locs hBn => ?_)
                      clear hB; have hB := hBn; clear hBn
                      have hI9 := si_of hB.2 (SI_PI (k := 5) hV9 hI9 (t := 13) ((hB.2.2.2.2.2.2.2.2.2.1 _ hj).2.2 _ hT).2 rfl (by decide))
                      have hT9 := ta_of hB.2 (TA_PI (k9 := 5) (t := 13) hV9 hj hi hk hT hT9 ((hB.2.2.2.2.2.2.2.2.2.1 _ hj).2.2 _ hT).2 rfl)
                      have hQ9 := tq_of hB.2 (TQ_PI (k9 := 5) (t := 13) hV9 hj hQ9 ((hB.2.2.2.2.2.2.2.2.2.1 _ hj).2.2 _ hT).2 (by decide))
                      have hV9 := hB.2
                      refine lv_aload_n hx hb dX9_passSound_147 rfl (lv_at hl 3 rfl) ?_
                      refine lv_dup hx hb dX9_passSound_148 rfl ?_
                      refine gf_X9_388 F hB dX9_passSound_149 ((hB.2.2.2.2.2.2.2.2.2.1 _ hj).2.2 _ hT).2 ?_
                      refine lv_iload_n hx hb dX9_passSound_152 rfl (lv_at hl 4 rfl) ?_
                      refine lv_iadd hx hb dX9_passSound_153 ?_
                      refine pf_X9_388 F hB dX9_passSound_154 ((hB.2.2.2.2.2.2.2.2.2.1 _ hj).2.2 _ hT).2 (fun H locs hBn => ?_)
                      clear hB; have hB := hBn; clear hBn
                      have hI9 := si_of hB.2 (SI_done hV9 hI9 hj hi hk hT hQ9 hT9.2.1)
                      have hQ9 := tq_of hB.2 (TQ_PI (k9 := 2) (t := 13) hV9 hj hQ9 ((hB.2.2.2.2.2.2.2.2.2.1 _ hj).2.2 _ hT).2 (by decide))
                      have hV9 := hB.2
                      refine lv_iconst (v := 0) hx hb dX9_passSound_157 (by decide) ?_
                      exact cl_iret F hB hrt dX9_passSound_158 (by first | exact ⟨⟨_, rfl⟩, hI9, hQ9⟩ | exact ⟨⟨_, rfl⟩, SI_up hI9 (by omega), hQ9⟩ | fail "no road")
              · refine lv_aload_n hx hb dX9_passSound_85 rfl (lv_at hl 3 rfl) ?_
                refine lv_iconst (v := 1) hx hb dX9_passSound_86 (by decide) ?_
                refine pf_X9_623 F hB dX9_passSound_87 ((hB.2.2.2.2.2.2.2.2.2.1 _ hj).2.2 _ hT).2 ⟨by decide, by decide⟩ (fun H locs hBn => ?_)
                clear hB; have hB := hBn; clear hBn
                have hI9 := si_of hB.2 (SI_PI (k := 4) hV9 hI9 (t := 13) ((hB.2.2.2.2.2.2.2.2.2.1 _ hj).2.2 _ hT).2 rfl (by decide))
                have hT9 := ta_of hB.2 (TA_PI (k9 := 4) (t := 13) hV9 hj hi hk hT hT9 ((hB.2.2.2.2.2.2.2.2.2.1 _ hj).2.2 _ hT).2 rfl)
                have hQ9 := tq_of hB.2 (TQ_PI (k9 := 4) (t := 13) hV9 hj hQ9 ((hB.2.2.2.2.2.2.2.2.2.1 _ hj).2.2 _ hT).2 (by decide))
                have hV9 := hB.2
                refine lv_goto (tgt := 115) hx hb dX9_passSound_90 (by decide) ?_
                refine lv_aload_n hx hb dX9_passSound_115 rfl (lv_at hl 2 rfl) ?_
                refine gf_X9_144 F hB dX9_passSound_116 (hB.2.2.2.2.2.2.1 _ _ hi hk).1 ?_
                refine lv_if_eq (tgt := 147) hx hb dX9_passSound_119 (by decide) (fun c119 => ?_) (fun c119 => ?_)
                · refine lv_aload_n hx hb dX9_passSound_147 rfl (lv_at hl 3 rfl) ?_
                  refine lv_dup hx hb dX9_passSound_148 rfl ?_
                  refine gf_X9_388 F hB dX9_passSound_149 ((hB.2.2.2.2.2.2.2.2.2.1 _ hj).2.2 _ hT).2 ?_
                  refine lv_iload_n hx hb dX9_passSound_152 rfl (lv_at hl 4 rfl) ?_
                  refine lv_iadd hx hb dX9_passSound_153 ?_
                  refine pf_X9_388 F hB dX9_passSound_154 ((hB.2.2.2.2.2.2.2.2.2.1 _ hj).2.2 _ hT).2 (fun H locs hBn => ?_)
                  clear hB; have hB := hBn; clear hBn
                  have hI9 := si_of hB.2 (SI_done hV9 hI9 hj hi hk hT hQ9 hT9.2.1)
                  have hQ9 := tq_of hB.2 (TQ_PI (k9 := 2) (t := 13) hV9 hj hQ9 ((hB.2.2.2.2.2.2.2.2.2.1 _ hj).2.2 _ hT).2 (by decide))
                  have hV9 := hB.2
                  refine lv_iconst (v := 0) hx hb dX9_passSound_157 (by decide) ?_
                  exact cl_iret F hB hrt dX9_passSound_158 (by first | exact ⟨⟨_, rfl⟩, hI9, hQ9⟩ | exact ⟨⟨_, rfl⟩, SI_up hI9 (by omega), hQ9⟩ | fail "no road")
                · refine lv_aload_n hx hb dX9_passSound_122 rfl (lv_at hl 2 rfl) ?_
                  refine gr_X9_395 F hB dX9_passSound_123 (hB.2.2.2.2.2.2.1 _ _ hi hk).1 (hB.2.2.2.2.2.2.1 _ _ hi hk).2.1 ?_
                  refine lv_iload_n hx hb dX9_passSound_126 rfl (lv_at hl 4 rfl) ?_
                  refine cl_vi (n := 0) (NC := 0) (av := [.ref (yr Y i k), .int n]) hB (vi_crVN F.1 (m_ByteRow_drop_17 l D cy hst) ⟨va_cnB 1 F.1.2.2.2.2 (vgN (vm_0 _ (List.mem_of_getElem? (i := 11) rfl))) rfl rfl rfl (F.2.2.1.1 _ nf_124) (F.1.2.2.2.2 _ (List.mem_cons_of_mem _ (vm_0 _ (List.mem_of_getElem? (i := 23) rfl)))) ⟨by decide, by decide, by decide +kernel⟩ ⟨Nat.le_of_ble_eq_true rfl, Nat.le_of_ble_eq_true rfl⟩, F.1.2.2.2.2 _ (List.mem_cons_of_mem _ (vm_1 _ (List.mem_of_getElem? (i := 17) rfl))), F.1.2.2.2.2 _ (List.mem_cons_of_mem _ (vm_1 _ (List.mem_of_getElem? (i := 18) rfl)))⟩ rfl ⟨_, _, _, _, _, _, rfl, rfl, rfl, rfl⟩ F.2.1 F.2.2.1 hs (fun _ _ _ _ => True.intro) (fun q hq => Or.inr hq) ⟨Nat.le_refl _, Nat.le_refl _⟩) hl.1 rfl (by intro j9 a9 x9 g1 g2; exact match j9, g1, g2 with | 0, g1, g2 => by cases g1; cases g2; exact okr (en_row hB.2 hi hk) | 1, g1, g2 => by cases g1; cases g2; exact ⟨_, rfl, cl_full _⟩ | n + 2, g1, g2 => by cases g1) (fun f hf => by cases hf) (Nat.le_of_ble_eq_true rfl) (by decide +kernel) (by decide) dX9_passSound_127 rfl (fun alt ha127 H locs v σ127 w127 hB hk127 ht127 hs127 hA127 => ?_)
                  have hv127 := vi_voids (by decide) ha127 hA127
                  subst hv127
                  have hI9 := SI_kept hV9 hB.2 hk127 (by decide +kernel) hI9
                  have hT9 := TA_kept hV9 hB.2 hk127 (by decide +kernel) hj hi hk hT hT9
                  have hQ9 := TQ_kept hV9 hB.2 hk127 (by decide +kernel) hj hQ9
                  have hV9 := hB.2
                  refine lv_aload_n hx hb dX9_passSound_130 rfl (lv_at hl 3 rfl) ?_
                  refine lv_iload_n hx hb dX9_passSound_131 rfl (lv_at hl 4 rfl) ?_
                  refine lv_aload_n hx hb dX9_passSound_132 rfl (lv_at hl 2 rfl) ?_
                  refine gf_X9_147 F hB dX9_passSound_133 (hB.2.2.2.2.2.2.1 _ _ hi hk).1 ?_
                  refine lv_icmp_ge (tgt := 143) hx hb dX9_passSound_136 (by decide) (fun c136 => ?_) (fun c136 => ?_)
                  · refine lv_iconst (v := 0) hx hb dX9_passSound_143 (by decide) ?_
                    refine pf_X9_626 F hB dX9_passSound_144 ((hB.2.2.2.2.2.2.2.2.2.1 _ hj).2.2 _ hT).2 (show sgF 2 _ from ⟨by decide, by decide⟩) (fun H locs hBn => ?_)
                    clear hB; have hB := hBn; clear hBn
                    have hI9 := si_of hB.2 (SI_PI (k := 5) hV9 hI9 (t := 13) ((hB.2.2.2.2.2.2.2.2.2.1 _ hj).2.2 _ hT).2 rfl (by decide))
                    have hT9 := ta_of hB.2 (TA_PI (k9 := 5) (t := 13) hV9 hj hi hk hT hT9 ((hB.2.2.2.2.2.2.2.2.2.1 _ hj).2.2 _ hT).2 rfl)
                    have hQ9 := tq_of hB.2 (TQ_PI (k9 := 5) (t := 13) hV9 hj hQ9 ((hB.2.2.2.2.2.2.2.2.2.1 _ hj).2.2 _ hT).2 (by decide))
                    have hV9 := hB.2
                    refine lv_aload_n hx hb dX9_passSound_147 rfl (lv_at hl 3 rfl) ?_
                    refine lv_dup hx hb dX9_passSound_148 rfl ?_
                    refine gf_X9_388 F hB dX9_passSound_149 ((hB.2.2.2.2.2.2.2.2.2.1 _ hj).2.2 _ hT).2 ?_
                    refine lv_iload_n hx hb dX9_passSound_152 rfl (lv_at hl 4 rfl) ?_
                    refine lv_iadd hx hb dX9_passSound_153 ?_
                    refine pf_X9_388 F hB dX9_passSound_154 ((hB.2.2.2.2.2.2.2.2.2.1 _ hj).2.2 _ hT).2 (fun H locs hBn => ?_)
                    clear hB; have hB := hBn; clear hBn
                    have hI9 := si_of hB.2 (SI_done hV9 hI9 hj hi hk hT hQ9 hT9.2.1)
                    have hQ9 := tq_of hB.2 (TQ_PI (k9 := 2) (t := 13) hV9 hj hQ9 ((hB.2.2.2.2.2.2.2.2.2.1 _ hj).2.2 _ hT).2 (by decide))
                    have hV9 := hB.2
                    refine lv_iconst (v := 0) hx hb dX9_passSound_157 (by decide) ?_
                    exact cl_iret F hB hrt dX9_passSound_158 (by first | exact ⟨⟨_, rfl⟩, hI9, hQ9⟩ | exact ⟨⟨_, rfl⟩, SI_up hI9 (by omega), hQ9⟩ | fail "no road")
                  · refine lv_iconst (v := 1) hx hb dX9_passSound_139 (by decide) ?_
                    refine lv_goto (tgt := 144) hx hb dX9_passSound_140 (by decide) ?_
                    refine pf_X9_626 F hB dX9_passSound_144 ((hB.2.2.2.2.2.2.2.2.2.1 _ hj).2.2 _ hT).2 (show sgF 2 _ from ⟨by decide, by decide⟩) (fun H locs hBn => ?_)
                    clear hB; have hB := hBn; clear hBn
                    have hI9 := si_of hB.2 (SI_PI (k := 5) hV9 hI9 (t := 13) ((hB.2.2.2.2.2.2.2.2.2.1 _ hj).2.2 _ hT).2 rfl (by decide))
                    have hT9 := ta_of hB.2 (TA_PI (k9 := 5) (t := 13) hV9 hj hi hk hT hT9 ((hB.2.2.2.2.2.2.2.2.2.1 _ hj).2.2 _ hT).2 rfl)
                    have hQ9 := tq_of hB.2 (TQ_PI (k9 := 5) (t := 13) hV9 hj hQ9 ((hB.2.2.2.2.2.2.2.2.2.1 _ hj).2.2 _ hT).2 (by decide))
                    have hV9 := hB.2
                    refine lv_aload_n hx hb dX9_passSound_147 rfl (lv_at hl 3 rfl) ?_
                    refine lv_dup hx hb dX9_passSound_148 rfl ?_
                    refine gf_X9_388 F hB dX9_passSound_149 ((hB.2.2.2.2.2.2.2.2.2.1 _ hj).2.2 _ hT).2 ?_
                    refine lv_iload_n hx hb dX9_passSound_152 rfl (lv_at hl 4 rfl) ?_
                    refine lv_iadd hx hb dX9_passSound_153 ?_
                    refine pf_X9_388 F hB dX9_passSound_154 ((hB.2.2.2.2.2.2.2.2.2.1 _ hj).2.2 _ hT).2 (fun H locs hBn => ?_)
                    clear hB; have hB := hBn; clear hBn
                    have hI9 := si_of hB.2 (SI_done hV9 hI9 hj hi hk hT hQ9 hT9.2.1)
                    have hQ9 := tq_of hB.2 (TQ_PI (k9 := 2) (t := 13) hV9 hj hQ9 ((hB.2.2.2.2.2.2.2.2.2.1 _ hj).2.2 _ hT).2 (by decide))
                    have hV9 := hB.2
                    refine lv_iconst (v := 0) hx hb dX9_passSound_157 (by decide) ?_
                    exact cl_iret F hB hrt dX9_passSound_158 (by first | exact ⟨⟨_, rfl⟩, hI9, hQ9⟩ | exact ⟨⟨_, rfl⟩, SI_up hI9 (by omega), hQ9⟩ | fail "no road")
            · refine lv_iconst (v := 1) hx hb dX9_passSound_43 (by decide) ?_
              refine lv_goto (tgt := 48) hx hb dX9_passSound_44 (by decide) ?_
              refine lv_istore (lv' := [(5, .int _), (0, .ref _), (1, .ref _), (2, .ref _), (3, .int _), (4, .int _)]) hx hb dX9_passSound_48 hl (by decide) rfl (fun ls hl => ?_)
              refine lv_iload hx hb dX9_passSound_50 (lv_at hl 0 rfl) ?_
              refine lv_if_eq (tgt := 78) hx hb dX9_passSound_52 (by decide) (fun c52 => (by first | exact absurd c52 (by decide) | exact (c52 (by decide)).elim)) (fun c52 => ?_)
              refine lv_aload_n hx hb dX9_passSound_55 rfl (lv_at hl 1 rfl) ?_
              obtain ⟨sn, hsn, tsn⟩ := sn_of hB.2
              refine gr_X9_59 F hB dX9_passSound_56 hB.2.2.1.1 hsn ?_
              refine lv_dup hx hb dX9_passSound_59 rfl ?_
              refine gf_X9_481 F hB dX9_passSound_60 tsn ?_
              refine lv_iconst (v := 1) hx hb dX9_passSound_63 (by decide) ?_
              refine lv_iadd hx hb dX9_passSound_64 ?_
              refine pf_X9_481 F hB dX9_passSound_65 tsn (fun H locs hBn => ?_)
              clear hB; have hB := hBn; clear hBn
              have hI9 := si_of hB.2 (SI_PI (k := 1) hV9 hI9 (t := 12) tsn rfl (by decide))
              have hT9 := ta_of hB.2 (TA_PI (k9 := 1) (t := 12) hV9 hj hi hk hT hT9 tsn rfl)
              have hQ9 := tq_of hB.2 (TQ_PI (k9 := 1) (t := 12) hV9 hj hQ9 tsn (by decide))
              have hV9 := hB.2
              refine lv_aload_n hx hb dX9_passSound_68 rfl (lv_at hl 2 rfl) ?_
              refine lv_dup hx hb dX9_passSound_69 rfl ?_
              refine gf_X9_629 F hB dX9_passSound_70 (hB.2.2.2.2.2.2.1 _ _ hi hk).1 ?_
              refine lv_iload_n hx hb dX9_passSound_73 rfl (lv_at hl 4 rfl) ?_
              refine lv_iadd hx hb dX9_passSound_74 ?_
              refine pf_X9_629 F hB dX9_passSound_75 (hB.2.2.2.2.2.2.1 _ _ hi hk).1 (fun H locs hBn => ?_)
              clear hB; have hB := hBn; clear hBn
              have hS9 := SI_sent hV9 hI9 hi hk hT9.2.1 h8 hB9
              have hG9 := hS9.2
              have hI9 := si_of hB.2 hS9.1
              have hT9 := ta_of hB.2 (TA_PI (k9 := 6) (t := 8) hV9 hj hi hk hT hT9 (hB.2.2.2.2.2.2.1 _ _ hi hk).1 rfl)
              have hQ9 := tq_of hB.2 (TQ_PI (k9 := 6) (t := 8) hV9 hj hQ9 (hB.2.2.2.2.2.2.1 _ _ hi hk).1 (by decide))
              have hV9 := hB.2
              refine lv_iload hx hb dX9_passSound_78 (lv_at hl 5 rfl) ?_
              refine lv_bipush (v := 32) hx hb dX9_passSound_80 (by decide) ?_
              refine lv_icmp_eq (tgt := 93) hx hb dX9_passSound_82 (by decide) (fun c82 => ?_) (fun c82 => ?_)
              · refine lv_aload_n hx hb dX9_passSound_93 rfl (lv_at hl 2 rfl) ?_
                refine gf_X9_144 F hB dX9_passSound_94 (hB.2.2.2.2.2.2.1 _ _ hi hk).1 ?_
                refine lv_if_eq (tgt := 109) hx hb dX9_passSound_97 (by decide) (fun c97 => ?_) (fun c97 => ?_)
                · have hw9 := gp_of (i := i) (k := k) (n := n.toInt) (B := B + 8) hB.2 (by first | exact hG9 ((c_nk (by decide)).symm.trans c97) | exact absurd c82 c26)
                  have hI9 := si_of (B := B + 8) hB.2 (by first | exact hI9 | exact absurd c82 c26)
                  refine lv_aload_n hx hb dX9_passSound_109 rfl (lv_at hl 2 rfl) ?_
                  refine lv_aload_n hx hb dX9_passSound_110 rfl (lv_at hl 3 rfl) ?_
                  refine lv_iload_n hx hb dX9_passSound_111 rfl (lv_at hl 4 rfl) ?_
                  refine cl_callN (ci := 7) F hB (k_tkf l D cy hB.2 hj hi hk hT _ hw9.2.2 (by have q := hw9.1; have q2 := hw9.2.1; omega) _) ⟨va_cnB 2 F.1.2.2.2.2 (vgN (vm_1 _ (List.mem_of_getElem? (i := 12) rfl))) rfl rfl rfl (F.2.2.1.1 _ nf_138) (F.1.2.2.2.2 _ (List.mem_cons_of_mem _ (vm_1 _ (List.mem_of_getElem? (i := 4) rfl)))) ⟨by decide, by decide, by decide +kernel⟩ ⟨Nat.le_of_ble_eq_true rfl, Nat.le_of_ble_eq_true rfl⟩, F.1.2.2.2.2 _ (List.mem_cons_of_mem _ (vm_9 _ (List.mem_of_getElem? (i := 11) rfl))), F.1.2.2.2.2 _ (List.mem_cons_of_mem _ (vm_9 _ (List.mem_of_getElem? (i := 12) rfl)))⟩ rfl rfl (by decide) rfl hl.1 rfl (Nat.le_of_ble_eq_true rfl) dX9_passSound_112 ⟨Nat.le_of_ble_eq_true rfl, Nat.le_of_ble_eq_true rfl⟩ (hB.2.2.2.2.2.2.1 _ _ hi hk).1 (fun H locs v σ112 hB hP => ?_)
                  obtain ⟨rfl, hR112, hx112⟩ := hP
                  have hI9 := SI_ad hV9 hI9 hi hk hR112 (fun _ => by have q := hw9.1; omega)
                  have hT9 := TA_ad hV9 hj hi hk hT (hV9.2.2.2.2.2.1 _ _ hi hk).2.2 hR112 hT9
                  have hQ9 := TQ_ad hV9 hj (hV9.2.2.2.2.2.1 _ _ hi hk).2.2 hR112 hQ9
                  have hV9 := hB.2
                  refine lv_aload_n hx hb dX9_passSound_115 rfl (lv_at hl 2 rfl) ?_
                  refine gf_X9_144 F hB dX9_passSound_116 (hB.2.2.2.2.2.2.1 _ _ hi hk).1 ?_
                  refine lv_if_eq (tgt := 147) hx hb dX9_passSound_119 (by decide) (fun c119 => ?_) (fun c119 => ?_)
                  · refine lv_aload_n hx hb dX9_passSound_147 rfl (lv_at hl 3 rfl) ?_
                    refine lv_dup hx hb dX9_passSound_148 rfl ?_
                    refine gf_X9_388 F hB dX9_passSound_149 ((hB.2.2.2.2.2.2.2.2.2.1 _ hj).2.2 _ hT).2 ?_
                    refine lv_iload_n hx hb dX9_passSound_152 rfl (lv_at hl 4 rfl) ?_
                    refine lv_iadd hx hb dX9_passSound_153 ?_
                    refine pf_X9_388 F hB dX9_passSound_154 ((hB.2.2.2.2.2.2.2.2.2.1 _ hj).2.2 _ hT).2 (fun H locs hBn => ?_)
                    clear hB; have hB := hBn; clear hBn
                    have hI9 := si_of hB.2 (SI_done hV9 hI9 hj hi hk hT hQ9 hT9.2.1)
                    have hQ9 := tq_of hB.2 (TQ_PI (k9 := 2) (t := 13) hV9 hj hQ9 ((hB.2.2.2.2.2.2.2.2.2.1 _ hj).2.2 _ hT).2 (by decide))
                    have hV9 := hB.2
                    refine lv_iconst (v := 0) hx hb dX9_passSound_157 (by decide) ?_
                    exact cl_iret F hB hrt dX9_passSound_158 (by first | exact ⟨⟨_, rfl⟩, hI9, hQ9⟩ | exact ⟨⟨_, rfl⟩, SI_up hI9 (by omega), hQ9⟩ | fail "no road")
                  · refine lv_aload_n hx hb dX9_passSound_122 rfl (lv_at hl 2 rfl) ?_
                    refine gr_X9_395 F hB dX9_passSound_123 (hB.2.2.2.2.2.2.1 _ _ hi hk).1 (hB.2.2.2.2.2.2.1 _ _ hi hk).2.1 ?_
                    refine lv_iload_n hx hb dX9_passSound_126 rfl (lv_at hl 4 rfl) ?_
                    refine cl_vi (n := 0) (NC := 0) (av := [.ref (yr Y i k), .int n]) hB (vi_crVN F.1 (m_ByteRow_drop_17 l D cy hst) ⟨va_cnB 1 F.1.2.2.2.2 (vgN (vm_0 _ (List.mem_of_getElem? (i := 11) rfl))) rfl rfl rfl (F.2.2.1.1 _ nf_124) (F.1.2.2.2.2 _ (List.mem_cons_of_mem _ (vm_0 _ (List.mem_of_getElem? (i := 23) rfl)))) ⟨by decide, by decide, by decide +kernel⟩ ⟨Nat.le_of_ble_eq_true rfl, Nat.le_of_ble_eq_true rfl⟩, F.1.2.2.2.2 _ (List.mem_cons_of_mem _ (vm_1 _ (List.mem_of_getElem? (i := 17) rfl))), F.1.2.2.2.2 _ (List.mem_cons_of_mem _ (vm_1 _ (List.mem_of_getElem? (i := 18) rfl)))⟩ rfl ⟨_, _, _, _, _, _, rfl, rfl, rfl, rfl⟩ F.2.1 F.2.2.1 hs (fun _ _ _ _ => True.intro) (fun q hq => Or.inr hq) ⟨Nat.le_refl _, Nat.le_refl _⟩) hl.1 rfl (by intro j9 a9 x9 g1 g2; exact match j9, g1, g2 with | 0, g1, g2 => by cases g1; cases g2; exact okr (en_row hB.2 hi hk) | 1, g1, g2 => by cases g1; cases g2; exact ⟨_, rfl, cl_full _⟩ | n + 2, g1, g2 => by cases g1) (fun f hf => by cases hf) (Nat.le_of_ble_eq_true rfl) (by decide +kernel) (by decide) dX9_passSound_127 rfl (fun alt ha127 H locs v σ127 w127 hB hk127 ht127 hs127 hA127 => ?_)
                    have hv127 := vi_voids (by decide) ha127 hA127
                    subst hv127
                    have hI9 := SI_kept hV9 hB.2 hk127 (by decide +kernel) hI9
                    have hT9 := TA_kept hV9 hB.2 hk127 (by decide +kernel) hj hi hk hT hT9
                    have hQ9 := TQ_kept hV9 hB.2 hk127 (by decide +kernel) hj hQ9
                    have hV9 := hB.2
                    refine lv_aload_n hx hb dX9_passSound_130 rfl (lv_at hl 3 rfl) ?_
                    refine lv_iload_n hx hb dX9_passSound_131 rfl (lv_at hl 4 rfl) ?_
                    refine lv_aload_n hx hb dX9_passSound_132 rfl (lv_at hl 2 rfl) ?_
                    refine gf_X9_147 F hB dX9_passSound_133 (hB.2.2.2.2.2.2.1 _ _ hi hk).1 ?_
                    refine lv_icmp_ge (tgt := 143) hx hb dX9_passSound_136 (by decide) (fun c136 => ?_) (fun c136 => ?_)
                    · refine lv_iconst (v := 0) hx hb dX9_passSound_143 (by decide) ?_
                      refine pf_X9_626 F hB dX9_passSound_144 ((hB.2.2.2.2.2.2.2.2.2.1 _ hj).2.2 _ hT).2 (show sgF 2 _ from ⟨by decide, by decide⟩) (fun H locs hBn => ?_)
                      clear hB; have hB := hBn; clear hBn
                      have hI9 := si_of hB.2 (SI_PI (k := 5) hV9 hI9 (t := 13) ((hB.2.2.2.2.2.2.2.2.2.1 _ hj).2.2 _ hT).2 rfl (by decide))
                      have hT9 := ta_of hB.2 (TA_PI (k9 := 5) (t := 13) hV9 hj hi hk hT hT9 ((hB.2.2.2.2.2.2.2.2.2.1 _ hj).2.2 _ hT).2 rfl)
                      have hQ9 := tq_of hB.2 (TQ_PI (k9 := 5) (t := 13) hV9 hj hQ9 ((hB.2.2.2.2.2.2.2.2.2.1 _ hj).2.2 _ hT).2 (by decide))
                      have hV9 := hB.2
                      refine lv_aload_n hx hb dX9_passSound_147 rfl (lv_at hl 3 rfl) ?_
                      refine lv_dup hx hb dX9_passSound_148 rfl ?_
                      refine gf_X9_388 F hB dX9_passSound_149 ((hB.2.2.2.2.2.2.2.2.2.1 _ hj).2.2 _ hT).2 ?_
                      refine lv_iload_n hx hb dX9_passSound_152 rfl (lv_at hl 4 rfl) ?_
                      refine lv_iadd hx hb dX9_passSound_153 ?_
                      refine pf_X9_388 F hB dX9_passSound_154 ((hB.2.2.2.2.2.2.2.2.2.1 _ hj).2.2 _ hT).2 (fun H locs hBn => ?_)
                      clear hB; have hB := hBn; clear hBn
                      have hI9 := si_of hB.2 (SI_done hV9 hI9 hj hi hk hT hQ9 hT9.2.1)
                      have hQ9 := tq_of hB.2 (TQ_PI (k9 := 2) (t := 13) hV9 hj hQ9 ((hB.2.2.2.2.2.2.2.2.2.1 _ hj).2.2 _ hT).2 (by decide))
                      have hV9 := hB.2
                      refine lv_iconst (v := 0) hx hb dX9_passSound_157 (by decide) ?_
                      exact cl_iret F hB hrt dX9_passSound_158 (by first | exact ⟨⟨_, rfl⟩, hI9, hQ9⟩ | exact ⟨⟨_, rfl⟩, SI_up hI9 (by omega), hQ9⟩ | fail "no road")
                    · refine lv_iconst (v := 1) hx hb dX9_passSound_139 (by decide) ?_
                      refine lv_goto (tgt := 144) hx hb dX9_passSound_140 (by decide) ?_
                      refine pf_X9_626 F hB dX9_passSound_144 ((hB.2.2.2.2.2.2.2.2.2.1 _ hj).2.2 _ hT).2 (show sgF 2 _ from ⟨by decide, by decide⟩) (fun H locs hBn => ?_)
                      clear hB; have hB := hBn; clear hBn
                      have hI9 := si_of hB.2 (SI_PI (k := 5) hV9 hI9 (t := 13) ((hB.2.2.2.2.2.2.2.2.2.1 _ hj).2.2 _ hT).2 rfl (by decide))
                      have hT9 := ta_of hB.2 (TA_PI (k9 := 5) (t := 13) hV9 hj hi hk hT hT9 ((hB.2.2.2.2.2.2.2.2.2.1 _ hj).2.2 _ hT).2 rfl)
                      have hQ9 := tq_of hB.2 (TQ_PI (k9 := 5) (t := 13) hV9 hj hQ9 ((hB.2.2.2.2.2.2.2.2.2.1 _ hj).2.2 _ hT).2 (by decide))
                      have hV9 := hB.2
                      refine lv_aload_n hx hb dX9_passSound_147 rfl (lv_at hl 3 rfl) ?_
                      refine lv_dup hx hb dX9_passSound_148 rfl ?_
                      refine gf_X9_388 F hB dX9_passSound_149 ((hB.2.2.2.2.2.2.2.2.2.1 _ hj).2.2 _ hT).2 ?_
                      refine lv_iload_n hx hb dX9_passSound_152 rfl (lv_at hl 4 rfl) ?_
                      refine lv_iadd hx hb dX9_passSound_153 ?_
                      refine pf_X9_388 F hB dX9_passSound_154 ((hB.2.2.2.2.2.2.2.2.2.1 _ hj).2.2 _ hT).2 (fun H locs hBn => ?_)
                      clear hB; have hB := hBn; clear hBn
                      have hI9 := si_of hB.2 (SI_done hV9 hI9 hj hi hk hT hQ9 hT9.2.1)
                      have hQ9 := tq_of hB.2 (TQ_PI (k9 := 2) (t := 13) hV9 hj hQ9 ((hB.2.2.2.2.2.2.2.2.2.1 _ hj).2.2 _ hT).2 (by decide))
                      have hV9 := hB.2
                      refine lv_iconst (v := 0) hx hb dX9_passSound_157 (by decide) ?_
                      exact cl_iret F hB hrt dX9_passSound_158 (by first | exact ⟨⟨_, rfl⟩, hI9, hQ9⟩ | exact ⟨⟨_, rfl⟩, SI_up hI9 (by omega), hQ9⟩ | fail "no road")
                · refine lv_aload_n hx hb dX9_passSound_100 rfl (lv_at hl 1 rfl) ?_
                  refine lv_aload_n hx hb dX9_passSound_101 rfl (lv_at hl 2 rfl) ?_
                  refine lv_iload_n hx hb dX9_passSound_102 rfl (lv_at hl 4 rfl) ?_
                  refine cl_vi (n := 0) (NC := 0) (av := [.ref (yX Y), .ref (ye Y i k), .int n]) hB (vi_crV F.1 (m_Hubcascade_receive_0 l D cy hst) (cwV 2 F.1.2.2.2.2 (vgV (vm_9 _ (List.mem_of_getElem? (i := 8) rfl)) (vm_9 _ (List.mem_of_getElem? (i := 9) rfl)) (vm_9 _ (List.mem_of_getElem? (i := 10) rfl)) (vm_4 _ (List.mem_of_getElem? (i := 20) rfl)) (vm_9 _ (List.mem_of_getElem? (i := 7) rfl))) rfl rfl rfl ⟨rfl, by decide, by decide, by decide +kernel⟩ ⟨Nat.le_of_ble_eq_true rfl, Nat.le_of_ble_eq_true rfl⟩) rfl ⟨_, _, _, _, _, _, rfl, rfl, rfl, rfl⟩ F.2.1 F.2.2.1 hs (fun _ _ _ _ => True.intro) (fun q hq => Or.inr hq) ⟨Nat.le_refl _, Nat.le_refl _⟩) hl.1 rfl (by intro j9 a9 x9 g1 g2; exact match j9, g1, g2 with | 0, g1, g2 => by cases g1; cases g2; exact okr (cl_kd (kd := 0) hB.2.1 hB.2.2.1.1 (by decide) (by decide +kernel)) | 1, g1, g2 => by cases g1; cases g2; exact okr (cl_kd (kd := 5) hB.2.1 (hB.2.2.2.2.2.2.1 _ _ hi hk).1 (by decide) (by decide +kernel)) | 2, g1, g2 => by cases g1; cases g2; exact ⟨_, rfl, (cl_full _).1, h8⟩ | n + 3, g1, g2 => by cases g1) (fun f hf => by cases hf) (Nat.le_of_ble_eq_true rfl) (by decide +kernel) (by decide) dX9_passSound_103 rfl (fun alt ha103 H locs v σ103 w103 hB hk103 ht103 hs103 hA103 => ?_)
                  have hv103 := vi_voids (by decide) ha103 hA103
                  subst hv103
                  have hI9 := SI_kept hV9 hB.2 hk103 (by decide +kernel) hI9
                  have hT9 := TA_kept hV9 hB.2 hk103 (by decide +kernel) hj hi hk hT hT9
                  have hQ9 := TQ_kept hV9 hB.2 hk103 (by decide +kernel) hj hQ9
                  have hV9 := hB.2
                  refine lv_goto (tgt := 115) hx hb dX9_passSound_106 (by decide) ?_
                  refine lv_aload_n hx hb dX9_passSound_115 rfl (lv_at hl 2 rfl) ?_
                  refine gf_X9_144 F hB dX9_passSound_116 (hB.2.2.2.2.2.2.1 _ _ hi hk).1 ?_
                  refine lv_if_eq (tgt := 147) hx hb dX9_passSound_119 (by decide) (fun c119 => ?_) (fun c119 => ?_)
                  · refine lv_aload_n hx hb dX9_passSound_147 rfl (lv_at hl 3 rfl) ?_
                    refine lv_dup hx hb dX9_passSound_148 rfl ?_
                    refine gf_X9_388 F hB dX9_passSound_149 ((hB.2.2.2.2.2.2.2.2.2.1 _ hj).2.2 _ hT).2 ?_
                    refine lv_iload_n hx hb dX9_passSound_152 rfl (lv_at hl 4 rfl) ?_
                    refine lv_iadd hx hb dX9_passSound_153 ?_
                    refine pf_X9_388 F hB dX9_passSound_154 ((hB.2.2.2.2.2.2.2.2.2.1 _ hj).2.2 _ hT).2 (fun H locs hBn => ?_)
                    clear hB; have hB := hBn; clear hBn
                    have hI9 := si_of hB.2 (SI_done hV9 hI9 hj hi hk hT hQ9 hT9.2.1)
                    have hQ9 := tq_of hB.2 (TQ_PI (k9 := 2) (t := 13) hV9 hj hQ9 ((hB.2.2.2.2.2.2.2.2.2.1 _ hj).2.2 _ hT).2 (by decide))
                    have hV9 := hB.2
                    refine lv_iconst (v := 0) hx hb dX9_passSound_157 (by decide) ?_
                    exact cl_iret F hB hrt dX9_passSound_158 (by first | exact ⟨⟨_, rfl⟩, hI9, hQ9⟩ | exact ⟨⟨_, rfl⟩, SI_up hI9 (by omega), hQ9⟩ | fail "no road")
                  · refine lv_aload_n hx hb dX9_passSound_122 rfl (lv_at hl 2 rfl) ?_
                    refine gr_X9_395 F hB dX9_passSound_123 (hB.2.2.2.2.2.2.1 _ _ hi hk).1 (hB.2.2.2.2.2.2.1 _ _ hi hk).2.1 ?_
                    refine lv_iload_n hx hb dX9_passSound_126 rfl (lv_at hl 4 rfl) ?_
                    refine cl_vi (n := 0) (NC := 0) (av := [.ref (yr Y i k), .int n]) hB (vi_crVN F.1 (m_ByteRow_drop_17 l D cy hst) ⟨va_cnB 1 F.1.2.2.2.2 (vgN (vm_0 _ (List.mem_of_getElem? (i := 11) rfl))) rfl rfl rfl (F.2.2.1.1 _ nf_124) (F.1.2.2.2.2 _ (List.mem_cons_of_mem _ (vm_0 _ (List.mem_of_getElem? (i := 23) rfl)))) ⟨by decide, by decide, by decide +kernel⟩ ⟨Nat.le_of_ble_eq_true rfl, Nat.le_of_ble_eq_true rfl⟩, F.1.2.2.2.2 _ (List.mem_cons_of_mem _ (vm_1 _ (List.mem_of_getElem? (i := 17) rfl))), F.1.2.2.2.2 _ (List.mem_cons_of_mem _ (vm_1 _ (List.mem_of_getElem? (i := 18) rfl)))⟩ rfl ⟨_, _, _, _, _, _, rfl, rfl, rfl, rfl⟩ F.2.1 F.2.2.1 hs (fun _ _ _ _ => True.intro) (fun q hq => Or.inr hq) ⟨Nat.le_refl _, Nat.le_refl _⟩) hl.1 rfl (by intro j9 a9 x9 g1 g2; exact match j9, g1, g2 with | 0, g1, g2 => by cases g1; cases g2; exact okr (en_row hB.2 hi hk) | 1, g1, g2 => by cases g1; cases g2; exact ⟨_, rfl, cl_full _⟩ | n + 2, g1, g2 => by cases g1) (fun f hf => by cases hf) (Nat.le_of_ble_eq_true rfl) (by decide +kernel) (by decide) dX9_passSound_127 rfl (fun alt ha127 H locs v σ127 w127 hB hk127 ht127 hs127 hA127 => ?_)
                    have hv127 := vi_voids (by decide) ha127 hA127
                    subst hv127
                    have hI9 := SI_kept hV9 hB.2 hk127 (by decide +kernel) hI9
                    have hT9 := TA_kept hV9 hB.2 hk127 (by decide +kernel) hj hi hk hT hT9
                    have hQ9 := TQ_kept hV9 hB.2 hk127 (by decide +kernel) hj hQ9
                    have hV9 := hB.2
                    refine lv_aload_n hx hb dX9_passSound_130 rfl (lv_at hl 3 rfl) ?_
                    refine lv_iload_n hx hb dX9_passSound_131 rfl (lv_at hl 4 rfl) ?_
                    refine lv_aload_n hx hb dX9_passSound_132 rfl (lv_at hl 2 rfl) ?_
                    refine gf_X9_147 F hB dX9_passSound_133 (hB.2.2.2.2.2.2.1 _ _ hi hk).1 ?_
                    refine lv_icmp_ge (tgt := 143) hx hb dX9_passSound_136 (by decide) (fun c136 => ?_) (fun c136 => ?_)
                    · refine lv_iconst (v := 0) hx hb dX9_passSound_143 (by decide) ?_
                      refine pf_X9_626 F hB dX9_passSound_144 ((hB.2.2.2.2.2.2.2.2.2.1 _ hj).2.2 _ hT).2 (show sgF 2 _ from ⟨by decide, by decide⟩) (fun H locs hBn => ?_)
                      clear hB; have hB := hBn; clear hBn
                      have hI9 := si_of hB.2 (SI_PI (k := 5) hV9 hI9 (t := 13) ((hB.2.2.2.2.2.2.2.2.2.1 _ hj).2.2 _ hT).2 rfl (by decide))
                      have hT9 := ta_of hB.2 (TA_PI (k9 := 5) (t := 13) hV9 hj hi hk hT hT9 ((hB.2.2.2.2.2.2.2.2.2.1 _ hj).2.2 _ hT).2 rfl)
                      have hQ9 := tq_of hB.2 (TQ_PI (k9 := 5) (t := 13) hV9 hj hQ9 ((hB.2.2.2.2.2.2.2.2.2.1 _ hj).2.2 _ hT).2 (by decide))
                      have hV9 := hB.2
                      refine lv_aload_n hx hb dX9_passSound_147 rfl (lv_at hl 3 rfl) ?_
                      refine lv_dup hx hb dX9_passSound_148 rfl ?_
                      refine gf_X9_388 F hB dX9_passSound_149 ((hB.2.2.2.2.2.2.2.2.2.1 _ hj).2.2 _ hT).2 ?_
                      refine lv_iload_n hx hb dX9_passSound_152 rfl (lv_at hl 4 rfl) ?_
                      refine lv_iadd hx hb dX9_passSound_153 ?_
                      refine pf_X9_388 F hB dX9_passSound_154 ((hB.2.2.2.2.2.2.2.2.2.1 _ hj).2.2 _ hT).2 (fun H locs hBn => ?_)
                      clear hB; have hB := hBn; clear hBn
                      have hI9 := si_of hB.2 (SI_done hV9 hI9 hj hi hk hT hQ9 hT9.2.1)
                      have hQ9 := tq_of hB.2 (TQ_PI (k9 := 2) (t := 13) hV9 hj hQ9 ((hB.2.2.2.2.2.2.2.2.2.1 _ hj).2.2 _ hT).2 (by decide))
                      have hV9 := hB.2
                      refine lv_iconst (v := 0) hx hb dX9_passSound_157 (by decide) ?_
                      exact cl_iret F hB hrt dX9_passSound_158 (by first | exact ⟨⟨_, rfl⟩, hI9, hQ9⟩ | exact ⟨⟨_, rfl⟩, SI_up hI9 (by omega), hQ9⟩ | fail "no road")
                    · refine lv_iconst (v := 1) hx hb dX9_passSound_139 (by decide) ?_
                      refine lv_goto (tgt := 144) hx hb dX9_passSound_140 (by decide) ?_
                      refine pf_X9_626 F hB dX9_passSound_144 ((hB.2.2.2.2.2.2.2.2.2.1 _ hj).2.2 _ hT).2 (show sgF 2 _ from ⟨by decide, by decide⟩) (fun H locs hBn => ?_)
                      clear hB; have hB := hBn; clear hBn
                      have hI9 := si_of hB.2 (SI_PI (k := 5) hV9 hI9 (t := 13) ((hB.2.2.2.2.2.2.2.2.2.1 _ hj).2.2 _ hT).2 rfl (by decide))
                      have hT9 := ta_of hB.2 (TA_PI (k9 := 5) (t := 13) hV9 hj hi hk hT hT9 ((hB.2.2.2.2.2.2.2.2.2.1 _ hj).2.2 _ hT).2 rfl)
                      have hQ9 := tq_of hB.2 (TQ_PI (k9 := 5) (t := 13) hV9 hj hQ9 ((hB.2.2.2.2.2.2.2.2.2.1 _ hj).2.2 _ hT).2 (by decide))
                      have hV9 := hB.2
                      refine lv_aload_n hx hb dX9_passSound_147 rfl (lv_at hl 3 rfl) ?_
                      refine lv_dup hx hb dX9_passSound_148 rfl ?_
                      refine gf_X9_388 F hB dX9_passSound_149 ((hB.2.2.2.2.2.2.2.2.2.1 _ hj).2.2 _ hT).2 ?_
                      refine lv_iload_n hx hb dX9_passSound_152 rfl (lv_at hl 4 rfl) ?_
                      refine lv_iadd hx hb dX9_passSound_153 ?_
                      refine pf_X9_388 F hB dX9_passSound_154 ((hB.2.2.2.2.2.2.2.2.2.1 _ hj).2.2 _ hT).2 (fun H locs hBn => ?_)
                      clear hB; have hB := hBn; clear hBn
                      have hI9 := si_of hB.2 (SI_done hV9 hI9 hj hi hk hT hQ9 hT9.2.1)
                      have hQ9 := tq_of hB.2 (TQ_PI (k9 := 2) (t := 13) hV9 hj hQ9 ((hB.2.2.2.2.2.2.2.2.2.1 _ hj).2.2 _ hT).2 (by decide))
                      have hV9 := hB.2
                      refine lv_iconst (v := 0) hx hb dX9_passSound_157 (by decide) ?_
                      exact cl_iret F hB hrt dX9_passSound_158 (by first | exact ⟨⟨_, rfl⟩, hI9, hQ9⟩ | exact ⟨⟨_, rfl⟩, SI_up hI9 (by omega), hQ9⟩ | fail "no road")
              · refine lv_aload_n hx hb dX9_passSound_85 rfl (lv_at hl 3 rfl) ?_
                refine lv_iconst (v := 1) hx hb dX9_passSound_86 (by decide) ?_
                refine pf_X9_623 F hB dX9_passSound_87 ((hB.2.2.2.2.2.2.2.2.2.1 _ hj).2.2 _ hT).2 ⟨by decide, by decide⟩ (fun H locs hBn => ?_)
                clear hB; have hB := hBn; clear hBn
                have hI9 := si_of hB.2 (SI_PI (k := 4) hV9 hI9 (t := 13) ((hB.2.2.2.2.2.2.2.2.2.1 _ hj).2.2 _ hT).2 rfl (by decide))
                have hT9 := ta_of hB.2 (TA_PI (k9 := 4) (t := 13) hV9 hj hi hk hT hT9 ((hB.2.2.2.2.2.2.2.2.2.1 _ hj).2.2 _ hT).2 rfl)
                have hQ9 := tq_of hB.2 (TQ_PI (k9 := 4) (t := 13) hV9 hj hQ9 ((hB.2.2.2.2.2.2.2.2.2.1 _ hj).2.2 _ hT).2 (by decide))
                have hV9 := hB.2
                refine lv_goto (tgt := 115) hx hb dX9_passSound_90 (by decide) ?_
                refine lv_aload_n hx hb dX9_passSound_115 rfl (lv_at hl 2 rfl) ?_
                refine gf_X9_144 F hB dX9_passSound_116 (hB.2.2.2.2.2.2.1 _ _ hi hk).1 ?_
                refine lv_if_eq (tgt := 147) hx hb dX9_passSound_119 (by decide) (fun c119 => ?_) (fun c119 => ?_)
                · refine lv_aload_n hx hb dX9_passSound_147 rfl (lv_at hl 3 rfl) ?_
                  refine lv_dup hx hb dX9_passSound_148 rfl ?_
                  refine gf_X9_388 F hB dX9_passSound_149 ((hB.2.2.2.2.2.2.2.2.2.1 _ hj).2.2 _ hT).2 ?_
                  refine lv_iload_n hx hb dX9_passSound_152 rfl (lv_at hl 4 rfl) ?_
                  refine lv_iadd hx hb dX9_passSound_153 ?_
                  refine pf_X9_388 F hB dX9_passSound_154 ((hB.2.2.2.2.2.2.2.2.2.1 _ hj).2.2 _ hT).2 (fun H locs hBn => ?_)
                  clear hB; have hB := hBn; clear hBn
                  have hI9 := si_of hB.2 (SI_done hV9 hI9 hj hi hk hT hQ9 hT9.2.1)
                  have hQ9 := tq_of hB.2 (TQ_PI (k9 := 2) (t := 13) hV9 hj hQ9 ((hB.2.2.2.2.2.2.2.2.2.1 _ hj).2.2 _ hT).2 (by decide))
                  have hV9 := hB.2
                  refine lv_iconst (v := 0) hx hb dX9_passSound_157 (by decide) ?_
                  exact cl_iret F hB hrt dX9_passSound_158 (by first | exact ⟨⟨_, rfl⟩, hI9, hQ9⟩ | exact ⟨⟨_, rfl⟩, SI_up hI9 (by omega), hQ9⟩ | fail "no road")
                · refine lv_aload_n hx hb dX9_passSound_122 rfl (lv_at hl 2 rfl) ?_
                  refine gr_X9_395 F hB dX9_passSound_123 (hB.2.2.2.2.2.2.1 _ _ hi hk).1 (hB.2.2.2.2.2.2.1 _ _ hi hk).2.1 ?_
                  refine lv_iload_n hx hb dX9_passSound_126 rfl (lv_at hl 4 rfl) ?_
                  refine cl_vi (n := 0) (NC := 0) (av := [.ref (yr Y i k), .int n]) hB (vi_crVN F.1 (m_ByteRow_drop_17 l D cy hst) ⟨va_cnB 1 F.1.2.2.2.2 (vgN (vm_0 _ (List.mem_of_getElem? (i := 11) rfl))) rfl rfl rfl (F.2.2.1.1 _ nf_124) (F.1.2.2.2.2 _ (List.mem_cons_of_mem _ (vm_0 _ (List.mem_of_getElem? (i := 23) rfl)))) ⟨by decide, by decide, by decide +kernel⟩ ⟨Nat.le_of_ble_eq_true rfl, Nat.le_of_ble_eq_true rfl⟩, F.1.2.2.2.2 _ (List.mem_cons_of_mem _ (vm_1 _ (List.mem_of_getElem? (i := 17) rfl))), F.1.2.2.2.2 _ (List.mem_cons_of_mem _ (vm_1 _ (List.mem_of_getElem? (i := 18) rfl)))⟩ rfl ⟨_, _, _, _, _, _, rfl, rfl, rfl, rfl⟩ F.2.1 F.2.2.1 hs (fun _ _ _ _ => True.intro) (fun q hq => Or.inr hq) ⟨Nat.le_refl _, Nat.le_refl _⟩) hl.1 rfl (by intro j9 a9 x9 g1 g2; exact match j9, g1, g2 with | 0, g1, g2 => by cases g1; cases g2; exact okr (en_row hB.2 hi hk) | 1, g1, g2 => by cases g1; cases g2; exact ⟨_, rfl, cl_full _⟩ | n + 2, g1, g2 => by cases g1) (fun f hf => by cases hf) (Nat.le_of_ble_eq_true rfl) (by decide +kernel) (by decide) dX9_passSound_127 rfl (fun alt ha127 H locs v σ127 w127 hB hk127 ht127 hs127 hA127 => ?_)
                  have hv127 := vi_voids (by decide) ha127 hA127
                  subst hv127
                  have hI9 := SI_kept hV9 hB.2 hk127 (by decide +kernel) hI9
                  have hT9 := TA_kept hV9 hB.2 hk127 (by decide +kernel) hj hi hk hT hT9
                  have hQ9 := TQ_kept hV9 hB.2 hk127 (by decide +kernel) hj hQ9
                  have hV9 := hB.2
                  refine lv_aload_n hx hb dX9_passSound_130 rfl (lv_at hl 3 rfl) ?_
                  refine lv_iload_n hx hb dX9_passSound_131 rfl (lv_at hl 4 rfl) ?_
                  refine lv_aload_n hx hb dX9_passSound_132 rfl (lv_at hl 2 rfl) ?_
                  refine gf_X9_147 F hB dX9_passSound_133 (hB.2.2.2.2.2.2.1 _ _ hi hk).1 ?_
                  refine lv_icmp_ge (tgt := 143) hx hb dX9_passSound_136 (by decide) (fun c136 => ?_) (fun c136 => ?_)
                  · refine lv_iconst (v := 0) hx hb dX9_passSound_143 (by decide) ?_
                    refine pf_X9_626 F hB dX9_passSound_144 ((hB.2.2.2.2.2.2.2.2.2.1 _ hj).2.2 _ hT).2 (show sgF 2 _ from ⟨by decide, by decide⟩) (fun H locs hBn => ?_)
                    clear hB; have hB := hBn; clear hBn
                    have hI9 := si_of hB.2 (SI_PI (k := 5) hV9 hI9 (t := 13) ((hB.2.2.2.2.2.2.2.2.2.1 _ hj).2.2 _ hT).2 rfl (by decide))
                    have hT9 := ta_of hB.2 (TA_PI (k9 := 5) (t := 13) hV9 hj hi hk hT hT9 ((hB.2.2.2.2.2.2.2.2.2.1 _ hj).2.2 _ hT).2 rfl)
                    have hQ9 := tq_of hB.2 (TQ_PI (k9 := 5) (t := 13) hV9 hj hQ9 ((hB.2.2.2.2.2.2.2.2.2.1 _ hj).2.2 _ hT).2 (by decide))
                    have hV9 := hB.2
                    refine lv_aload_n hx hb dX9_passSound_147 rfl (lv_at hl 3 rfl) ?_
                    refine lv_dup hx hb dX9_passSound_148 rfl ?_
                    refine gf_X9_388 F hB dX9_passSound_149 ((hB.2.2.2.2.2.2.2.2.2.1 _ hj).2.2 _ hT).2 ?_
                    refine lv_iload_n hx hb dX9_passSound_152 rfl (lv_at hl 4 rfl) ?_
                    refine lv_iadd hx hb dX9_passSound_153 ?_
                    refine pf_X9_388 F hB dX9_passSound_154 ((hB.2.2.2.2.2.2.2.2.2.1 _ hj).2.2 _ hT).2 (fun H locs hBn => ?_)
                    clear hB; have hB := hBn; clear hBn
                    have hI9 := si_of hB.2 (SI_done hV9 hI9 hj hi hk hT hQ9 hT9.2.1)
                    have hQ9 := tq_of hB.2 (TQ_PI (k9 := 2) (t := 13) hV9 hj hQ9 ((hB.2.2.2.2.2.2.2.2.2.1 _ hj).2.2 _ hT).2 (by decide))
                    have hV9 := hB.2
                    refine lv_iconst (v := 0) hx hb dX9_passSound_157 (by decide) ?_
                    exact cl_iret F hB hrt dX9_passSound_158 (by first | exact ⟨⟨_, rfl⟩, hI9, hQ9⟩ | exact ⟨⟨_, rfl⟩, SI_up hI9 (by omega), hQ9⟩ | fail "no road")
                  · refine lv_iconst (v := 1) hx hb dX9_passSound_139 (by decide) ?_
                    refine lv_goto (tgt := 144) hx hb dX9_passSound_140 (by decide) ?_
                    refine pf_X9_626 F hB dX9_passSound_144 ((hB.2.2.2.2.2.2.2.2.2.1 _ hj).2.2 _ hT).2 (show sgF 2 _ from ⟨by decide, by decide⟩) (fun H locs hBn => ?_)
                    clear hB; have hB := hBn; clear hBn
                    have hI9 := si_of hB.2 (SI_PI (k := 5) hV9 hI9 (t := 13) ((hB.2.2.2.2.2.2.2.2.2.1 _ hj).2.2 _ hT).2 rfl (by decide))
                    have hT9 := ta_of hB.2 (TA_PI (k9 := 5) (t := 13) hV9 hj hi hk hT hT9 ((hB.2.2.2.2.2.2.2.2.2.1 _ hj).2.2 _ hT).2 rfl)
                    have hQ9 := tq_of hB.2 (TQ_PI (k9 := 5) (t := 13) hV9 hj hQ9 ((hB.2.2.2.2.2.2.2.2.2.1 _ hj).2.2 _ hT).2 (by decide))
                    have hV9 := hB.2
                    refine lv_aload_n hx hb dX9_passSound_147 rfl (lv_at hl 3 rfl) ?_
                    refine lv_dup hx hb dX9_passSound_148 rfl ?_
                    refine gf_X9_388 F hB dX9_passSound_149 ((hB.2.2.2.2.2.2.2.2.2.1 _ hj).2.2 _ hT).2 ?_
                    refine lv_iload_n hx hb dX9_passSound_152 rfl (lv_at hl 4 rfl) ?_
                    refine lv_iadd hx hb dX9_passSound_153 ?_
                    refine pf_X9_388 F hB dX9_passSound_154 ((hB.2.2.2.2.2.2.2.2.2.1 _ hj).2.2 _ hT).2 (fun H locs hBn => ?_)
                    clear hB; have hB := hBn; clear hBn
                    have hI9 := si_of hB.2 (SI_done hV9 hI9 hj hi hk hT hQ9 hT9.2.1)
                    have hQ9 := tq_of hB.2 (TQ_PI (k9 := 2) (t := 13) hV9 hj hQ9 ((hB.2.2.2.2.2.2.2.2.2.1 _ hj).2.2 _ hT).2 (by decide))
                    have hV9 := hB.2
                    refine lv_iconst (v := 0) hx hb dX9_passSound_157 (by decide) ?_
                    exact cl_iret F hB hrt dX9_passSound_158 (by first | exact ⟨⟨_, rfl⟩, hI9, hQ9⟩ | exact ⟨⟨_, rfl⟩, SI_up hI9 (by omega), hQ9⟩ | fail "no road")
      · refine lv_iconst (v := 2) hx hb dX9_passSound_20 (by decide) ?_
        exact cl_iret F hB hrt dX9_passSound_21 (by first | exact ⟨⟨_, rfl⟩, hI9, hQ9⟩ | exact ⟨⟨_, rfl⟩, SI_up hI9 (by omega), hQ9⟩ | fail "no road")
    · refine lv_iconst (v := 4) hx hb dX9_passSound_14 (by decide) ?_
      exact cl_iret F hB hrt dX9_passSound_15 (by first | exact ⟨⟨_, rfl⟩, hI9, hQ9⟩ | exact ⟨⟨_, rfl⟩, SI_up hI9 (by omega), hQ9⟩ | fail "no road")

theorem dX9_passIn_0 : decode cX9_passIn 0 = .ok (.iload 6, 2) := by decide +kernel
theorem dX9_passIn_2 : decode cX9_passIn 2 = .ok (.bipush 99, 2) := by decide +kernel
theorem dX9_passIn_4 : decode cX9_passIn 4 = .ok (.if_icmp .ne 5, 3) := by decide +kernel
theorem dX9_passIn_7 : decode cX9_passIn 7 = .ok (.iconst 1, 1) := by decide +kernel
theorem dX9_passIn_8 : decode cX9_passIn 8 = .ok (.ireturn, 1) := by decide +kernel
theorem dX9_passIn_9 : decode cX9_passIn 9 = .ok (.iload 6, 2) := by decide +kernel
theorem dX9_passIn_11 : decode cX9_passIn 11 = .ok (.bipush 98, 2) := by decide +kernel
theorem dX9_passIn_13 : decode cX9_passIn 13 = .ok (.if_icmp .ne 5, 3) := by decide +kernel
theorem dX9_passIn_16 : decode cX9_passIn 16 = .ok (.iconst 4, 1) := by decide +kernel
theorem dX9_passIn_17 : decode cX9_passIn 17 = .ok (.ireturn, 1) := by decide +kernel
theorem dX9_passIn_18 : decode cX9_passIn 18 = .ok (.iload 6, 2) := by decide +kernel
theorem dX9_passIn_20 : decode cX9_passIn 20 = .ok (.bipush 115, 2) := by decide +kernel
theorem dX9_passIn_22 : decode cX9_passIn 22 = .ok (.if_icmp .ne 18, 3) := by decide +kernel
theorem dX9_passIn_25 : decode cX9_passIn 25 = .ok (.aload_n 0, 1) := by decide +kernel
theorem dX9_passIn_26 : decode cX9_passIn 26 = .ok (.getfield 59, 3) := by decide +kernel
theorem dX9_passIn_29 : decode cX9_passIn 29 = .ok (.dup, 1) := by decide +kernel
theorem dX9_passIn_30 : decode cX9_passIn 30 = .ok (.getfield 484, 3) := by decide +kernel
theorem dX9_passIn_33 : decode cX9_passIn 33 = .ok (.iconst 1, 1) := by decide +kernel
theorem dX9_passIn_34 : decode cX9_passIn 34 = .ok (.iadd, 1) := by decide +kernel
theorem dX9_passIn_35 : decode cX9_passIn 35 = .ok (.putfield 484, 3) := by decide +kernel
theorem dX9_passIn_38 : decode cX9_passIn 38 = .ok (.iconst 3, 1) := by decide +kernel
theorem dX9_passIn_39 : decode cX9_passIn 39 = .ok (.ireturn, 1) := by decide +kernel
theorem dX9_passIn_40 : decode cX9_passIn 40 = .ok (.iload 6, 2) := by decide +kernel
theorem dX9_passIn_42 : decode cX9_passIn 42 = .ok (.bipush 110, 2) := by decide +kernel
theorem dX9_passIn_44 : decode cX9_passIn 44 = .ok (.if_icmp .eq 8, 3) := by decide +kernel
theorem dX9_passIn_47 : decode cX9_passIn 47 = .ok (.iload 5, 2) := by decide +kernel
theorem dX9_passIn_49 : decode cX9_passIn 49 = .ok (.ifCond .ne 18, 3) := by decide +kernel
theorem dX9_passIn_52 : decode cX9_passIn 52 = .ok (.aload_n 0, 1) := by decide +kernel
theorem dX9_passIn_53 : decode cX9_passIn 53 = .ok (.getfield 59, 3) := by decide +kernel
theorem dX9_passIn_56 : decode cX9_passIn 56 = .ok (.dup, 1) := by decide +kernel
theorem dX9_passIn_57 : decode cX9_passIn 57 = .ok (.getfield 484, 3) := by decide +kernel
theorem dX9_passIn_60 : decode cX9_passIn 60 = .ok (.iconst 1, 1) := by decide +kernel
theorem dX9_passIn_61 : decode cX9_passIn 61 = .ok (.iadd, 1) := by decide +kernel
theorem dX9_passIn_62 : decode cX9_passIn 62 = .ok (.putfield 484, 3) := by decide +kernel
theorem dX9_passIn_65 : decode cX9_passIn 65 = .ok (.iconst 2, 1) := by decide +kernel
theorem dX9_passIn_66 : decode cX9_passIn 66 = .ok (.ireturn, 1) := by decide +kernel
theorem dX9_passIn_67 : decode cX9_passIn 67 = .ok (.aload_n 0, 1) := by decide +kernel
theorem dX9_passIn_68 : decode cX9_passIn 68 = .ok (.getfield 59, 3) := by decide +kernel
theorem dX9_passIn_71 : decode cX9_passIn 71 = .ok (.dup, 1) := by decide +kernel
theorem dX9_passIn_72 : decode cX9_passIn 72 = .ok (.getfield 481, 3) := by decide +kernel
theorem dX9_passIn_75 : decode cX9_passIn 75 = .ok (.iconst 1, 1) := by decide +kernel
theorem dX9_passIn_76 : decode cX9_passIn 76 = .ok (.iadd, 1) := by decide +kernel
theorem dX9_passIn_77 : decode cX9_passIn 77 = .ok (.putfield 481, 3) := by decide +kernel
theorem dX9_passIn_80 : decode cX9_passIn 80 = .ok (.iload 6, 2) := by decide +kernel
theorem dX9_passIn_82 : decode cX9_passIn 82 = .ok (.bipush 116, 2) := by decide +kernel
theorem dX9_passIn_84 : decode cX9_passIn 84 = .ok (.if_icmp .ne 34, 3) := by decide +kernel
theorem dX9_passIn_87 : decode cX9_passIn 87 = .ok (.aload_n 0, 1) := by decide +kernel
theorem dX9_passIn_88 : decode cX9_passIn 88 = .ok (.getfield 59, 3) := by decide +kernel
theorem dX9_passIn_91 : decode cX9_passIn 91 = .ok (.dup, 1) := by decide +kernel
theorem dX9_passIn_92 : decode cX9_passIn 92 = .ok (.getfield 484, 3) := by decide +kernel
theorem dX9_passIn_95 : decode cX9_passIn 95 = .ok (.iconst 1, 1) := by decide +kernel
theorem dX9_passIn_96 : decode cX9_passIn 96 = .ok (.iadd, 1) := by decide +kernel
theorem dX9_passIn_97 : decode cX9_passIn 97 = .ok (.putfield 484, 3) := by decide +kernel
theorem dX9_passIn_100 : decode cX9_passIn 100 = .ok (.aload_n 2, 1) := by decide +kernel
theorem dX9_passIn_101 : decode cX9_passIn 101 = .ok (.dup, 1) := by decide +kernel
theorem dX9_passIn_102 : decode cX9_passIn 102 = .ok (.getfield 489, 3) := by decide +kernel
theorem dX9_passIn_105 : decode cX9_passIn 105 = .ok (.iconst 1, 1) := by decide +kernel
theorem dX9_passIn_106 : decode cX9_passIn 106 = .ok (.iadd, 1) := by decide +kernel
theorem dX9_passIn_107 : decode cX9_passIn 107 = .ok (.putfield 489, 3) := by decide +kernel
theorem dX9_passIn_110 : decode cX9_passIn 110 = .ok (.aload_n 3, 1) := by decide +kernel
theorem dX9_passIn_111 : decode cX9_passIn 111 = .ok (.iload 5, 2) := by decide +kernel
theorem dX9_passIn_113 : decode cX9_passIn 113 = .ok (.invokevirtual 644, 3) := by decide +kernel
theorem dX9_passIn_116 : decode cX9_passIn 116 = .ok (.iconst 0, 1) := by decide +kernel
theorem dX9_passIn_117 : decode cX9_passIn 117 = .ok (.ireturn, 1) := by decide +kernel
theorem dX9_passIn_118 : decode cX9_passIn 118 = .ok (.aload_n 3, 1) := by decide +kernel
theorem dX9_passIn_119 : decode cX9_passIn 119 = .ok (.iload 5, 2) := by decide +kernel
theorem dX9_passIn_121 : decode cX9_passIn 121 = .ok (.putfield 594, 3) := by decide +kernel
theorem dX9_passIn_124 : decode cX9_passIn 124 = .ok (.iload 6, 2) := by decide +kernel
theorem dX9_passIn_126 : decode cX9_passIn 126 = .ok (.bipush 100, 2) := by decide +kernel
theorem dX9_passIn_128 : decode cX9_passIn 128 = .ok (.if_icmp .ne 5, 3) := by decide +kernel
theorem dX9_passIn_131 : decode cX9_passIn 131 = .ok (.iconst 1, 1) := by decide +kernel
theorem dX9_passIn_132 : decode cX9_passIn 132 = .ok (.ireturn, 1) := by decide +kernel
theorem dX9_passIn_133 : decode cX9_passIn 133 = .ok (.aload_n 3, 1) := by decide +kernel
theorem dX9_passIn_134 : decode cX9_passIn 134 = .ok (.getfield 640, 3) := by decide +kernel
theorem dX9_passIn_137 : decode cX9_passIn 137 = .ok (.aload_n 1, 1) := by decide +kernel
theorem dX9_passIn_138 : decode cX9_passIn 138 = .ok (.getfield 643, 3) := by decide +kernel
theorem dX9_passIn_141 : decode cX9_passIn 141 = .ok (.if_icmp .ne 51, 3) := by decide +kernel
theorem dX9_passIn_144 : decode cX9_passIn 144 = .ok (.aload_n 0, 1) := by decide +kernel
theorem dX9_passIn_145 : decode cX9_passIn 145 = .ok (.aload_n 3, 1) := by decide +kernel
theorem dX9_passIn_146 : decode cX9_passIn 146 = .ok (.iload 5, 2) := by decide +kernel
theorem dX9_passIn_148 : decode cX9_passIn 148 = .ok (.invokevirtual 632, 3) := by decide +kernel
theorem dX9_passIn_151 : decode cX9_passIn 151 = .ok (.aload_n 1, 1) := by decide +kernel
theorem dX9_passIn_152 : decode cX9_passIn 152 = .ok (.iconst 1, 1) := by decide +kernel
theorem dX9_passIn_153 : decode cX9_passIn 153 = .ok (.aload_n 1, 1) := by decide +kernel
theorem dX9_passIn_154 : decode cX9_passIn 154 = .ok (.getfield 643, 3) := by decide +kernel
theorem dX9_passIn_157 : decode cX9_passIn 157 = .ok (.isub, 1) := by decide +kernel
theorem dX9_passIn_158 : decode cX9_passIn 158 = .ok (.putfield 643, 3) := by decide +kernel
theorem dX9_passIn_161 : decode cX9_passIn 161 = .ok (.aload 4, 2) := by decide +kernel
theorem dX9_passIn_163 : decode cX9_passIn 163 = .ok (.dup, 1) := by decide +kernel
theorem dX9_passIn_164 : decode cX9_passIn 164 = .ok (.getfield 388, 3) := by decide +kernel
theorem dX9_passIn_167 : decode cX9_passIn 167 = .ok (.iload 5, 2) := by decide +kernel
theorem dX9_passIn_169 : decode cX9_passIn 169 = .ok (.iadd, 1) := by decide +kernel
theorem dX9_passIn_170 : decode cX9_passIn 170 = .ok (.putfield 388, 3) := by decide +kernel
theorem dX9_passIn_173 : decode cX9_passIn 173 = .ok (.aload 4, 2) := by decide +kernel
theorem dX9_passIn_175 : decode cX9_passIn 175 = .ok (.iload 5, 2) := by decide +kernel
theorem dX9_passIn_177 : decode cX9_passIn 177 = .ok (.aload_n 3, 1) := by decide +kernel
theorem dX9_passIn_178 : decode cX9_passIn 178 = .ok (.getfield 147, 3) := by decide +kernel
theorem dX9_passIn_181 : decode cX9_passIn 181 = .ok (.if_icmp .ge 7, 3) := by decide +kernel
theorem dX9_passIn_184 : decode cX9_passIn 184 = .ok (.iconst 1, 1) := by decide +kernel
theorem dX9_passIn_185 : decode cX9_passIn 185 = .ok (.goto 4, 3) := by decide +kernel
theorem dX9_passIn_188 : decode cX9_passIn 188 = .ok (.iconst 0, 1) := by decide +kernel
theorem dX9_passIn_189 : decode cX9_passIn 189 = .ok (.putfield 626, 3) := by decide +kernel
theorem dX9_passIn_192 : decode cX9_passIn 192 = .ok (.iload 6, 2) := by decide +kernel
theorem dX9_passIn_194 : decode cX9_passIn 194 = .ok (.bipush 97, 2) := by decide +kernel
theorem dX9_passIn_196 : decode cX9_passIn 196 = .ok (.if_icmp .ne 5, 3) := by decide +kernel
theorem dX9_passIn_199 : decode cX9_passIn 199 = .ok (.iconst 1, 1) := by decide +kernel
theorem dX9_passIn_200 : decode cX9_passIn 200 = .ok (.ireturn, 1) := by decide +kernel
theorem dX9_passIn_201 : decode cX9_passIn 201 = .ok (.aload_n 0, 1) := by decide +kernel
theorem dX9_passIn_202 : decode cX9_passIn 202 = .ok (.getfield 59, 3) := by decide +kernel
theorem dX9_passIn_205 : decode cX9_passIn 205 = .ok (.dup, 1) := by decide +kernel
theorem dX9_passIn_206 : decode cX9_passIn 206 = .ok (.getfield 484, 3) := by decide +kernel
theorem dX9_passIn_209 : decode cX9_passIn 209 = .ok (.iconst 1, 1) := by decide +kernel
theorem dX9_passIn_210 : decode cX9_passIn 210 = .ok (.iadd, 1) := by decide +kernel
theorem dX9_passIn_211 : decode cX9_passIn 211 = .ok (.putfield 484, 3) := by decide +kernel
theorem dX9_passIn_214 : decode cX9_passIn 214 = .ok (.aload_n 3, 1) := by decide +kernel
theorem dX9_passIn_215 : decode cX9_passIn 215 = .ok (.iconst 1, 1) := by decide +kernel
theorem dX9_passIn_216 : decode cX9_passIn 216 = .ok (.aload_n 3, 1) := by decide +kernel
theorem dX9_passIn_217 : decode cX9_passIn 217 = .ok (.getfield 640, 3) := by decide +kernel
theorem dX9_passIn_220 : decode cX9_passIn 220 = .ok (.isub, 1) := by decide +kernel
theorem dX9_passIn_221 : decode cX9_passIn 221 = .ok (.putfield 640, 3) := by decide +kernel
theorem dX9_passIn_224 : decode cX9_passIn 224 = .ok (.aload_n 3, 1) := by decide +kernel
theorem dX9_passIn_225 : decode cX9_passIn 225 = .ok (.iload 5, 2) := by decide +kernel
theorem dX9_passIn_227 : decode cX9_passIn 227 = .ok (.invokevirtual 644, 3) := by decide +kernel
theorem dX9_passIn_230 : decode cX9_passIn 230 = .ok (.iconst 0, 1) := by decide +kernel
theorem dX9_passIn_231 : decode cX9_passIn 231 = .ok (.ireturn, 1) := by decide +kernel
set_option maxRecDepth 100000 in
set_option maxHeartbeats 4000000 in
theorem k_pIn (l : Launch) (D : va_G) (cy : Nat → ClassId) {ad τ : List Nat} {Y : CY} {σ : SG} (hst : l.stackTraces = false) (hs : vi_s1 vSG τ) (hV : VL cy ad τ Y σ) {B : Int} (hI : SI Y σ B) {j i k T : Nat} (hj : j < 12) (hi : i < 16) (hk : k < 3) (hT : T < 4) (hQ : TQ Y σ j i k) (n fl : Int32) (hP0 : TP Y σ j i k T n.toInt) (h8 : n.toInt ≤ 8) (hB9 : B ≤ 1000000000)  (sz : Nat) : clM l D cy ad τ Y σ sz yX9_passIn (Cond.code yX9_passIn cX9_passIn 7 (some .int) :: vWall) 3 64 [.ref (yX Y), .ref (yp Y j), .ref (yd Y i), .ref (ye Y i k), .ref (yt Y j T), .int n, .int fl] (fun v s2 => (∃ x : Int32, v = some (.int x)) ∧ SI Y s2 (B + 8) ∧ TQ Y s2 j i k) := by
  refine cl_ofW (cc := cX9_passIn) (maxL := 7) (ret := (some .int)) hV (by decide) rfl (Nat.le_of_ble_eq_true rfl) (lv := [(0, .ref (yX Y)), (1, .ref (yp Y j)), (2, .ref (yd Y i)), (3, .ref (ye Y i k)), (4, .ref (yt Y j T)), (5, .int n), (6, .int fl)]) rfl (fun p e s m below meth c ls H hrt hnm F hB hl => ?_) sz
  have hx := F.1.1
  have hb := F.1.2.1
  have hown := F.1.2.2.2.1
  generalize hlo : ([] : List Loc) = locs at hB ⊢
  clear hlo
  obtain ⟨LX, LD, Ld, LE, Le, LP9, Lp, Lt, LU, LA, Lz⟩ := hV.2
  have e0 : (0 : Int32).toInt = 0 := rfl
  have e1 : (1 : Int32).toInt = 1 := rfl
  have e16 : (16 : Int32).toInt = 16 := rfl
  have e12 : (12 : Int32).toInt = 12 := rfl
  have e4 : (4 : Int32).toInt = 4 := rfl
  have e8 : (8 : Int32).toInt = 8 := rfl
  have hV9 := hV
  have hI9 := hI
  have hQ9 := hQ
  have hT9 : TA Y σ j i k T n.toInt (sgI σ (ye Y i k) 1) := ⟨hQ, hP0, rfl⟩
  refine lv_iload hx hb dX9_passIn_0 (lv_at hl 6 rfl) ?_
  refine lv_bipush (v := 99) hx hb dX9_passIn_2 (by decide) ?_
  refine lv_icmp_ne (tgt := 9) hx hb dX9_passIn_4 (by decide) (fun c4 => ?_) (fun c4 => ?_)
  · refine lv_iload hx hb dX9_passIn_9 (lv_at hl 6 rfl) ?_
    refine lv_bipush (v := 98) hx hb dX9_passIn_11 (by decide) ?_
    refine lv_icmp_ne (tgt := 18) hx hb dX9_passIn_13 (by decide) (fun c13 => ?_) (fun c13 => ?_)
    · refine lv_iload hx hb dX9_passIn_18 (lv_at hl 6 rfl) ?_
      refine lv_bipush (v := 115) hx hb dX9_passIn_20 (by decide) ?_
      refine lv_icmp_ne (tgt := 40) hx hb dX9_passIn_22 (by decide) (fun c22 => ?_) (fun c22 => ?_)
      · refine lv_iload hx hb dX9_passIn_40 (lv_at hl 6 rfl) ?_
        refine lv_bipush (v := 110) hx hb dX9_passIn_42 (by decide) ?_
        refine lv_icmp_eq (tgt := 52) hx hb dX9_passIn_44 (by decide) (fun c44 => ?_) (fun c44 => ?_)
        · refine lv_aload_n hx hb dX9_passIn_52 rfl (lv_at hl 0 rfl) ?_
          obtain ⟨sn, hsn, tsn⟩ := sn_of hB.2
          refine gr_X9_59 F hB dX9_passIn_53 hB.2.2.1.1 hsn ?_
          refine lv_dup hx hb dX9_passIn_56 rfl ?_
          refine gf_X9_484 F hB dX9_passIn_57 tsn ?_
          refine lv_iconst (v := 1) hx hb dX9_passIn_60 (by decide) ?_
          refine lv_iadd hx hb dX9_passIn_61 ?_
          refine pf_X9_484 F hB dX9_passIn_62 tsn (fun H locs hBn => ?_)
          clear hB; have hB := hBn; clear hBn
          have hI9 := si_of hB.2 (SI_PI (k := 2) hV9 hI9 (t := 12) tsn rfl (by decide))
          have hT9 := ta_of hB.2 (TA_PI (k9 := 2) (t := 12) hV9 hj hi hk hT hT9 tsn rfl)
          have hQ9 := tq_of hB.2 (TQ_PI (k9 := 2) (t := 12) hV9 hj hQ9 tsn (by decide))
          have hV9 := hB.2
          refine lv_iconst (v := 2) hx hb dX9_passIn_65 (by decide) ?_
          exact cl_iret F hB hrt dX9_passIn_66 (by first | exact ⟨⟨_, rfl⟩, hI9, hQ9⟩ | exact ⟨⟨_, rfl⟩, SI_up hI9 (by omega), hQ9⟩ | fail "no road")
        · refine lv_iload hx hb dX9_passIn_47 (lv_at hl 5 rfl) ?_
          refine lv_if_ne (tgt := 67) hx hb dX9_passIn_49 (by decide) (fun c49 => ?_) (fun c49 => ?_)
          · refine lv_aload_n hx hb dX9_passIn_67 rfl (lv_at hl 0 rfl) ?_
            obtain ⟨sn, hsn, tsn⟩ := sn_of hB.2
            refine gr_X9_59 F hB dX9_passIn_68 hB.2.2.1.1 hsn ?_
            refine lv_dup hx hb dX9_passIn_71 rfl ?_
            refine gf_X9_481 F hB dX9_passIn_72 tsn ?_
            refine lv_iconst (v := 1) hx hb dX9_passIn_75 (by decide) ?_
            refine lv_iadd hx hb dX9_passIn_76 ?_
            refine pf_X9_481 F hB dX9_passIn_77 tsn (fun H locs hBn => ?_)
            clear hB; have hB := hBn; clear hBn
            have hI9 := si_of hB.2 (SI_PI (k := 1) hV9 hI9 (t := 12) tsn rfl (by decide))
            have hT9 := ta_of hB.2 (TA_PI (k9 := 1) (t := 12) hV9 hj hi hk hT hT9 tsn rfl)
            have hQ9 := tq_of hB.2 (TQ_PI (k9 := 1) (t := 12) hV9 hj hQ9 tsn (by decide))
            have hV9 := hB.2
            refine lv_iload hx hb dX9_passIn_80 (lv_at hl 6 rfl) ?_
            refine lv_bipush (v := 116) hx hb dX9_passIn_82 (by decide) ?_
            refine lv_icmp_ne (tgt := 118) hx hb dX9_passIn_84 (by decide) (fun c84 => ?_) (fun c84 => ?_)
            · refine lv_aload_n hx hb dX9_passIn_118 rfl (lv_at hl 3 rfl) ?_
              refine lv_iload hx hb dX9_passIn_119 (lv_at hl 5 rfl) ?_
              refine pf_X9_594 F hB dX9_passIn_121 (hB.2.2.2.2.2.2.1 _ _ hi hk).1 ⟨(cl_full _).1, h8⟩ (fun H locs hBn => ?_)
              clear hB; have hB := hBn; clear hBn
              have hI9 := si_of hB.2 (SI_PI (k := 5) hV9 hI9 (t := 8) (hB.2.2.2.2.2.2.1 _ _ hi hk).1 rfl (by decide))
              have hT9 := ta_of hB.2 (TA_PI (k9 := 5) (t := 8) hV9 hj hi hk hT hT9 (hB.2.2.2.2.2.2.1 _ _ hi hk).1 rfl)
              have hQ9 := tq_of hB.2 (TQ_PI (k9 := 5) (t := 8) hV9 hj hQ9 (hB.2.2.2.2.2.2.1 _ _ hi hk).1 (by decide))
              have hV9 := hB.2
              refine lv_iload hx hb dX9_passIn_124 (lv_at hl 6 rfl) ?_
              refine lv_bipush (v := 100) hx hb dX9_passIn_126 (by decide) ?_
              refine lv_icmp_ne (tgt := 133) hx hb dX9_passIn_128 (by decide) (fun c128 => ?_) (fun c128 => ?_)
              · refine lv_aload_n hx hb dX9_passIn_133 rfl (lv_at hl 3 rfl) ?_
                refine gf_X9_640 F hB dX9_passIn_134 (hB.2.2.2.2.2.2.1 _ _ hi hk).1 ?_
                refine lv_aload_n hx hb dX9_passIn_137 rfl (lv_at hl 1 rfl) ?_
                refine gf_X9_643 F hB dX9_passIn_138 (hB.2.2.2.2.2.2.2.2.1 _ hj).1 ?_
                refine lv_icmp_ne (tgt := 192) hx hb dX9_passIn_141 (by decide) (fun c141 => ?_) (fun c141 => ?_)
                · refine lv_iload hx hb dX9_passIn_192 (lv_at hl 6 rfl) ?_
                  refine lv_bipush (v := 97) hx hb dX9_passIn_194 (by decide) ?_
                  refine lv_icmp_ne (tgt := 201) hx hb dX9_passIn_196 (by decide) (fun c196 => ?_) (fun c196 => ?_)
                  · refine lv_aload_n hx hb dX9_passIn_201 rfl (lv_at hl 0 rfl) ?_
                    obtain ⟨sn, hsn, tsn⟩ := sn_of hB.2
                    refine gr_X9_59 F hB dX9_passIn_202 hB.2.2.1.1 hsn ?_
                    refine lv_dup hx hb dX9_passIn_205 rfl ?_
                    refine gf_X9_484 F hB dX9_passIn_206 tsn ?_
                    refine lv_iconst (v := 1) hx hb dX9_passIn_209 (by decide) ?_
                    refine lv_iadd hx hb dX9_passIn_210 ?_
                    refine pf_X9_484 F hB dX9_passIn_211 tsn (fun H locs hBn => ?_)
                    clear hB; have hB := hBn; clear hBn
                    have hI9 := si_of hB.2 (SI_PI (k := 2) hV9 hI9 (t := 12) tsn rfl (by decide))
                    have hQ9 := tq_of hB.2 (TQ_PI (k9 := 2) (t := 12) hV9 hj hQ9 tsn (by decide))
                    have hV9 := hB.2
                    refine lv_aload_n hx hb dX9_passIn_214 rfl (lv_at hl 3 rfl) ?_
                    refine lv_iconst (v := 1) hx hb dX9_passIn_215 (by decide) ?_
                    refine lv_aload_n hx hb dX9_passIn_216 rfl (lv_at hl 3 rfl) ?_
                    refine gf_X9_640 F hB dX9_passIn_217 (hB.2.2.2.2.2.2.1 _ _ hi hk).1 ?_
                    refine lv_isub hx hb dX9_passIn_220 ?_
                    refine pf_X9_640 F hB dX9_passIn_221 (hB.2.2.2.2.2.2.1 _ _ hi hk).1 (fun H locs hBn => ?_)
                    clear hB; have hB := hBn; clear hBn
                    have hI9 := si_of hB.2 (SI_PI (k := 4) hV9 hI9 (t := 8) (hB.2.2.2.2.2.2.1 _ _ hi hk).1 rfl (by decide))
                    have hQ9 := tq_of hB.2 (TQ_PI (k9 := 4) (t := 8) hV9 hj hQ9 (hB.2.2.2.2.2.2.1 _ _ hi hk).1 (by decide))
                    have hV9 := hB.2
                    refine lv_aload_n hx hb dX9_passIn_224 rfl (lv_at hl 3 rfl) ?_
                    refine lv_iload hx hb dX9_passIn_225 (lv_at hl 5 rfl) ?_
                    refine cl_vi (n := 0) (NC := 0) (av := [.ref (ye Y i k), .int n]) hB (vi_crVN F.1 (m_Endpoint_forget_0 l D cy hst) ⟨va_cnB 1 F.1.2.2.2.2 (vgN (vm_1 _ (List.mem_of_getElem? (i := 15) rfl))) rfl rfl rfl (F.2.2.1.1 _ nf_140) (F.1.2.2.2.2 _ (List.mem_cons_of_mem _ (vm_1 _ (List.mem_of_getElem? (i := 4) rfl)))) ⟨by decide, by decide, by decide +kernel⟩ ⟨Nat.le_of_ble_eq_true rfl, Nat.le_of_ble_eq_true rfl⟩, F.1.2.2.2.2 _ (List.mem_cons_of_mem _ (vm_9 _ (List.mem_of_getElem? (i := 14) rfl))), F.1.2.2.2.2 _ (List.mem_cons_of_mem _ (vm_9 _ (List.mem_of_getElem? (i := 15) rfl)))⟩ rfl ⟨_, _, _, _, _, _, rfl, rfl, rfl, rfl⟩ F.2.1 F.2.2.1 hs (fun _ _ _ _ => True.intro) (fun q hq => Or.inr hq) ⟨Nat.le_refl _, Nat.le_refl _⟩) hl.1 rfl (by intro j9 a9 x9 g1 g2; exact match j9, g1, g2 with | 0, g1, g2 => by cases g1; cases g2; exact okr (cl_kd (kd := 5) hB.2.1 (hB.2.2.2.2.2.2.1 _ _ hi hk).1 (by decide) (by decide +kernel)) | 1, g1, g2 => by cases g1; cases g2; exact ⟨_, rfl, (cl_full _).1, h8⟩ | n + 2, g1, g2 => by cases g1) (fun f hf => by cases hf) (Nat.le_of_ble_eq_true rfl) (by decide +kernel) (by decide) dX9_passIn_227 rfl (fun alt ha227 H locs v σ227 w227 hB hk227 ht227 hs227 hA227 => ?_)
                    have hv227 := vi_voids (by decide) ha227 hA227
                    subst hv227
                    have hI9 := SI_kept hV9 hB.2 hk227 (by decide +kernel) hI9
                    have hQ9 := TQ_kept hV9 hB.2 hk227 (by decide +kernel) hj hQ9
                    have hV9 := hB.2
                    refine lv_iconst (v := 0) hx hb dX9_passIn_230 (by decide) ?_
                    exact cl_iret F hB hrt dX9_passIn_231 (by first | exact ⟨⟨_, rfl⟩, hI9, hQ9⟩ | exact ⟨⟨_, rfl⟩, SI_up hI9 (by omega), hQ9⟩ | fail "no road")
                  · refine lv_iconst (v := 1) hx hb dX9_passIn_199 (by decide) ?_
                    exact cl_iret F hB hrt dX9_passIn_200 (by first | exact ⟨⟨_, rfl⟩, hI9, hQ9⟩ | exact ⟨⟨_, rfl⟩, SI_up hI9 (by omega), hQ9⟩ | fail "no road")
                · refine lv_aload_n hx hb dX9_passIn_144 rfl (lv_at hl 0 rfl) ?_
                  refine lv_aload_n hx hb dX9_passIn_145 rfl (lv_at hl 3 rfl) ?_
                  refine lv_iload hx hb dX9_passIn_146 (lv_at hl 5 rfl) ?_
                  refine cl_vi (n := 0) (NC := 0) (av := [.ref (yX Y), .ref (ye Y i k), .int n]) hB (vi_crV F.1 (m_Hubcascade_receive_0 l D cy hst) (cwV 2 F.1.2.2.2.2 (vgV (vm_9 _ (List.mem_of_getElem? (i := 8) rfl)) (vm_9 _ (List.mem_of_getElem? (i := 9) rfl)) (vm_9 _ (List.mem_of_getElem? (i := 10) rfl)) (vm_4 _ (List.mem_of_getElem? (i := 20) rfl)) (vm_9 _ (List.mem_of_getElem? (i := 7) rfl))) rfl rfl rfl ⟨rfl, by decide, by decide, by decide +kernel⟩ ⟨Nat.le_of_ble_eq_true rfl, Nat.le_of_ble_eq_true rfl⟩) rfl ⟨_, _, _, _, _, _, rfl, rfl, rfl, rfl⟩ F.2.1 F.2.2.1 hs (fun _ _ _ _ => True.intro) (fun q hq => Or.inr hq) ⟨Nat.le_refl _, Nat.le_refl _⟩) hl.1 rfl (by intro j9 a9 x9 g1 g2; exact match j9, g1, g2 with | 0, g1, g2 => by cases g1; cases g2; exact okr (cl_kd (kd := 0) hB.2.1 hB.2.2.1.1 (by decide) (by decide +kernel)) | 1, g1, g2 => by cases g1; cases g2; exact okr (cl_kd (kd := 5) hB.2.1 (hB.2.2.2.2.2.2.1 _ _ hi hk).1 (by decide) (by decide +kernel)) | 2, g1, g2 => by cases g1; cases g2; exact ⟨_, rfl, (cl_full _).1, h8⟩ | n + 3, g1, g2 => by cases g1) (fun f hf => by cases hf) (Nat.le_of_ble_eq_true rfl) (by decide +kernel) (by decide) dX9_passIn_148 rfl (fun alt ha148 H locs v σ148 w148 hB hk148 ht148 hs148 hA148 => ?_)
                  have hv148 := vi_voids (by decide) ha148 hA148
                  subst hv148
                  have hI9 := SI_kept hV9 hB.2 hk148 (by decide +kernel) hI9
                  have hT9 := TA_kept hV9 hB.2 hk148 (by decide +kernel) hj hi hk hT hT9
                  have hQ9 := TQ_kept hV9 hB.2 hk148 (by decide +kernel) hj hQ9
                  have hV9 := hB.2
                  refine lv_aload_n hx hb dX9_passIn_151 rfl (lv_at hl 1 rfl) ?_
                  refine lv_iconst (v := 1) hx hb dX9_passIn_152 (by decide) ?_
                  refine lv_aload_n hx hb dX9_passIn_153 rfl (lv_at hl 1 rfl) ?_
                  refine gf_X9_643 F hB dX9_passIn_154 (hB.2.2.2.2.2.2.2.2.1 _ hj).1 ?_
                  refine lv_isub hx hb dX9_passIn_157 ?_
                  refine pf_X9_643 F hB dX9_passIn_158 (hB.2.2.2.2.2.2.2.2.1 _ hj).1 (fun H locs hBn => ?_)
                  clear hB; have hB := hBn; clear hBn
                  have hI9 := si_of hB.2 (SI_PI (k := 6) hV9 hI9 (t := 11) (hB.2.2.2.2.2.2.2.2.1 _ hj).1 rfl (by decide))
                  have hT9 := ta_of hB.2 (TA_PI (k9 := 6) (t := 11) hV9 hj hi hk hT hT9 (hB.2.2.2.2.2.2.2.2.1 _ hj).1 rfl)
                  have hQ9 := tq_of hB.2 (TQ_PI (k9 := 6) (t := 11) hV9 hj hQ9 (hB.2.2.2.2.2.2.2.2.1 _ hj).1 (by decide))
                  have hV9 := hB.2
                  refine lv_aload hx hb dX9_passIn_161 (lv_at hl 4 rfl) ?_
                  refine lv_dup hx hb dX9_passIn_163 rfl ?_
                  refine gf_X9_388 F hB dX9_passIn_164 ((hB.2.2.2.2.2.2.2.2.2.1 _ hj).2.2 _ hT).2 ?_
                  refine lv_iload hx hb dX9_passIn_167 (lv_at hl 5 rfl) ?_
                  refine lv_iadd hx hb dX9_passIn_169 ?_
                  refine pf_X9_388 F hB dX9_passIn_170 ((hB.2.2.2.2.2.2.2.2.2.1 _ hj).2.2 _ hT).2 (fun H locs hBn => ?_)
                  clear hB; have hB := hBn; clear hBn
                  have hI9 := si_of hB.2 (SI_done hV9 hI9 hj hi hk hT hQ9 hT9.2.1)
                  have hQ9 := tq_of hB.2 (TQ_PI (k9 := 2) (t := 13) hV9 hj hQ9 ((hB.2.2.2.2.2.2.2.2.2.1 _ hj).2.2 _ hT).2 (by decide))
                  have hV9 := hB.2
                  refine lv_aload hx hb dX9_passIn_173 (lv_at hl 4 rfl) ?_
                  refine lv_iload hx hb dX9_passIn_175 (lv_at hl 5 rfl) ?_
                  refine lv_aload_n hx hb dX9_passIn_177 rfl (lv_at hl 3 rfl) ?_
                  refine gf_X9_147 F hB dX9_passIn_178 (hB.2.2.2.2.2.2.1 _ _ hi hk).1 ?_
                  refine lv_icmp_ge (tgt := 188) hx hb dX9_passIn_181 (by decide) (fun c181 => ?_) (fun c181 => ?_)
                  · refine lv_iconst (v := 0) hx hb dX9_passIn_188 (by decide) ?_
                    refine pf_X9_626 F hB dX9_passIn_189 ((hB.2.2.2.2.2.2.2.2.2.1 _ hj).2.2 _ hT).2 (show sgF 2 _ from ⟨by decide, by decide⟩) (fun H locs hBn => ?_)
                    clear hB; have hB := hBn; clear hBn
                    have hI9 := si_of hB.2 (SI_PI (k := 5) hV9 hI9 (t := 13) ((hB.2.2.2.2.2.2.2.2.2.1 _ hj).2.2 _ hT).2 rfl (by decide))
                    have hQ9 := tq_of hB.2 (TQ_PI (k9 := 5) (t := 13) hV9 hj hQ9 ((hB.2.2.2.2.2.2.2.2.2.1 _ hj).2.2 _ hT).2 (by decide))
                    have hV9 := hB.2
                    refine lv_iload hx hb dX9_passIn_192 (lv_at hl 6 rfl) ?_
                    refine lv_bipush (v := 97) hx hb dX9_passIn_194 (by decide) ?_
                    refine lv_icmp_ne (tgt := 201) hx hb dX9_passIn_196 (by decide) (fun c196 => ?_) (fun c196 => ?_)
                    · refine lv_aload_n hx hb dX9_passIn_201 rfl (lv_at hl 0 rfl) ?_
                      obtain ⟨sn, hsn, tsn⟩ := sn_of hB.2
                      refine gr_X9_59 F hB dX9_passIn_202 hB.2.2.1.1 hsn ?_
                      refine lv_dup hx hb dX9_passIn_205 rfl ?_
                      refine gf_X9_484 F hB dX9_passIn_206 tsn ?_
                      refine lv_iconst (v := 1) hx hb dX9_passIn_209 (by decide) ?_
                      refine lv_iadd hx hb dX9_passIn_210 ?_
                      refine pf_X9_484 F hB dX9_passIn_211 tsn (fun H locs hBn => ?_)
                      clear hB; have hB := hBn; clear hBn
                      have hI9 := si_of hB.2 (SI_PI (k := 2) hV9 hI9 (t := 12) tsn rfl (by decide))
                      have hQ9 := tq_of hB.2 (TQ_PI (k9 := 2) (t := 12) hV9 hj hQ9 tsn (by decide))
                      have hV9 := hB.2
                      refine lv_aload_n hx hb dX9_passIn_214 rfl (lv_at hl 3 rfl) ?_
                      refine lv_iconst (v := 1) hx hb dX9_passIn_215 (by decide) ?_
                      refine lv_aload_n hx hb dX9_passIn_216 rfl (lv_at hl 3 rfl) ?_
                      refine gf_X9_640 F hB dX9_passIn_217 (hB.2.2.2.2.2.2.1 _ _ hi hk).1 ?_
                      refine lv_isub hx hb dX9_passIn_220 ?_
                      refine pf_X9_640 F hB dX9_passIn_221 (hB.2.2.2.2.2.2.1 _ _ hi hk).1 (fun H locs hBn => ?_)
                      clear hB; have hB := hBn; clear hBn
                      have hI9 := si_of hB.2 (SI_PI (k := 4) hV9 hI9 (t := 8) (hB.2.2.2.2.2.2.1 _ _ hi hk).1 rfl (by decide))
                      have hQ9 := tq_of hB.2 (TQ_PI (k9 := 4) (t := 8) hV9 hj hQ9 (hB.2.2.2.2.2.2.1 _ _ hi hk).1 (by decide))
                      have hV9 := hB.2
                      refine lv_aload_n hx hb dX9_passIn_224 rfl (lv_at hl 3 rfl) ?_
                      refine lv_iload hx hb dX9_passIn_225 (lv_at hl 5 rfl) ?_
                      refine cl_vi (n := 0) (NC := 0) (av := [.ref (ye Y i k), .int n]) hB (vi_crVN F.1 (m_Endpoint_forget_0 l D cy hst) ⟨va_cnB 1 F.1.2.2.2.2 (vgN (vm_1 _ (List.mem_of_getElem? (i := 15) rfl))) rfl rfl rfl (F.2.2.1.1 _ nf_140) (F.1.2.2.2.2 _ (List.mem_cons_of_mem _ (vm_1 _ (List.mem_of_getElem? (i := 4) rfl)))) ⟨by decide, by decide, by decide +kernel⟩ ⟨Nat.le_of_ble_eq_true rfl, Nat.le_of_ble_eq_true rfl⟩, F.1.2.2.2.2 _ (List.mem_cons_of_mem _ (vm_9 _ (List.mem_of_getElem? (i := 14) rfl))), F.1.2.2.2.2 _ (List.mem_cons_of_mem _ (vm_9 _ (List.mem_of_getElem? (i := 15) rfl)))⟩ rfl ⟨_, _, _, _, _, _, rfl, rfl, rfl, rfl⟩ F.2.1 F.2.2.1 hs (fun _ _ _ _ => True.intro) (fun q hq => Or.inr hq) ⟨Nat.le_refl _, Nat.le_refl _⟩) hl.1 rfl (by intro j9 a9 x9 g1 g2; exact match j9, g1, g2 with | 0, g1, g2 => by cases g1; cases g2; exact okr (cl_kd (kd := 5) hB.2.1 (hB.2.2.2.2.2.2.1 _ _ hi hk).1 (by decide) (by decide +kernel)) | 1, g1, g2 => by cases g1; cases g2; exact ⟨_, rfl, (cl_full _).1, h8⟩ | n + 2, g1, g2 => by cases g1) (fun f hf => by cases hf) (Nat.le_of_ble_eq_true rfl) (by decide +kernel) (by decide) dX9_passIn_227 rfl (fun alt ha227 H locs v σ227 w227 hB hk227 ht227 hs227 hA227 => ?_)
                      have hv227 := vi_voids (by decide) ha227 hA227
                      subst hv227
                      have hI9 := SI_kept hV9 hB.2 hk227 (by decide +kernel) hI9
                      have hQ9 := TQ_kept hV9 hB.2 hk227 (by decide +kernel) hj hQ9
                      have hV9 := hB.2
                      refine lv_iconst (v := 0) hx hb dX9_passIn_230 (by decide) ?_
                      exact cl_iret F hB hrt dX9_passIn_231 (by first | exact ⟨⟨_, rfl⟩, hI9, hQ9⟩ | exact ⟨⟨_, rfl⟩, SI_up hI9 (by omega), hQ9⟩ | fail "no road")
                    · refine lv_iconst (v := 1) hx hb dX9_passIn_199 (by decide) ?_
                      exact cl_iret F hB hrt dX9_passIn_200 (by first | exact ⟨⟨_, rfl⟩, hI9, hQ9⟩ | exact ⟨⟨_, rfl⟩, SI_up hI9 (by omega), hQ9⟩ | fail "no road")
                  · refine lv_iconst (v := 1) hx hb dX9_passIn_184 (by decide) ?_
                    refine lv_goto (tgt := 189) hx hb dX9_passIn_185 (by decide) ?_
                    refine pf_X9_626 F hB dX9_passIn_189 ((hB.2.2.2.2.2.2.2.2.2.1 _ hj).2.2 _ hT).2 (show sgF 2 _ from ⟨by decide, by decide⟩) (fun H locs hBn => ?_)
                    clear hB; have hB := hBn; clear hBn
                    have hI9 := si_of hB.2 (SI_PI (k := 5) hV9 hI9 (t := 13) ((hB.2.2.2.2.2.2.2.2.2.1 _ hj).2.2 _ hT).2 rfl (by decide))
                    have hQ9 := tq_of hB.2 (TQ_PI (k9 := 5) (t := 13) hV9 hj hQ9 ((hB.2.2.2.2.2.2.2.2.2.1 _ hj).2.2 _ hT).2 (by decide))
                    have hV9 := hB.2
                    refine lv_iload hx hb dX9_passIn_192 (lv_at hl 6 rfl) ?_
                    refine lv_bipush (v := 97) hx hb dX9_passIn_194 (by decide) ?_
                    refine lv_icmp_ne (tgt := 201) hx hb dX9_passIn_196 (by decide) (fun c196 => ?_) (fun c196 => ?_)
                    · refine lv_aload_n hx hb dX9_passIn_201 rfl (lv_at hl 0 rfl) ?_
                      obtain ⟨sn, hsn, tsn⟩ := sn_of hB.2
                      refine gr_X9_59 F hB dX9_passIn_202 hB.2.2.1.1 hsn ?_
                      refine lv_dup hx hb dX9_passIn_205 rfl ?_
                      refine gf_X9_484 F hB dX9_passIn_206 tsn ?_
                      refine lv_iconst (v := 1) hx hb dX9_passIn_209 (by decide) ?_
                      refine lv_iadd hx hb dX9_passIn_210 ?_
                      refine pf_X9_484 F hB dX9_passIn_211 tsn (fun H locs hBn => ?_)
                      clear hB; have hB := hBn; clear hBn
                      have hI9 := si_of hB.2 (SI_PI (k := 2) hV9 hI9 (t := 12) tsn rfl (by decide))
                      have hQ9 := tq_of hB.2 (TQ_PI (k9 := 2) (t := 12) hV9 hj hQ9 tsn (by decide))
                      have hV9 := hB.2
                      refine lv_aload_n hx hb dX9_passIn_214 rfl (lv_at hl 3 rfl) ?_
                      refine lv_iconst (v := 1) hx hb dX9_passIn_215 (by decide) ?_
                      refine lv_aload_n hx hb dX9_passIn_216 rfl (lv_at hl 3 rfl) ?_
                      refine gf_X9_640 F hB dX9_passIn_217 (hB.2.2.2.2.2.2.1 _ _ hi hk).1 ?_
                      refine lv_isub hx hb dX9_passIn_220 ?_
                      refine pf_X9_640 F hB dX9_passIn_221 (hB.2.2.2.2.2.2.1 _ _ hi hk).1 (fun H locs hBn => ?_)
                      clear hB; have hB := hBn; clear hBn
                      have hI9 := si_of hB.2 (SI_PI (k := 4) hV9 hI9 (t := 8) (hB.2.2.2.2.2.2.1 _ _ hi hk).1 rfl (by decide))
                      have hQ9 := tq_of hB.2 (TQ_PI (k9 := 4) (t := 8) hV9 hj hQ9 (hB.2.2.2.2.2.2.1 _ _ hi hk).1 (by decide))
                      have hV9 := hB.2
                      refine lv_aload_n hx hb dX9_passIn_224 rfl (lv_at hl 3 rfl) ?_
                      refine lv_iload hx hb dX9_passIn_225 (lv_at hl 5 rfl) ?_
                      refine cl_vi (n := 0) (NC := 0) (av := [.ref (ye Y i k), .int n]) hB (vi_crVN F.1 (m_Endpoint_forget_0 l D cy hst) ⟨va_cnB 1 F.1.2.2.2.2 (vgN (vm_1 _ (List.mem_of_getElem? (i := 15) rfl))) rfl rfl rfl (F.2.2.1.1 _ nf_140) (F.1.2.2.2.2 _ (List.mem_cons_of_mem _ (vm_1 _ (List.mem_of_getElem? (i := 4) rfl)))) ⟨by decide, by decide, by decide +kernel⟩ ⟨Nat.le_of_ble_eq_true rfl, Nat.le_of_ble_eq_true rfl⟩, F.1.2.2.2.2 _ (List.mem_cons_of_mem _ (vm_9 _ (List.mem_of_getElem? (i := 14) rfl))), F.1.2.2.2.2 _ (List.mem_cons_of_mem _ (vm_9 _ (List.mem_of_getElem? (i := 15) rfl)))⟩ rfl ⟨_, _, _, _, _, _, rfl, rfl, rfl, rfl⟩ F.2.1 F.2.2.1 hs (fun _ _ _ _ => True.intro) (fun q hq => Or.inr hq) ⟨Nat.le_refl _, Nat.le_refl _⟩) hl.1 rfl (by intro j9 a9 x9 g1 g2; exact match j9, g1, g2 with | 0, g1, g2 => by cases g1; cases g2; exact okr (cl_kd (kd := 5) hB.2.1 (hB.2.2.2.2.2.2.1 _ _ hi hk).1 (by decide) (by decide +kernel)) | 1, g1, g2 => by cases g1; cases g2; exact ⟨_, rfl, (cl_full _).1, h8⟩ | n + 2, g1, g2 => by cases g1) (fun f hf => by cases hf) (Nat.le_of_ble_eq_true rfl) (by decide +kernel) (by decide) dX9_passIn_227 rfl (fun alt ha227 H locs v σ227 w227 hB hk227 ht227 hs227 hA227 => ?_)
                      have hv227 := vi_voids (by decide) ha227 hA227
                      subst hv227
                      have hI9 := SI_kept hV9 hB.2 hk227 (by decide +kernel) hI9
                      have hQ9 := TQ_kept hV9 hB.2 hk227 (by decide +kernel) hj hQ9
                      have hV9 := hB.2
                      refine lv_iconst (v := 0) hx hb dX9_passIn_230 (by decide) ?_
                      exact cl_iret F hB hrt dX9_passIn_231 (by first | exact ⟨⟨_, rfl⟩, hI9, hQ9⟩ | exact ⟨⟨_, rfl⟩, SI_up hI9 (by omega), hQ9⟩ | fail "no road")
                    · refine lv_iconst (v := 1) hx hb dX9_passIn_199 (by decide) ?_
                      exact cl_iret F hB hrt dX9_passIn_200 (by first | exact ⟨⟨_, rfl⟩, hI9, hQ9⟩ | exact ⟨⟨_, rfl⟩, SI_up hI9 (by omega), hQ9⟩ | fail "no road")
              · refine lv_iconst (v := 1) hx hb dX9_passIn_131 (by decide) ?_
                exact cl_iret F hB hrt dX9_passIn_132 (by first | exact ⟨⟨_, rfl⟩, hI9, hQ9⟩ | exact ⟨⟨_, rfl⟩, SI_up hI9 (by omega), hQ9⟩ | fail "no road")
            · refine lv_aload_n hx hb dX9_passIn_87 rfl (lv_at hl 0 rfl) ?_
              obtain ⟨sn, hsn, tsn⟩ := sn_of hB.2
              refine gr_X9_59 F hB dX9_passIn_88 hB.2.2.1.1 hsn ?_
              refine lv_dup hx hb dX9_passIn_91 rfl ?_
              refine gf_X9_484 F hB dX9_passIn_92 tsn ?_
              refine lv_iconst (v := 1) hx hb dX9_passIn_95 (by decide) ?_
              refine lv_iadd hx hb dX9_passIn_96 ?_
              refine pf_X9_484 F hB dX9_passIn_97 tsn (fun H locs hBn => ?_)
              clear hB; have hB := hBn; clear hBn
              have hI9 := si_of hB.2 (SI_PI (k := 2) hV9 hI9 (t := 12) tsn rfl (by decide))
              have hT9 := ta_of hB.2 (TA_PI (k9 := 2) (t := 12) hV9 hj hi hk hT hT9 tsn rfl)
              have hQ9 := tq_of hB.2 (TQ_PI (k9 := 2) (t := 12) hV9 hj hQ9 tsn (by decide))
              have hV9 := hB.2
              refine lv_aload_n hx hb dX9_passIn_100 rfl (lv_at hl 2 rfl) ?_
              refine lv_dup hx hb dX9_passIn_101 rfl ?_
              refine gf_X9_489 F hB dX9_passIn_102 (hB.2.2.2.2.1 _ hi).1 ?_
              refine lv_iconst (v := 1) hx hb dX9_passIn_105 (by decide) ?_
              refine lv_iadd hx hb dX9_passIn_106 ?_
              refine pf_X9_489 F hB dX9_passIn_107 (hB.2.2.2.2.1 _ hi).1 (fun H locs hBn => ?_)
              clear hB; have hB := hBn; clear hBn
              have hI9 := si_of hB.2 (SI_PI (k := 15) hV9 hI9 (t := 7) (hB.2.2.2.2.1 _ hi).1 rfl (by decide))
              have hT9 := ta_of hB.2 (TA_PI (k9 := 15) (t := 7) hV9 hj hi hk hT hT9 (hB.2.2.2.2.1 _ hi).1 rfl)
              have hQ9 := tq_of hB.2 (TQ_PI (k9 := 15) (t := 7) hV9 hj hQ9 (hB.2.2.2.2.1 _ hi).1 (by decide))
              have hV9 := hB.2
              refine lv_aload_n hx hb dX9_passIn_110 rfl (lv_at hl 3 rfl) ?_
              refine lv_iload hx hb dX9_passIn_111 (lv_at hl 5 rfl) ?_
              refine cl_vi (n := 0) (NC := 0) (av := [.ref (ye Y i k), .int n]) hB (vi_crVN F.1 (m_Endpoint_forget_0 l D cy hst) ⟨va_cnB 1 F.1.2.2.2.2 (vgN (vm_1 _ (List.mem_of_getElem? (i := 15) rfl))) rfl rfl rfl (F.2.2.1.1 _ nf_140) (F.1.2.2.2.2 _ (List.mem_cons_of_mem _ (vm_1 _ (List.mem_of_getElem? (i := 4) rfl)))) ⟨by decide, by decide, by decide +kernel⟩ ⟨Nat.le_of_ble_eq_true rfl, Nat.le_of_ble_eq_true rfl⟩, F.1.2.2.2.2 _ (List.mem_cons_of_mem _ (vm_9 _ (List.mem_of_getElem? (i := 14) rfl))), F.1.2.2.2.2 _ (List.mem_cons_of_mem _ (vm_9 _ (List.mem_of_getElem? (i := 15) rfl)))⟩ rfl ⟨_, _, _, _, _, _, rfl, rfl, rfl, rfl⟩ F.2.1 F.2.2.1 hs (fun _ _ _ _ => True.intro) (fun q hq => Or.inr hq) ⟨Nat.le_refl _, Nat.le_refl _⟩) hl.1 rfl (by intro j9 a9 x9 g1 g2; exact match j9, g1, g2 with | 0, g1, g2 => by cases g1; cases g2; exact okr (cl_kd (kd := 5) hB.2.1 (hB.2.2.2.2.2.2.1 _ _ hi hk).1 (by decide) (by decide +kernel)) | 1, g1, g2 => by cases g1; cases g2; exact ⟨_, rfl, (cl_full _).1, h8⟩ | n + 2, g1, g2 => by cases g1) (fun f hf => by cases hf) (Nat.le_of_ble_eq_true rfl) (by decide +kernel) (by decide) dX9_passIn_113 rfl (fun alt ha113 H locs v σ113 w113 hB hk113 ht113 hs113 hA113 => ?_)
              have hv113 := vi_voids (by decide) ha113 hA113
              subst hv113
              have hI9 := SI_kept hV9 hB.2 hk113 (by decide +kernel) hI9
              have hQ9 := TQ_kept hV9 hB.2 hk113 (by decide +kernel) hj hQ9
              have hV9 := hB.2
              refine lv_iconst (v := 0) hx hb dX9_passIn_116 (by decide) ?_
              exact cl_iret F hB hrt dX9_passIn_117 (by first | exact ⟨⟨_, rfl⟩, hI9, hQ9⟩ | exact ⟨⟨_, rfl⟩, SI_up hI9 (by omega), hQ9⟩ | fail "no road")
          · refine lv_aload_n hx hb dX9_passIn_52 rfl (lv_at hl 0 rfl) ?_
            obtain ⟨sn, hsn, tsn⟩ := sn_of hB.2
            refine gr_X9_59 F hB dX9_passIn_53 hB.2.2.1.1 hsn ?_
            refine lv_dup hx hb dX9_passIn_56 rfl ?_
            refine gf_X9_484 F hB dX9_passIn_57 tsn ?_
            refine lv_iconst (v := 1) hx hb dX9_passIn_60 (by decide) ?_
            refine lv_iadd hx hb dX9_passIn_61 ?_
            refine pf_X9_484 F hB dX9_passIn_62 tsn (fun H locs hBn => ?_)
            clear hB; have hB := hBn; clear hBn
            have hI9 := si_of hB.2 (SI_PI (k := 2) hV9 hI9 (t := 12) tsn rfl (by decide))
            have hT9 := ta_of hB.2 (TA_PI (k9 := 2) (t := 12) hV9 hj hi hk hT hT9 tsn rfl)
            have hQ9 := tq_of hB.2 (TQ_PI (k9 := 2) (t := 12) hV9 hj hQ9 tsn (by decide))
            have hV9 := hB.2
            refine lv_iconst (v := 2) hx hb dX9_passIn_65 (by decide) ?_
            exact cl_iret F hB hrt dX9_passIn_66 (by first | exact ⟨⟨_, rfl⟩, hI9, hQ9⟩ | exact ⟨⟨_, rfl⟩, SI_up hI9 (by omega), hQ9⟩ | fail "no road")
      · refine lv_aload_n hx hb dX9_passIn_25 rfl (lv_at hl 0 rfl) ?_
        obtain ⟨sn, hsn, tsn⟩ := sn_of hB.2
        refine gr_X9_59 F hB dX9_passIn_26 hB.2.2.1.1 hsn ?_
        refine lv_dup hx hb dX9_passIn_29 rfl ?_
        refine gf_X9_484 F hB dX9_passIn_30 tsn ?_
        refine lv_iconst (v := 1) hx hb dX9_passIn_33 (by decide) ?_
        refine lv_iadd hx hb dX9_passIn_34 ?_
        refine pf_X9_484 F hB dX9_passIn_35 tsn (fun H locs hBn => ?_)
        clear hB; have hB := hBn; clear hBn
        have hI9 := si_of hB.2 (SI_PI (k := 2) hV9 hI9 (t := 12) tsn rfl (by decide))
        have hT9 := ta_of hB.2 (TA_PI (k9 := 2) (t := 12) hV9 hj hi hk hT hT9 tsn rfl)
        have hQ9 := tq_of hB.2 (TQ_PI (k9 := 2) (t := 12) hV9 hj hQ9 tsn (by decide))
        have hV9 := hB.2
        refine lv_iconst (v := 3) hx hb dX9_passIn_38 (by decide) ?_
        exact cl_iret F hB hrt dX9_passIn_39 (by first | exact ⟨⟨_, rfl⟩, hI9, hQ9⟩ | exact ⟨⟨_, rfl⟩, SI_up hI9 (by omega), hQ9⟩ | fail "no road")
    · refine lv_iconst (v := 4) hx hb dX9_passIn_16 (by decide) ?_
      exact cl_iret F hB hrt dX9_passIn_17 (by first | exact ⟨⟨_, rfl⟩, hI9, hQ9⟩ | exact ⟨⟨_, rfl⟩, SI_up hI9 (by omega), hQ9⟩ | fail "no road")
  · refine lv_iconst (v := 1) hx hb dX9_passIn_7 (by decide) ?_
    exact cl_iret F hB hrt dX9_passIn_8 (by first | exact ⟨⟨_, rfl⟩, hI9, hQ9⟩ | exact ⟨⟨_, rfl⟩, SI_up hI9 (by omega), hQ9⟩ | fail "no road")

theorem dX9_halt_0 : decode cX9_halt 0 = .ok (.aload_n 0, 1) := by decide +kernel
theorem dX9_halt_1 : decode cX9_halt 1 = .ok (.aload_n 1, 1) := by decide +kernel
theorem dX9_halt_2 : decode cX9_halt 2 = .ok (.iload_n 2, 1) := by decide +kernel
theorem dX9_halt_3 : decode cX9_halt 3 = .ok (.invokevirtual 391, 3) := by decide +kernel
theorem dX9_halt_6 : decode cX9_halt 6 = .ok (.aload_n 1, 1) := by decide +kernel
theorem dX9_halt_7 : decode cX9_halt 7 = .ok (.iconst 1, 1) := by decide +kernel
theorem dX9_halt_8 : decode cX9_halt 8 = .ok (.putfield 380, 3) := by decide +kernel
theorem dX9_halt_11 : decode cX9_halt 11 = .ok (.aload_n 1, 1) := by decide +kernel
theorem dX9_halt_12 : decode cX9_halt 12 = .ok (.iload_n 3, 1) := by decide +kernel
theorem dX9_halt_13 : decode cX9_halt 13 = .ok (.putfield 492, 3) := by decide +kernel
theorem dX9_halt_16 : decode cX9_halt 16 = .ok (.return_, 1) := by decide +kernel
set_option maxRecDepth 100000 in
set_option maxHeartbeats 4000000 in
theorem k_halt (l : Launch) (D : va_G) (cy : Nat → ClassId) {ad τ : List Nat} {Y : CY} {σ : SG} (hst : l.stackTraces = false) (hs : vi_s1 vSG τ) (hV : VL cy ad τ Y σ) {B : Int} (hI : SI Y σ B) {j i k : Nat} (hj : j < 12) (hQ : TQ Y σ j i k) (ch cz : Int32) (hc : sgF 1 ch) (hcz : sgF 1 cz) (sz : Nat) : clM l D cy ad τ Y σ sz yX9_halt (Cond.code yX9_halt cX9_halt 4 none :: vWall) 2 46 [.ref (yX Y), .ref (yp Y j), .int ch, .int cz] (fun v s2 => v = none ∧ SI Y s2 B) := by
  refine cl_ofW (cc := cX9_halt) (maxL := 4) (ret := none) hV (by decide) rfl (Nat.le_of_ble_eq_true rfl) (lv := [(0, .ref (yX Y)), (1, .ref (yp Y j)), (2, .int ch), (3, .int cz)]) rfl (fun p e s m below meth c ls H hrt hnm F hB hl => ?_) sz
  have hx := F.1.1
  have hb := F.1.2.1
  have hown := F.1.2.2.2.1
  generalize hlo : ([] : List Loc) = locs at hB ⊢
  clear hlo
  obtain ⟨LX, LD, Ld, LE, Le, LP9, Lp, Lt, LU, LA, Lz⟩ := hV.2
  have e0 : (0 : Int32).toInt = 0 := rfl
  have e1 : (1 : Int32).toInt = 1 := rfl
  have e16 : (16 : Int32).toInt = 16 := rfl
  have e12 : (12 : Int32).toInt = 12 := rfl
  have e4 : (4 : Int32).toInt = 4 := rfl
  have e8 : (8 : Int32).toInt = 8 := rfl
  have hV9 := hV
  have hI9 := hI
  have hQ9 := hQ
  refine lv_aload_n hx hb dX9_halt_0 rfl (lv_at hl 0 rfl) ?_
  refine lv_aload_n hx hb dX9_halt_1 rfl (lv_at hl 1 rfl) ?_
  refine lv_iload_n hx hb dX9_halt_2 rfl (lv_at hl 2 rfl) ?_
  refine cl_callV (ci := 14) F hB (k_end l D cy hst hs hB.2 hj _ hc hQ9.2.2 _) (cwV 2 F.1.2.2.2.2 (vgV (vm_5 _ (List.mem_of_getElem? (i := 26) rfl)) (vm_5 _ (List.mem_of_getElem? (i := 27) rfl)) (vm_5 _ (List.mem_of_getElem? (i := 28) rfl)) (vm_4 _ (List.mem_of_getElem? (i := 20) rfl)) (vm_5 _ (List.mem_of_getElem? (i := 18) rfl))) rfl rfl rfl ⟨rfl, by decide, by decide, by decide +kernel⟩ ⟨Nat.le_of_ble_eq_true rfl, Nat.le_of_ble_eq_true rfl⟩) rfl rfl (by decide) rfl hl.1 rfl (Nat.le_of_ble_eq_true rfl) dX9_halt_3 ⟨Nat.le_of_ble_eq_true rfl, Nat.le_of_ble_eq_true rfl⟩ hB.2.2.1.1 (fun H locs v σ3 hB hP => ?_)
  obtain ⟨rfl, σ8, hV8, hk8, rfl⟩ := hP
  have hI8 := SI_drop hV8 (SI_kept hV9 hV8 hk8 (by decide +kernel) hI9) hj (TQ_kept hV9 hV8 hk8 (by decide +kernel) hj hQ9).2.2
  have hI9 := hI8
  have hV9 := hB.2
  refine lv_aload_n hx hb dX9_halt_6 rfl (lv_at hl 1 rfl) ?_
  refine lv_iconst (v := 1) hx hb dX9_halt_7 (by decide) ?_
  refine pf_X9_380 F hB dX9_halt_8 (hB.2.2.2.2.2.2.2.2.1 _ hj).1 ⟨by decide, by decide⟩ (fun H locs hBn => ?_)
  clear hB; have hB := hBn; clear hBn
  have hI9 := si_of hB.2 (SI_PI (k := 8) hV9 hI9 (t := 11) (hB.2.2.2.2.2.2.2.2.1 _ hj).1 rfl (by decide))
  have hV9 := hB.2
  refine lv_aload_n hx hb dX9_halt_11 rfl (lv_at hl 1 rfl) ?_
  refine lv_iload_n hx hb dX9_halt_12 rfl (lv_at hl 3 rfl) ?_
  refine pf_X9_492 F hB dX9_halt_13 (hB.2.2.2.2.2.2.2.2.1 _ hj).1 hcz (fun H locs hBn => ?_)
  clear hB; have hB := hBn; clear hBn
  have hI9 := si_of hB.2 (SI_PI (k := 9) hV9 hI9 (t := 11) (hB.2.2.2.2.2.2.2.2.1 _ hj).1 rfl (by decide))
  have hV9 := hB.2
  exact cl_vret F hB hrt dX9_halt_16 (⟨rfl, hI9⟩)

theorem dX9_settle_0 : decode cX9_settle 0 = .ok (.iload_n 3, 1) := by decide +kernel
theorem dX9_settle_1 : decode cX9_settle 1 = .ok (.iconst 2, 1) := by decide +kernel
theorem dX9_settle_2 : decode cX9_settle 2 = .ok (.if_icmp .ne 9, 3) := by decide +kernel
theorem dX9_settle_5 : decode cX9_settle 5 = .ok (.aload_n 1, 1) := by decide +kernel
theorem dX9_settle_6 : decode cX9_settle 6 = .ok (.iconst 1, 1) := by decide +kernel
theorem dX9_settle_7 : decode cX9_settle 7 = .ok (.putfield 427, 3) := by decide +kernel
theorem dX9_settle_10 : decode cX9_settle 10 = .ok (.return_, 1) := by decide +kernel
theorem dX9_settle_11 : decode cX9_settle 11 = .ok (.iload_n 3, 1) := by decide +kernel
theorem dX9_settle_12 : decode cX9_settle 12 = .ok (.iconst 1, 1) := by decide +kernel
theorem dX9_settle_13 : decode cX9_settle 13 = .ok (.if_icmp .ne 21, 3) := by decide +kernel
theorem dX9_settle_16 : decode cX9_settle 16 = .ok (.aload_n 1, 1) := by decide +kernel
theorem dX9_settle_17 : decode cX9_settle 17 = .ok (.iconst 1, 1) := by decide +kernel
theorem dX9_settle_18 : decode cX9_settle 18 = .ok (.putfield 427, 3) := by decide +kernel
theorem dX9_settle_21 : decode cX9_settle 21 = .ok (.aload_n 1, 1) := by decide +kernel
theorem dX9_settle_22 : decode cX9_settle 22 = .ok (.dup, 1) := by decide +kernel
theorem dX9_settle_23 : decode cX9_settle 23 = .ok (.getfield 616, 3) := by decide +kernel
theorem dX9_settle_26 : decode cX9_settle 26 = .ok (.iconst 1, 1) := by decide +kernel
theorem dX9_settle_27 : decode cX9_settle 27 = .ok (.iadd, 1) := by decide +kernel
theorem dX9_settle_28 : decode cX9_settle 28 = .ok (.putfield 616, 3) := by decide +kernel
theorem dX9_settle_31 : decode cX9_settle 31 = .ok (.goto 8, 3) := by decide +kernel
theorem dX9_settle_34 : decode cX9_settle 34 = .ok (.aload_n 1, 1) := by decide +kernel
theorem dX9_settle_35 : decode cX9_settle 35 = .ok (.iconst 0, 1) := by decide +kernel
theorem dX9_settle_36 : decode cX9_settle 36 = .ok (.putfield 616, 3) := by decide +kernel
theorem dX9_settle_39 : decode cX9_settle 39 = .ok (.iload_n 3, 1) := by decide +kernel
theorem dX9_settle_40 : decode cX9_settle 40 = .ok (.iconst 3, 1) := by decide +kernel
theorem dX9_settle_41 : decode cX9_settle 41 = .ok (.if_icmp .ne 15, 3) := by decide +kernel
theorem dX9_settle_44 : decode cX9_settle 44 = .ok (.aload_n 0, 1) := by decide +kernel
theorem dX9_settle_45 : decode cX9_settle 45 = .ok (.aload_n 1, 1) := by decide +kernel
theorem dX9_settle_46 : decode cX9_settle 46 = .ok (.bipush 115, 2) := by decide +kernel
theorem dX9_settle_48 : decode cX9_settle 48 = .ok (.bipush 115, 2) := by decide +kernel
theorem dX9_settle_50 : decode cX9_settle 50 = .ok (.invokevirtual 619, 3) := by decide +kernel
theorem dX9_settle_53 : decode cX9_settle 53 = .ok (.goto 70, 3) := by decide +kernel
theorem dX9_settle_56 : decode cX9_settle 56 = .ok (.aload_n 2, 1) := by decide +kernel
theorem dX9_settle_57 : decode cX9_settle 57 = .ok (.getfield 388, 3) := by decide +kernel
theorem dX9_settle_60 : decode cX9_settle 60 = .ok (.aload_n 2, 1) := by decide +kernel
theorem dX9_settle_61 : decode cX9_settle 61 = .ok (.getfield 590, 3) := by decide +kernel
theorem dX9_settle_64 : decode cX9_settle 64 = .ok (.if_icmp .lt 25, 3) := by decide +kernel
theorem dX9_settle_67 : decode cX9_settle 67 = .ok (.aload_n 0, 1) := by decide +kernel
theorem dX9_settle_68 : decode cX9_settle 68 = .ok (.aload_n 1, 1) := by decide +kernel
theorem dX9_settle_69 : decode cX9_settle 69 = .ok (.aload_n 2, 1) := by decide +kernel
theorem dX9_settle_70 : decode cX9_settle 70 = .ok (.getfield 623, 3) := by decide +kernel
theorem dX9_settle_73 : decode cX9_settle 73 = .ok (.ifCond .eq 8, 3) := by decide +kernel
theorem dX9_settle_76 : decode cX9_settle 76 = .ok (.bipush 108, 2) := by decide +kernel
theorem dX9_settle_78 : decode cX9_settle 78 = .ok (.goto 5, 3) := by decide +kernel
theorem dX9_settle_81 : decode cX9_settle 81 = .ok (.bipush 100, 2) := by decide +kernel
theorem dX9_settle_83 : decode cX9_settle 83 = .ok (.invokevirtual 391, 3) := by decide +kernel
theorem dX9_settle_86 : decode cX9_settle 86 = .ok (.goto 37, 3) := by decide +kernel
theorem dX9_settle_89 : decode cX9_settle 89 = .ok (.aload_n 2, 1) := by decide +kernel
theorem dX9_settle_90 : decode cX9_settle 90 = .ok (.getfield 626, 3) := by decide +kernel
theorem dX9_settle_93 : decode cX9_settle 93 = .ok (.ifCond .eq 13, 3) := by decide +kernel
theorem dX9_settle_96 : decode cX9_settle 96 = .ok (.aload_n 0, 1) := by decide +kernel
theorem dX9_settle_97 : decode cX9_settle 97 = .ok (.aload_n 1, 1) := by decide +kernel
theorem dX9_settle_98 : decode cX9_settle 98 = .ok (.bipush 104, 2) := by decide +kernel
theorem dX9_settle_100 : decode cX9_settle 100 = .ok (.invokevirtual 391, 3) := by decide +kernel
theorem dX9_settle_103 : decode cX9_settle 103 = .ok (.goto 20, 3) := by decide +kernel
theorem dX9_settle_106 : decode cX9_settle 106 = .ok (.aload_n 1, 1) := by decide +kernel
theorem dX9_settle_107 : decode cX9_settle 107 = .ok (.getfield 616, 3) := by decide +kernel
theorem dX9_settle_110 : decode cX9_settle 110 = .ok (.iconst 3, 1) := by decide +kernel
theorem dX9_settle_111 : decode cX9_settle 111 = .ok (.if_icmp .lt 12, 3) := by decide +kernel
theorem dX9_settle_114 : decode cX9_settle 114 = .ok (.aload_n 0, 1) := by decide +kernel
theorem dX9_settle_115 : decode cX9_settle 115 = .ok (.aload_n 1, 1) := by decide +kernel
theorem dX9_settle_116 : decode cX9_settle 116 = .ok (.bipush 101, 2) := by decide +kernel
theorem dX9_settle_118 : decode cX9_settle 118 = .ok (.iload 4, 2) := by decide +kernel
theorem dX9_settle_120 : decode cX9_settle 120 = .ok (.invokevirtual 619, 3) := by decide +kernel
theorem dX9_settle_123 : decode cX9_settle 123 = .ok (.return_, 1) := by decide +kernel
set_option maxRecDepth 100000 in
set_option maxHeartbeats 4000000 in
theorem k_settle (l : Launch) (D : va_G) (cy : Nat → ClassId) {ad τ : List Nat} {Y : CY} {σ : SG} (hst : l.stackTraces = false) (hs : vi_s1 vSG τ) (hV : VL cy ad τ Y σ) {B : Int} (hI : SI Y σ B) {j i k T : Nat} (hj : j < 12) (hi : i < 16) (hk : k < 3) (hT : T < 4) (hQ : TQ Y σ j i k) (an fl : Int32) (hfl : sgF 1 fl) (sz : Nat) : clM l D cy ad τ Y σ sz yX9_settle (Cond.code yX9_settle cX9_settle 5 none :: vWall) 3 69 [.ref (yX Y), .ref (yp Y j), .ref (yt Y j T), .int an, .int fl] (fun v s2 => v = none ∧ SI Y s2 B) := by
  refine cl_ofW (cc := cX9_settle) (maxL := 5) (ret := none) hV (by decide) rfl (Nat.le_of_ble_eq_true rfl) (lv := [(0, .ref (yX Y)), (1, .ref (yp Y j)), (2, .ref (yt Y j T)), (3, .int an), (4, .int fl)]) rfl (fun p e s m below meth c ls H hrt hnm F hB hl => ?_) sz
  have hx := F.1.1
  have hb := F.1.2.1
  have hown := F.1.2.2.2.1
  generalize hlo : ([] : List Loc) = locs at hB ⊢
  clear hlo
  obtain ⟨LX, LD, Ld, LE, Le, LP9, Lp, Lt, LU, LA, Lz⟩ := hV.2
  have e0 : (0 : Int32).toInt = 0 := rfl
  have e1 : (1 : Int32).toInt = 1 := rfl
  have e16 : (16 : Int32).toInt = 16 := rfl
  have e12 : (12 : Int32).toInt = 12 := rfl
  have e4 : (4 : Int32).toInt = 4 := rfl
  have e8 : (8 : Int32).toInt = 8 := rfl
  have hV9 := hV
  have hI9 := hI
  have hQ9 := hQ
  refine lv_iload_n hx hb dX9_settle_0 rfl (lv_at hl 3 rfl) ?_
  refine lv_iconst (v := 2) hx hb dX9_settle_1 (by decide) ?_
  refine lv_icmp_ne (tgt := 11) hx hb dX9_settle_2 (by decide) (fun c2 => ?_) (fun c2 => ?_)
  · refine lv_iload_n hx hb dX9_settle_11 rfl (lv_at hl 3 rfl) ?_
    refine lv_iconst (v := 1) hx hb dX9_settle_12 (by decide) ?_
    refine lv_icmp_ne (tgt := 34) hx hb dX9_settle_13 (by decide) (fun c13 => ?_) (fun c13 => ?_)
    · refine lv_aload_n hx hb dX9_settle_34 rfl (lv_at hl 1 rfl) ?_
      refine lv_iconst (v := 0) hx hb dX9_settle_35 (by decide) ?_
      refine pf_X9_616 F hB dX9_settle_36 (hB.2.2.2.2.2.2.2.2.1 _ hj).1 (fun H locs hBn => ?_)
      clear hB; have hB := hBn; clear hBn
      have hI9 := si_of hB.2 (SI_PI (k := 7) hV9 hI9 (t := 11) (hB.2.2.2.2.2.2.2.2.1 _ hj).1 rfl (by decide))
      have hQ9 := tq_of hB.2 (TQ_PI (k9 := 7) (t := 11) hV9 hj hQ9 (hB.2.2.2.2.2.2.2.2.1 _ hj).1 (by decide))
      have hV9 := hB.2
      refine lv_iload_n hx hb dX9_settle_39 rfl (lv_at hl 3 rfl) ?_
      refine lv_iconst (v := 3) hx hb dX9_settle_40 (by decide) ?_
      refine lv_icmp_ne (tgt := 56) hx hb dX9_settle_41 (by decide) (fun c41 => ?_) (fun c41 => ?_)
      · refine lv_aload_n hx hb dX9_settle_56 rfl (lv_at hl 2 rfl) ?_
        refine gf_X9_388 F hB dX9_settle_57 ((hB.2.2.2.2.2.2.2.2.2.1 _ hj).2.2 _ hT).2 ?_
        refine lv_aload_n hx hb dX9_settle_60 rfl (lv_at hl 2 rfl) ?_
        refine gf_X9_590 F hB dX9_settle_61 ((hB.2.2.2.2.2.2.2.2.2.1 _ hj).2.2 _ hT).2 ?_
        refine lv_icmp_lt (tgt := 89) hx hb dX9_settle_64 (by decide) (fun c64 => ?_) (fun c64 => ?_)
        · refine lv_aload_n hx hb dX9_settle_89 rfl (lv_at hl 2 rfl) ?_
          refine gf_X9_626 F hB dX9_settle_90 ((hB.2.2.2.2.2.2.2.2.2.1 _ hj).2.2 _ hT).2 ?_
          refine lv_if_eq (tgt := 106) hx hb dX9_settle_93 (by decide) (fun c93 => ?_) (fun c93 => ?_)
          · refine lv_aload_n hx hb dX9_settle_106 rfl (lv_at hl 1 rfl) ?_
            refine gf_X9_616 F hB dX9_settle_107 (hB.2.2.2.2.2.2.2.2.1 _ hj).1 ?_
            refine lv_iconst (v := 3) hx hb dX9_settle_110 (by decide) ?_
            refine lv_icmp_lt (tgt := 123) hx hb dX9_settle_111 (by decide) (fun c111 => ?_) (fun c111 => ?_)
            · exact cl_vret F hB hrt dX9_settle_123 (by first | exact ⟨rfl, hI8⟩ | exact ⟨rfl, hI9⟩ | fail "no road")
            · refine lv_aload_n hx hb dX9_settle_114 rfl (lv_at hl 0 rfl) ?_
              refine lv_aload_n hx hb dX9_settle_115 rfl (lv_at hl 1 rfl) ?_
              refine lv_bipush (v := 101) hx hb dX9_settle_116 (by decide) ?_
              refine lv_iload hx hb dX9_settle_118 (lv_at hl 4 rfl) ?_
              refine cl_callV (ci := 14) F hB (k_halt l D cy hst hs hB.2 hI9 hj hQ9 _ _ (show sgF 1 _ from ⟨by decide, by decide⟩) hfl _) (cwV 3 F.1.2.2.2.2 (vgV (vm_9 _ (List.mem_of_getElem? (i := 19) rfl)) (vm_9 _ (List.mem_of_getElem? (i := 20) rfl)) (vm_9 _ (List.mem_of_getElem? (i := 21) rfl)) (vm_4 _ (List.mem_of_getElem? (i := 20) rfl)) (vm_9 _ (List.mem_of_getElem? (i := 18) rfl))) rfl rfl rfl ⟨rfl, by decide, by decide, by decide +kernel⟩ ⟨Nat.le_of_ble_eq_true rfl, Nat.le_of_ble_eq_true rfl⟩) rfl rfl (by decide) rfl hl.1 rfl (Nat.le_of_ble_eq_true rfl) dX9_settle_120 ⟨Nat.le_of_ble_eq_true rfl, Nat.le_of_ble_eq_true rfl⟩ hB.2.2.1.1 (fun H locs v σ120 hB hP => ?_)
              obtain ⟨rfl, hI8⟩ := hP
              exact cl_vret F hB hrt dX9_settle_123 (by first | exact ⟨rfl, hI8⟩ | exact ⟨rfl, hI9⟩ | fail "no road")
          · refine lv_aload_n hx hb dX9_settle_96 rfl (lv_at hl 0 rfl) ?_
            refine lv_aload_n hx hb dX9_settle_97 rfl (lv_at hl 1 rfl) ?_
            refine lv_bipush (v := 104) hx hb dX9_settle_98 (by decide) ?_
            refine cl_callV (ci := 14) F hB (k_end l D cy hst hs hB.2 hj _ (show sgF 1 _ from ⟨by decide, by decide⟩) hQ9.2.2 _) (cwV 2 F.1.2.2.2.2 (vgV (vm_5 _ (List.mem_of_getElem? (i := 26) rfl)) (vm_5 _ (List.mem_of_getElem? (i := 27) rfl)) (vm_5 _ (List.mem_of_getElem? (i := 28) rfl)) (vm_4 _ (List.mem_of_getElem? (i := 20) rfl)) (vm_5 _ (List.mem_of_getElem? (i := 18) rfl))) rfl rfl rfl ⟨rfl, by decide, by decide, by decide +kernel⟩ ⟨Nat.le_of_ble_eq_true rfl, Nat.le_of_ble_eq_true rfl⟩) rfl rfl (by decide) rfl hl.1 rfl (Nat.le_of_ble_eq_true rfl) dX9_settle_100 ⟨Nat.le_of_ble_eq_true rfl, Nat.le_of_ble_eq_true rfl⟩ hB.2.2.1.1 (fun H locs v σ100 hB hP => ?_)
            obtain ⟨rfl, σ8, hV8, hk8, rfl⟩ := hP
            have hI8 := SI_drop hV8 (SI_kept hV9 hV8 hk8 (by decide +kernel) hI9) hj (TQ_kept hV9 hV8 hk8 (by decide +kernel) hj hQ9).2.2
            refine lv_goto (tgt := 123) hx hb dX9_settle_103 (by decide) ?_
            exact cl_vret F hB hrt dX9_settle_123 (by first | exact ⟨rfl, hI8⟩ | exact ⟨rfl, hI9⟩ | fail "no road")
        · refine lv_aload_n hx hb dX9_settle_67 rfl (lv_at hl 0 rfl) ?_
          refine lv_aload_n hx hb dX9_settle_68 rfl (lv_at hl 1 rfl) ?_
          refine lv_aload_n hx hb dX9_settle_69 rfl (lv_at hl 2 rfl) ?_
          refine gf_X9_623 F hB dX9_settle_70 ((hB.2.2.2.2.2.2.2.2.2.1 _ hj).2.2 _ hT).2 ?_
          refine lv_if_eq (tgt := 81) hx hb dX9_settle_73 (by decide) (fun c73 => ?_) (fun c73 => ?_)
          · refine lv_bipush (v := 100) hx hb dX9_settle_81 (by decide) ?_
            refine cl_callV (ci := 14) F hB (k_end l D cy hst hs hB.2 hj _ (show sgF 1 _ from ⟨by decide, by decide⟩) hQ9.2.2 _) (cwV 2 F.1.2.2.2.2 (vgV (vm_5 _ (List.mem_of_getElem? (i := 26) rfl)) (vm_5 _ (List.mem_of_getElem? (i := 27) rfl)) (vm_5 _ (List.mem_of_getElem? (i := 28) rfl)) (vm_4 _ (List.mem_of_getElem? (i := 20) rfl)) (vm_5 _ (List.mem_of_getElem? (i := 18) rfl))) rfl rfl rfl ⟨rfl, by decide, by decide, by decide +kernel⟩ ⟨Nat.le_of_ble_eq_true rfl, Nat.le_of_ble_eq_true rfl⟩) rfl rfl (by decide) rfl hl.1 rfl (Nat.le_of_ble_eq_true rfl) dX9_settle_83 ⟨Nat.le_of_ble_eq_true rfl, Nat.le_of_ble_eq_true rfl⟩ hB.2.2.1.1 (fun H locs v σ83 hB hP => ?_)
            obtain ⟨rfl, σ8, hV8, hk8, rfl⟩ := hP
            have hI8 := SI_drop hV8 (SI_kept hV9 hV8 hk8 (by decide +kernel) hI9) hj (TQ_kept hV9 hV8 hk8 (by decide +kernel) hj hQ9).2.2
            refine lv_goto (tgt := 123) hx hb dX9_settle_86 (by decide) ?_
            exact cl_vret F hB hrt dX9_settle_123 (by first | exact ⟨rfl, hI8⟩ | exact ⟨rfl, hI9⟩ | fail "no road")
          · refine lv_bipush (v := 108) hx hb dX9_settle_76 (by decide) ?_
            refine lv_goto (tgt := 83) hx hb dX9_settle_78 (by decide) ?_
            refine cl_callV (ci := 14) F hB (k_end l D cy hst hs hB.2 hj _ (show sgF 1 _ from ⟨by decide, by decide⟩) hQ9.2.2 _) (cwV 2 F.1.2.2.2.2 (vgV (vm_5 _ (List.mem_of_getElem? (i := 26) rfl)) (vm_5 _ (List.mem_of_getElem? (i := 27) rfl)) (vm_5 _ (List.mem_of_getElem? (i := 28) rfl)) (vm_4 _ (List.mem_of_getElem? (i := 20) rfl)) (vm_5 _ (List.mem_of_getElem? (i := 18) rfl))) rfl rfl rfl ⟨rfl, by decide, by decide, by decide +kernel⟩ ⟨Nat.le_of_ble_eq_true rfl, Nat.le_of_ble_eq_true rfl⟩) rfl rfl (by decide) rfl hl.1 rfl (Nat.le_of_ble_eq_true rfl) dX9_settle_83 ⟨Nat.le_of_ble_eq_true rfl, Nat.le_of_ble_eq_true rfl⟩ hB.2.2.1.1 (fun H locs v σ83 hB hP => ?_)
            obtain ⟨rfl, σ8, hV8, hk8, rfl⟩ := hP
            have hI8 := SI_drop hV8 (SI_kept hV9 hV8 hk8 (by decide +kernel) hI9) hj (TQ_kept hV9 hV8 hk8 (by decide +kernel) hj hQ9).2.2
            refine lv_goto (tgt := 123) hx hb dX9_settle_86 (by decide) ?_
            exact cl_vret F hB hrt dX9_settle_123 (by first | exact ⟨rfl, hI8⟩ | exact ⟨rfl, hI9⟩ | fail "no road")
      · refine lv_aload_n hx hb dX9_settle_44 rfl (lv_at hl 0 rfl) ?_
        refine lv_aload_n hx hb dX9_settle_45 rfl (lv_at hl 1 rfl) ?_
        refine lv_bipush (v := 115) hx hb dX9_settle_46 (by decide) ?_
        refine lv_bipush (v := 115) hx hb dX9_settle_48 (by decide) ?_
        refine cl_callV (ci := 14) F hB (k_halt l D cy hst hs hB.2 hI9 hj hQ9 _ _ (show sgF 1 _ from ⟨by decide, by decide⟩) (show sgF 1 _ from ⟨by decide, by decide⟩) _) (cwV 3 F.1.2.2.2.2 (vgV (vm_9 _ (List.mem_of_getElem? (i := 19) rfl)) (vm_9 _ (List.mem_of_getElem? (i := 20) rfl)) (vm_9 _ (List.mem_of_getElem? (i := 21) rfl)) (vm_4 _ (List.mem_of_getElem? (i := 20) rfl)) (vm_9 _ (List.mem_of_getElem? (i := 18) rfl))) rfl rfl rfl ⟨rfl, by decide, by decide, by decide +kernel⟩ ⟨Nat.le_of_ble_eq_true rfl, Nat.le_of_ble_eq_true rfl⟩) rfl rfl (by decide) rfl hl.1 rfl (Nat.le_of_ble_eq_true rfl) dX9_settle_50 ⟨Nat.le_of_ble_eq_true rfl, Nat.le_of_ble_eq_true rfl⟩ hB.2.2.1.1 (fun H locs v σ50 hB hP => ?_)
        obtain ⟨rfl, hI8⟩ := hP
        refine lv_goto (tgt := 123) hx hb dX9_settle_53 (by decide) ?_
        exact cl_vret F hB hrt dX9_settle_123 (by first | exact ⟨rfl, hI8⟩ | exact ⟨rfl, hI9⟩ | fail "no road")
    · refine lv_aload_n hx hb dX9_settle_16 rfl (lv_at hl 1 rfl) ?_
      refine lv_iconst (v := 1) hx hb dX9_settle_17 (by decide) ?_
      refine pf_X9_427 F hB dX9_settle_18 (hB.2.2.2.2.2.2.2.2.1 _ hj).1 ⟨by decide, by decide⟩ (fun H locs hBn => ?_)
      clear hB; have hB := hBn; clear hBn
      have hI9 := si_of hB.2 (SI_PI (k := 10) hV9 hI9 (t := 11) (hB.2.2.2.2.2.2.2.2.1 _ hj).1 rfl (by decide))
      have hQ9 := tq_of hB.2 (TQ_PI (k9 := 10) (t := 11) hV9 hj hQ9 (hB.2.2.2.2.2.2.2.2.1 _ hj).1 (by decide))
      have hV9 := hB.2
      refine lv_aload_n hx hb dX9_settle_21 rfl (lv_at hl 1 rfl) ?_
      refine lv_dup hx hb dX9_settle_22 rfl ?_
      refine gf_X9_616 F hB dX9_settle_23 (hB.2.2.2.2.2.2.2.2.1 _ hj).1 ?_
      refine lv_iconst (v := 1) hx hb dX9_settle_26 (by decide) ?_
      refine lv_iadd hx hb dX9_settle_27 ?_
      refine pf_X9_616 F hB dX9_settle_28 (hB.2.2.2.2.2.2.2.2.1 _ hj).1 (fun H locs hBn => ?_)
      clear hB; have hB := hBn; clear hBn
      have hI9 := si_of hB.2 (SI_PI (k := 7) hV9 hI9 (t := 11) (hB.2.2.2.2.2.2.2.2.1 _ hj).1 rfl (by decide))
      have hQ9 := tq_of hB.2 (TQ_PI (k9 := 7) (t := 11) hV9 hj hQ9 (hB.2.2.2.2.2.2.2.2.1 _ hj).1 (by decide))
      have hV9 := hB.2
      refine lv_goto (tgt := 39) hx hb dX9_settle_31 (by decide) ?_
      refine lv_iload_n hx hb dX9_settle_39 rfl (lv_at hl 3 rfl) ?_
      refine lv_iconst (v := 3) hx hb dX9_settle_40 (by decide) ?_
      refine lv_icmp_ne (tgt := 56) hx hb dX9_settle_41 (by decide) (fun c41 => ?_) (fun c41 => ?_)
      · refine lv_aload_n hx hb dX9_settle_56 rfl (lv_at hl 2 rfl) ?_
        refine gf_X9_388 F hB dX9_settle_57 ((hB.2.2.2.2.2.2.2.2.2.1 _ hj).2.2 _ hT).2 ?_
        refine lv_aload_n hx hb dX9_settle_60 rfl (lv_at hl 2 rfl) ?_
        refine gf_X9_590 F hB dX9_settle_61 ((hB.2.2.2.2.2.2.2.2.2.1 _ hj).2.2 _ hT).2 ?_
        refine lv_icmp_lt (tgt := 89) hx hb dX9_settle_64 (by decide) (fun c64 => ?_) (fun c64 => ?_)
        · refine lv_aload_n hx hb dX9_settle_89 rfl (lv_at hl 2 rfl) ?_
          refine gf_X9_626 F hB dX9_settle_90 ((hB.2.2.2.2.2.2.2.2.2.1 _ hj).2.2 _ hT).2 ?_
          refine lv_if_eq (tgt := 106) hx hb dX9_settle_93 (by decide) (fun c93 => ?_) (fun c93 => ?_)
          · refine lv_aload_n hx hb dX9_settle_106 rfl (lv_at hl 1 rfl) ?_
            refine gf_X9_616 F hB dX9_settle_107 (hB.2.2.2.2.2.2.2.2.1 _ hj).1 ?_
            refine lv_iconst (v := 3) hx hb dX9_settle_110 (by decide) ?_
            refine lv_icmp_lt (tgt := 123) hx hb dX9_settle_111 (by decide) (fun c111 => ?_) (fun c111 => ?_)
            · exact cl_vret F hB hrt dX9_settle_123 (by first | exact ⟨rfl, hI8⟩ | exact ⟨rfl, hI9⟩ | fail "no road")
            · refine lv_aload_n hx hb dX9_settle_114 rfl (lv_at hl 0 rfl) ?_
              refine lv_aload_n hx hb dX9_settle_115 rfl (lv_at hl 1 rfl) ?_
              refine lv_bipush (v := 101) hx hb dX9_settle_116 (by decide) ?_
              refine lv_iload hx hb dX9_settle_118 (lv_at hl 4 rfl) ?_
              refine cl_callV (ci := 14) F hB (k_halt l D cy hst hs hB.2 hI9 hj hQ9 _ _ (show sgF 1 _ from ⟨by decide, by decide⟩) hfl _) (cwV 3 F.1.2.2.2.2 (vgV (vm_9 _ (List.mem_of_getElem? (i := 19) rfl)) (vm_9 _ (List.mem_of_getElem? (i := 20) rfl)) (vm_9 _ (List.mem_of_getElem? (i := 21) rfl)) (vm_4 _ (List.mem_of_getElem? (i := 20) rfl)) (vm_9 _ (List.mem_of_getElem? (i := 18) rfl))) rfl rfl rfl ⟨rfl, by decide, by decide, by decide +kernel⟩ ⟨Nat.le_of_ble_eq_true rfl, Nat.le_of_ble_eq_true rfl⟩) rfl rfl (by decide) rfl hl.1 rfl (Nat.le_of_ble_eq_true rfl) dX9_settle_120 ⟨Nat.le_of_ble_eq_true rfl, Nat.le_of_ble_eq_true rfl⟩ hB.2.2.1.1 (fun H locs v σ120 hB hP => ?_)
              obtain ⟨rfl, hI8⟩ := hP
              exact cl_vret F hB hrt dX9_settle_123 (by first | exact ⟨rfl, hI8⟩ | exact ⟨rfl, hI9⟩ | fail "no road")
          · refine lv_aload_n hx hb dX9_settle_96 rfl (lv_at hl 0 rfl) ?_
            refine lv_aload_n hx hb dX9_settle_97 rfl (lv_at hl 1 rfl) ?_
            refine lv_bipush (v := 104) hx hb dX9_settle_98 (by decide) ?_
            refine cl_callV (ci := 14) F hB (k_end l D cy hst hs hB.2 hj _ (show sgF 1 _ from ⟨by decide, by decide⟩) hQ9.2.2 _) (cwV 2 F.1.2.2.2.2 (vgV (vm_5 _ (List.mem_of_getElem? (i := 26) rfl)) (vm_5 _ (List.mem_of_getElem? (i := 27) rfl)) (vm_5 _ (List.mem_of_getElem? (i := 28) rfl)) (vm_4 _ (List.mem_of_getElem? (i := 20) rfl)) (vm_5 _ (List.mem_of_getElem? (i := 18) rfl))) rfl rfl rfl ⟨rfl, by decide, by decide, by decide +kernel⟩ ⟨Nat.le_of_ble_eq_true rfl, Nat.le_of_ble_eq_true rfl⟩) rfl rfl (by decide) rfl hl.1 rfl (Nat.le_of_ble_eq_true rfl) dX9_settle_100 ⟨Nat.le_of_ble_eq_true rfl, Nat.le_of_ble_eq_true rfl⟩ hB.2.2.1.1 (fun H locs v σ100 hB hP => ?_)
            obtain ⟨rfl, σ8, hV8, hk8, rfl⟩ := hP
            have hI8 := SI_drop hV8 (SI_kept hV9 hV8 hk8 (by decide +kernel) hI9) hj (TQ_kept hV9 hV8 hk8 (by decide +kernel) hj hQ9).2.2
            refine lv_goto (tgt := 123) hx hb dX9_settle_103 (by decide) ?_
            exact cl_vret F hB hrt dX9_settle_123 (by first | exact ⟨rfl, hI8⟩ | exact ⟨rfl, hI9⟩ | fail "no road")
        · refine lv_aload_n hx hb dX9_settle_67 rfl (lv_at hl 0 rfl) ?_
          refine lv_aload_n hx hb dX9_settle_68 rfl (lv_at hl 1 rfl) ?_
          refine lv_aload_n hx hb dX9_settle_69 rfl (lv_at hl 2 rfl) ?_
          refine gf_X9_623 F hB dX9_settle_70 ((hB.2.2.2.2.2.2.2.2.2.1 _ hj).2.2 _ hT).2 ?_
          refine lv_if_eq (tgt := 81) hx hb dX9_settle_73 (by decide) (fun c73 => ?_) (fun c73 => ?_)
          · refine lv_bipush (v := 100) hx hb dX9_settle_81 (by decide) ?_
            refine cl_callV (ci := 14) F hB (k_end l D cy hst hs hB.2 hj _ (show sgF 1 _ from ⟨by decide, by decide⟩) hQ9.2.2 _) (cwV 2 F.1.2.2.2.2 (vgV (vm_5 _ (List.mem_of_getElem? (i := 26) rfl)) (vm_5 _ (List.mem_of_getElem? (i := 27) rfl)) (vm_5 _ (List.mem_of_getElem? (i := 28) rfl)) (vm_4 _ (List.mem_of_getElem? (i := 20) rfl)) (vm_5 _ (List.mem_of_getElem? (i := 18) rfl))) rfl rfl rfl ⟨rfl, by decide, by decide, by decide +kernel⟩ ⟨Nat.le_of_ble_eq_true rfl, Nat.le_of_ble_eq_true rfl⟩) rfl rfl (by decide) rfl hl.1 rfl (Nat.le_of_ble_eq_true rfl) dX9_settle_83 ⟨Nat.le_of_ble_eq_true rfl, Nat.le_of_ble_eq_true rfl⟩ hB.2.2.1.1 (fun H locs v σ83 hB hP => ?_)
            obtain ⟨rfl, σ8, hV8, hk8, rfl⟩ := hP
            have hI8 := SI_drop hV8 (SI_kept hV9 hV8 hk8 (by decide +kernel) hI9) hj (TQ_kept hV9 hV8 hk8 (by decide +kernel) hj hQ9).2.2
            refine lv_goto (tgt := 123) hx hb dX9_settle_86 (by decide) ?_
            exact cl_vret F hB hrt dX9_settle_123 (by first | exact ⟨rfl, hI8⟩ | exact ⟨rfl, hI9⟩ | fail "no road")
          · refine lv_bipush (v := 108) hx hb dX9_settle_76 (by decide) ?_
            refine lv_goto (tgt := 83) hx hb dX9_settle_78 (by decide) ?_
            refine cl_callV (ci := 14) F hB (k_end l D cy hst hs hB.2 hj _ (show sgF 1 _ from ⟨by decide, by decide⟩) hQ9.2.2 _) (cwV 2 F.1.2.2.2.2 (vgV (vm_5 _ (List.mem_of_getElem? (i := 26) rfl)) (vm_5 _ (List.mem_of_getElem? (i := 27) rfl)) (vm_5 _ (List.mem_of_getElem? (i := 28) rfl)) (vm_4 _ (List.mem_of_getElem? (i := 20) rfl)) (vm_5 _ (List.mem_of_getElem? (i := 18) rfl))) rfl rfl rfl ⟨rfl, by decide, by decide, by decide +kernel⟩ ⟨Nat.le_of_ble_eq_true rfl, Nat.le_of_ble_eq_true rfl⟩) rfl rfl (by decide) rfl hl.1 rfl (Nat.le_of_ble_eq_true rfl) dX9_settle_83 ⟨Nat.le_of_ble_eq_true rfl, Nat.le_of_ble_eq_true rfl⟩ hB.2.2.1.1 (fun H locs v σ83 hB hP => ?_)
            obtain ⟨rfl, σ8, hV8, hk8, rfl⟩ := hP
            have hI8 := SI_drop hV8 (SI_kept hV9 hV8 hk8 (by decide +kernel) hI9) hj (TQ_kept hV9 hV8 hk8 (by decide +kernel) hj hQ9).2.2
            refine lv_goto (tgt := 123) hx hb dX9_settle_86 (by decide) ?_
            exact cl_vret F hB hrt dX9_settle_123 (by first | exact ⟨rfl, hI8⟩ | exact ⟨rfl, hI9⟩ | fail "no road")
      · refine lv_aload_n hx hb dX9_settle_44 rfl (lv_at hl 0 rfl) ?_
        refine lv_aload_n hx hb dX9_settle_45 rfl (lv_at hl 1 rfl) ?_
        refine lv_bipush (v := 115) hx hb dX9_settle_46 (by decide) ?_
        refine lv_bipush (v := 115) hx hb dX9_settle_48 (by decide) ?_
        refine cl_callV (ci := 14) F hB (k_halt l D cy hst hs hB.2 hI9 hj hQ9 _ _ (show sgF 1 _ from ⟨by decide, by decide⟩) (show sgF 1 _ from ⟨by decide, by decide⟩) _) (cwV 3 F.1.2.2.2.2 (vgV (vm_9 _ (List.mem_of_getElem? (i := 19) rfl)) (vm_9 _ (List.mem_of_getElem? (i := 20) rfl)) (vm_9 _ (List.mem_of_getElem? (i := 21) rfl)) (vm_4 _ (List.mem_of_getElem? (i := 20) rfl)) (vm_9 _ (List.mem_of_getElem? (i := 18) rfl))) rfl rfl rfl ⟨rfl, by decide, by decide, by decide +kernel⟩ ⟨Nat.le_of_ble_eq_true rfl, Nat.le_of_ble_eq_true rfl⟩) rfl rfl (by decide) rfl hl.1 rfl (Nat.le_of_ble_eq_true rfl) dX9_settle_50 ⟨Nat.le_of_ble_eq_true rfl, Nat.le_of_ble_eq_true rfl⟩ hB.2.2.1.1 (fun H locs v σ50 hB hP => ?_)
        obtain ⟨rfl, hI8⟩ := hP
        refine lv_goto (tgt := 123) hx hb dX9_settle_53 (by decide) ?_
        exact cl_vret F hB hrt dX9_settle_123 (by first | exact ⟨rfl, hI8⟩ | exact ⟨rfl, hI9⟩ | fail "no road")
  · refine lv_aload_n hx hb dX9_settle_5 rfl (lv_at hl 1 rfl) ?_
    refine lv_iconst (v := 1) hx hb dX9_settle_6 (by decide) ?_
    refine pf_X9_427 F hB dX9_settle_7 (hB.2.2.2.2.2.2.2.2.1 _ hj).1 ⟨by decide, by decide⟩ (fun H locs hBn => ?_)
    clear hB; have hB := hBn; clear hBn
    have hI9 := si_of hB.2 (SI_PI (k := 10) hV9 hI9 (t := 11) (hB.2.2.2.2.2.2.2.2.1 _ hj).1 rfl (by decide))
    have hQ9 := tq_of hB.2 (TQ_PI (k9 := 10) (t := 11) hV9 hj hQ9 (hB.2.2.2.2.2.2.2.2.1 _ hj).1 (by decide))
    have hV9 := hB.2
    exact cl_vret F hB hrt dX9_settle_10 (by first | exact ⟨rfl, hI8⟩ | exact ⟨rfl, hI9⟩ | fail "no road")

theorem dX9_takeTurn_0 : decode cX9_takeTurn 0 = .ok (.aload_n 1, 1) := by decide +kernel
theorem dX9_takeTurn_1 : decode cX9_takeTurn 1 = .ok (.getfield 546, 3) := by decide +kernel
theorem dX9_takeTurn_4 : decode cX9_takeTurn 4 = .ok (.astore_n 2, 1) := by decide +kernel
theorem dX9_takeTurn_5 : decode cX9_takeTurn 5 = .ok (.aload_n 1, 1) := by decide +kernel
theorem dX9_takeTurn_6 : decode cX9_takeTurn 6 = .ok (.getfield 350, 3) := by decide +kernel
theorem dX9_takeTurn_9 : decode cX9_takeTurn 9 = .ok (.astore_n 3, 1) := by decide +kernel
theorem dX9_takeTurn_10 : decode cX9_takeTurn 10 = .ok (.aload_n 2, 1) := by decide +kernel
theorem dX9_takeTurn_11 : decode cX9_takeTurn 11 = .ok (.ifnull 7, 3) := by decide +kernel
theorem dX9_takeTurn_14 : decode cX9_takeTurn 14 = .ok (.aload_n 3, 1) := by decide +kernel
theorem dX9_takeTurn_15 : decode cX9_takeTurn 15 = .ok (.ifnonnull 4, 3) := by decide +kernel
theorem dX9_takeTurn_19 : decode cX9_takeTurn 19 = .ok (.aload_n 1, 1) := by decide +kernel
theorem dX9_takeTurn_20 : decode cX9_takeTurn 20 = .ok (.iconst 0, 1) := by decide +kernel
theorem dX9_takeTurn_21 : decode cX9_takeTurn 21 = .ok (.invokevirtual 374, 3) := by decide +kernel
theorem dX9_takeTurn_24 : decode cX9_takeTurn 24 = .ok (.astore 4, 2) := by decide +kernel
theorem dX9_takeTurn_26 : decode cX9_takeTurn 26 = .ok (.aload_n 3, 1) := by decide +kernel
theorem dX9_takeTurn_27 : decode cX9_takeTurn 27 = .ok (.aload 4, 2) := by decide +kernel
theorem dX9_takeTurn_29 : decode cX9_takeTurn 29 = .ok (.invokestatic 575, 3) := by decide +kernel
theorem dX9_takeTurn_32 : decode cX9_takeTurn 32 = .ok (.istore 5, 2) := by decide +kernel
theorem dX9_takeTurn_34 : decode cX9_takeTurn 34 = .ok (.aload_n 0, 1) := by decide +kernel
theorem dX9_takeTurn_35 : decode cX9_takeTurn 35 = .ok (.getfield 45, 3) := by decide +kernel
theorem dX9_takeTurn_38 : decode cX9_takeTurn 38 = .ok (.iload 5, 2) := by decide +kernel
theorem dX9_takeTurn_40 : decode cX9_takeTurn 40 = .ok (.invokestatic 301, 3) := by decide +kernel
theorem dX9_takeTurn_43 : decode cX9_takeTurn 43 = .ok (.aload_n 2, 1) := by decide +kernel
theorem dX9_takeTurn_44 : decode cX9_takeTurn 44 = .ok (.getfield 182, 3) := by decide +kernel
theorem dX9_takeTurn_47 : decode cX9_takeTurn 47 = .ok (.aload_n 2, 1) := by decide +kernel
theorem dX9_takeTurn_48 : decode cX9_takeTurn 48 = .ok (.getfield 109, 3) := by decide +kernel
theorem dX9_takeTurn_51 : decode cX9_takeTurn 51 = .ok (.iload 5, 2) := by decide +kernel
theorem dX9_takeTurn_53 : decode cX9_takeTurn 53 = .ok (.invokestatic 304, 3) := by decide +kernel
theorem dX9_takeTurn_56 : decode cX9_takeTurn 56 = .ok (.invokevirtual 597, 3) := by decide +kernel
theorem dX9_takeTurn_59 : decode cX9_takeTurn 59 = .ok (.aload_n 0, 1) := by decide +kernel
theorem dX9_takeTurn_60 : decode cX9_takeTurn 60 = .ok (.getfield 59, 3) := by decide +kernel
theorem dX9_takeTurn_63 : decode cX9_takeTurn 63 = .ok (.dup, 1) := by decide +kernel
theorem dX9_takeTurn_64 : decode cX9_takeTurn 64 = .ok (.getfield 418, 3) := by decide +kernel
theorem dX9_takeTurn_67 : decode cX9_takeTurn 67 = .ok (.iconst 1, 1) := by decide +kernel
theorem dX9_takeTurn_68 : decode cX9_takeTurn 68 = .ok (.iadd, 1) := by decide +kernel
theorem dX9_takeTurn_69 : decode cX9_takeTurn 69 = .ok (.putfield 418, 3) := by decide +kernel
theorem dX9_takeTurn_72 : decode cX9_takeTurn 72 = .ok (.aload_n 3, 1) := by decide +kernel
theorem dX9_takeTurn_73 : decode cX9_takeTurn 73 = .ok (.getfield 403, 3) := by decide +kernel
theorem dX9_takeTurn_76 : decode cX9_takeTurn 76 = .ok (.invokevirtual 552, 3) := by decide +kernel
theorem dX9_takeTurn_79 : decode cX9_takeTurn 79 = .ok (.istore 6, 2) := by decide +kernel
theorem dX9_takeTurn_81 : decode cX9_takeTurn 81 = .ok (.aload_n 3, 1) := by decide +kernel
theorem dX9_takeTurn_82 : decode cX9_takeTurn 82 = .ok (.aload 4, 2) := by decide +kernel
theorem dX9_takeTurn_84 : decode cX9_takeTurn 84 = .ok (.invokestatic 582, 3) := by decide +kernel
theorem dX9_takeTurn_87 : decode cX9_takeTurn 87 = .ok (.istore 7, 2) := by decide +kernel
theorem dX9_takeTurn_89 : decode cX9_takeTurn 89 = .ok (.aload_n 1, 1) := by decide +kernel
theorem dX9_takeTurn_90 : decode cX9_takeTurn 90 = .ok (.getfield 574, 3) := by decide +kernel
theorem dX9_takeTurn_93 : decode cX9_takeTurn 93 = .ok (.bipush 115, 2) := by decide +kernel
theorem dX9_takeTurn_95 : decode cX9_takeTurn 95 = .ok (.if_icmp .ne 19, 3) := by decide +kernel
theorem dX9_takeTurn_98 : decode cX9_takeTurn 98 = .ok (.aload_n 0, 1) := by decide +kernel
theorem dX9_takeTurn_99 : decode cX9_takeTurn 99 = .ok (.aload_n 3, 1) := by decide +kernel
theorem dX9_takeTurn_100 : decode cX9_takeTurn 100 = .ok (.aload 4, 2) := by decide +kernel
theorem dX9_takeTurn_102 : decode cX9_takeTurn 102 = .ok (.iload 7, 2) := by decide +kernel
theorem dX9_takeTurn_104 : decode cX9_takeTurn 104 = .ok (.iload 6, 2) := by decide +kernel
theorem dX9_takeTurn_106 : decode cX9_takeTurn 106 = .ok (.invokevirtual 600, 3) := by decide +kernel
theorem dX9_takeTurn_109 : decode cX9_takeTurn 109 = .ok (.istore 8, 2) := by decide +kernel
theorem dX9_takeTurn_111 : decode cX9_takeTurn 111 = .ok (.goto 42, 3) := by decide +kernel
theorem dX9_takeTurn_114 : decode cX9_takeTurn 114 = .ok (.aload_n 3, 1) := by decide +kernel
theorem dX9_takeTurn_115 : decode cX9_takeTurn 115 = .ok (.getfield 144, 3) := by decide +kernel
theorem dX9_takeTurn_118 : decode cX9_takeTurn 118 = .ok (.ifCond .eq 21, 3) := by decide +kernel
theorem dX9_takeTurn_121 : decode cX9_takeTurn 121 = .ok (.aload_n 0, 1) := by decide +kernel
theorem dX9_takeTurn_122 : decode cX9_takeTurn 122 = .ok (.aload_n 1, 1) := by decide +kernel
theorem dX9_takeTurn_123 : decode cX9_takeTurn 123 = .ok (.aload_n 2, 1) := by decide +kernel
theorem dX9_takeTurn_124 : decode cX9_takeTurn 124 = .ok (.aload_n 3, 1) := by decide +kernel
theorem dX9_takeTurn_125 : decode cX9_takeTurn 125 = .ok (.aload 4, 2) := by decide +kernel
theorem dX9_takeTurn_127 : decode cX9_takeTurn 127 = .ok (.iload 7, 2) := by decide +kernel
theorem dX9_takeTurn_129 : decode cX9_takeTurn 129 = .ok (.iload 6, 2) := by decide +kernel
theorem dX9_takeTurn_131 : decode cX9_takeTurn 131 = .ok (.invokevirtual 604, 3) := by decide +kernel
theorem dX9_takeTurn_134 : decode cX9_takeTurn 134 = .ok (.istore 8, 2) := by decide +kernel
theorem dX9_takeTurn_136 : decode cX9_takeTurn 136 = .ok (.goto 17, 3) := by decide +kernel
theorem dX9_takeTurn_139 : decode cX9_takeTurn 139 = .ok (.aload_n 0, 1) := by decide +kernel
theorem dX9_takeTurn_140 : decode cX9_takeTurn 140 = .ok (.aload_n 1, 1) := by decide +kernel
theorem dX9_takeTurn_141 : decode cX9_takeTurn 141 = .ok (.aload_n 3, 1) := by decide +kernel
theorem dX9_takeTurn_142 : decode cX9_takeTurn 142 = .ok (.aload 4, 2) := by decide +kernel
theorem dX9_takeTurn_144 : decode cX9_takeTurn 144 = .ok (.iload 7, 2) := by decide +kernel
theorem dX9_takeTurn_146 : decode cX9_takeTurn 146 = .ok (.iload 6, 2) := by decide +kernel
theorem dX9_takeTurn_148 : decode cX9_takeTurn 148 = .ok (.invokevirtual 608, 3) := by decide +kernel
theorem dX9_takeTurn_151 : decode cX9_takeTurn 151 = .ok (.istore 8, 2) := by decide +kernel
theorem dX9_takeTurn_153 : decode cX9_takeTurn 153 = .ok (.iload 8, 2) := by decide +kernel
theorem dX9_takeTurn_155 : decode cX9_takeTurn 155 = .ok (.iconst 4, 1) := by decide +kernel
theorem dX9_takeTurn_156 : decode cX9_takeTurn 156 = .ok (.if_icmp .ne 13, 3) := by decide +kernel
theorem dX9_takeTurn_159 : decode cX9_takeTurn 159 = .ok (.aload_n 0, 1) := by decide +kernel
theorem dX9_takeTurn_160 : decode cX9_takeTurn 160 = .ok (.aload_n 2, 1) := by decide +kernel
theorem dX9_takeTurn_161 : decode cX9_takeTurn 161 = .ok (.bipush 115, 2) := by decide +kernel
theorem dX9_takeTurn_163 : decode cX9_takeTurn 163 = .ok (.invokevirtual 211, 3) := by decide +kernel
theorem dX9_takeTurn_166 : decode cX9_takeTurn 166 = .ok (.goto 14, 3) := by decide +kernel
theorem dX9_takeTurn_169 : decode cX9_takeTurn 169 = .ok (.aload_n 0, 1) := by decide +kernel
theorem dX9_takeTurn_170 : decode cX9_takeTurn 170 = .ok (.aload_n 1, 1) := by decide +kernel
theorem dX9_takeTurn_171 : decode cX9_takeTurn 171 = .ok (.aload 4, 2) := by decide +kernel
theorem dX9_takeTurn_173 : decode cX9_takeTurn 173 = .ok (.iload 8, 2) := by decide +kernel
theorem dX9_takeTurn_175 : decode cX9_takeTurn 175 = .ok (.iload 6, 2) := by decide +kernel
theorem dX9_takeTurn_177 : decode cX9_takeTurn 177 = .ok (.invokevirtual 612, 3) := by decide +kernel
theorem dX9_takeTurn_180 : decode cX9_takeTurn 180 = .ok (.return_, 1) := by decide +kernel
set_option maxRecDepth 100000 in
set_option maxHeartbeats 4000000 in
theorem k_turn (l : Launch) (D : va_G) (cy : Nat → ClassId) {ad τ : List Nat} {Y : CY} {σ : SG} (hst : l.stackTraces = false) (hs : vi_s1 vSG τ) (hV : VL cy ad τ Y σ) {B : Int} (hI : SI Y σ B) {j i k : Nat} (hj : j < 12) (hi : i < 16) (hk : k < 3) (hQ : TQ Y σ j i k) (hB9 : B ≤ 1000000000) (sz : Nat) : clM l D cy ad τ Y σ sz yX9_takeTurn (Cond.code yX9_takeTurn cX9_takeTurn 9 none :: vWall) 5 123 [.ref (yX Y), .ref (yp Y j)] (fun v s2 => v = none ∧ SI Y s2 (B + 8)) := by
  refine cl_ofW (cc := cX9_takeTurn) (maxL := 9) (ret := none) hV (by decide) rfl (Nat.le_of_ble_eq_true rfl) (lv := [(0, .ref (yX Y)), (1, .ref (yp Y j))]) rfl (fun p e s m below meth c ls H hrt hnm F hB hl => ?_) sz
  have hx := F.1.1
  have hb := F.1.2.1
  have hown := F.1.2.2.2.1
  generalize hlo : ([] : List Loc) = locs at hB ⊢
  clear hlo
  obtain ⟨LX, LD, Ld, LE, Le, LP9, Lp, Lt, LU, LA, Lz⟩ := hV.2
  have e0 : (0 : Int32).toInt = 0 := rfl
  have e1 : (1 : Int32).toInt = 1 := rfl
  have e16 : (16 : Int32).toInt = 16 := rfl
  have e12 : (12 : Int32).toInt = 12 := rfl
  have e4 : (4 : Int32).toInt = 4 := rfl
  have e8 : (8 : Int32).toInt = 8 := rfl
  have hV9 := hV
  have hI9 := hI
  have hQ9 := hQ
  have h3 := c_and3 (sgI σ (yp Y j) 12 + 0)
  obtain ⟨T, eT⟩ : ∃ T : Nat, T = ((sgI σ (yp Y j) 12 + 0) &&& 3).toInt.toNat := ⟨_, rfl⟩
  have hT : T < 4 := by omega
  have hT9 : TA Y σ j i k T 0 (sgI σ (ye Y i k) 1) := ⟨hQ, TP_of hI hj hQ (by rw [eT, m4_and]; rfl) (fun z => by
    have q := hI.2.2.2.1 j hj _ hQ.2.1 z 0 (by decide) (by rw [e0]; have := hQ.2.2; omega)
    unfold tx at q
    rw [← eT] at q
    omega), rfl⟩
  refine lv_aload_n hx hb dX9_takeTurn_0 rfl (lv_at hl 1 rfl) ?_
  refine gr_X9_546 F hB dX9_takeTurn_1 (hB.2.2.2.2.2.2.2.2.1 _ hj).1 hQ.1 ?_
  refine lv_astore_n (lv' := [(2, .ref _), (0, .ref _), (1, .ref _)]) hx hb dX9_takeTurn_4 rfl hl (by decide) rfl (fun ls hl => ?_)
  refine lv_aload_n hx hb dX9_takeTurn_5 rfl (lv_at hl 2 rfl) ?_
  refine gr_X9_350 F hB dX9_takeTurn_6 (hB.2.2.2.2.2.2.2.2.1 _ hj).1 hQ.2.1 ?_
  refine lv_astore_n (lv' := [(3, .ref _), (2, .ref _), (0, .ref _), (1, .ref _)]) hx hb dX9_takeTurn_9 rfl hl (by decide) rfl (fun ls hl => ?_)
  refine lv_aload_n hx hb dX9_takeTurn_10 rfl (lv_at hl 1 rfl) ?_
  refine lv_ifnull hx hb dX9_takeTurn_11 ?_
  refine lv_aload_n hx hb dX9_takeTurn_14 rfl (lv_at hl 0 rfl) ?_
  refine lv_ifnonnull (tgt := 19) hx hb dX9_takeTurn_15 (by decide) ?_
  refine lv_aload_n hx hb dX9_takeTurn_19 rfl (lv_at hl 3 rfl) ?_
  refine lv_iconst (v := 0) hx hb dX9_takeTurn_20 (by decide) ?_
  refine cl_callN (ci := 10) F hB (k_trAt l D cy hB.2 hj _ _) ⟨va_cnB 1 F.1.2.2.2.2 (vgN (vm_2 _ (List.mem_of_getElem? (i := 25) rfl))) rfl rfl rfl (F.2.2.1.1 _ nf_129) (F.1.2.2.2.2 _ (List.mem_cons_of_mem _ (vm_2 _ (List.mem_of_getElem? (i := 22) rfl)))) ⟨by decide, by decide, by decide +kernel⟩ ⟨Nat.le_of_ble_eq_true rfl, Nat.le_of_ble_eq_true rfl⟩, F.1.2.2.2.2 _ (List.mem_cons_of_mem _ (vm_2 _ (List.mem_of_getElem? (i := 30) rfl))), F.1.2.2.2.2 _ (List.mem_cons_of_mem _ (vm_2 _ (List.mem_of_getElem? (i := 31) rfl)))⟩ rfl rfl (by decide) rfl hl.1 rfl (Nat.le_of_ble_eq_true rfl) dX9_takeTurn_21 ⟨Nat.le_of_ble_eq_true rfl, Nat.le_of_ble_eq_true rfl⟩ (hB.2.2.2.2.2.2.2.2.1 _ hj).1 (fun H locs v σ21 hB hP => ?_)
  obtain ⟨rfl, rfl⟩ := hP
  rw [← eT]
  refine lv_astore (lv' := [(4, .ref _), (3, .ref _), (2, .ref _), (0, .ref _), (1, .ref _)]) hx hb dX9_takeTurn_24 hl (by decide) rfl (fun ls hl => ?_)
  refine lv_aload_n hx hb dX9_takeTurn_26 rfl (lv_at hl 1 rfl) ?_
  refine lv_aload hx hb dX9_takeTurn_27 (lv_at hl 0 rfl) ?_
  refine cl_callS F hB (k_bp l D cy hB.2 hj hi hk hT (fun z => by have q := hT9.2.1 z; omega) _) (cwS 2 F.1.2.2.2.2 (vgS (vm_9 _ (List.mem_of_getElem? (i := 2) rfl)) (vm_9 _ (List.mem_of_getElem? (i := 3) rfl)) (vm_4 _ (List.mem_of_getElem? (i := 20) rfl)) (vm_8 _ (List.mem_of_getElem? (i := 38) rfl))) rfl rfl rfl ⟨rfl, by decide, by decide, by decide +kernel⟩ ⟨Nat.le_of_ble_eq_true rfl, Nat.le_of_ble_eq_true rfl⟩) rfl hl.1 rfl (Nat.le_of_ble_eq_true rfl) dX9_takeTurn_29 ⟨Nat.le_of_ble_eq_true rfl, Nat.le_of_ble_eq_true rfl⟩ (fun H locs v σ29 hB hP => ?_)
  obtain ⟨⟨z29, rfl, hz29, hy29⟩, rfl⟩ := hP
  refine lv_istore (lv' := [(5, .int _), (4, .ref _), (3, .ref _), (2, .ref _), (0, .ref _), (1, .ref _)]) hx hb dX9_takeTurn_32 hl (by decide) rfl (fun ls hl => ?_)
  refine lv_aload_n hx hb dX9_takeTurn_34 rfl (lv_at hl 4 rfl) ?_
  refine gr_X9_45 F hB dX9_takeTurn_35 hB.2.2.1.1 LX.2.2.2.1 ?_
  refine lv_iload hx hb dX9_takeTurn_38 (lv_at hl 0 rfl) ?_
  refine cl_callS F hB (k_hostCost l D cy hB.2 _ _) (cwS 1 F.1.2.2.2.2 (vgS (vm_5 _ (List.mem_of_getElem? (i := 10) rfl)) (vm_5 _ (List.mem_of_getElem? (i := 11) rfl)) (vm_4 _ (List.mem_of_getElem? (i := 20) rfl)) (vm_5 _ (List.mem_of_getElem? (i := 7) rfl))) rfl rfl rfl ⟨rfl, by decide, by decide, by decide +kernel⟩ ⟨Nat.le_of_ble_eq_true rfl, Nat.le_of_ble_eq_true rfl⟩) rfl hl.1 rfl (Nat.le_of_ble_eq_true rfl) dX9_takeTurn_40 ⟨Nat.le_of_ble_eq_true rfl, Nat.le_of_ble_eq_true rfl⟩ (fun H locs v σ40 hB hP => ?_)
  obtain ⟨rfl, rfl⟩ := hP
  refine lv_aload_n hx hb dX9_takeTurn_43 rfl (lv_at hl 3 rfl) ?_
  refine gf_X9_182 F hB dX9_takeTurn_44 (hB.2.2.2.2.1 _ hi).1 ?_
  refine lv_aload_n hx hb dX9_takeTurn_47 rfl (lv_at hl 3 rfl) ?_
  refine gf_X9_109 F hB dX9_takeTurn_48 (hB.2.2.2.2.1 _ hi).1 ?_
  refine lv_iload hx hb dX9_takeTurn_51 (lv_at hl 0 rfl) ?_
  refine cl_callS F hB (k_hubCost l D cy hB.2 _ _ (by omega) (by omega) _) (cwS 2 F.1.2.2.2.2 (vgS (vm_5 _ (List.mem_of_getElem? (i := 12) rfl)) (vm_5 _ (List.mem_of_getElem? (i := 13) rfl)) (vm_4 _ (List.mem_of_getElem? (i := 20) rfl)) (vm_5 _ (List.mem_of_getElem? (i := 8) rfl))) rfl rfl rfl ⟨rfl, by decide, by decide, by decide +kernel⟩ ⟨Nat.le_of_ble_eq_true rfl, Nat.le_of_ble_eq_true rfl⟩) rfl hl.1 rfl (Nat.le_of_ble_eq_true rfl) dX9_takeTurn_53 ⟨Nat.le_of_ble_eq_true rfl, Nat.le_of_ble_eq_true rfl⟩ (fun H locs v σ53 hB hP => ?_)
  obtain ⟨⟨z53, rfl, hz53⟩, rfl⟩ := hP
  refine cl_vi (n := 0) (NC := 0) (av := [.ref (yu Y), .int _, .int _, .int _]) hB (vi_crVN F.1 (m_Units_use_0 l D cy hst) ⟨va_cnB 3 F.1.2.2.2.2 (vgN (vm_3 _ (List.mem_of_getElem? (i := 3) rfl))) rfl rfl rfl (F.2.2.1.1 _ nf_135) (F.1.2.2.2.2 _ (List.mem_cons_of_mem _ (vm_3 _ (List.mem_of_getElem? (i := 15) rfl)))) ⟨by decide, by decide, by decide +kernel⟩ ⟨Nat.le_of_ble_eq_true rfl, Nat.le_of_ble_eq_true rfl⟩, F.1.2.2.2.2 _ (List.mem_cons_of_mem _ (vm_9 _ (List.mem_of_getElem? (i := 23) rfl))), F.1.2.2.2.2 _ (List.mem_cons_of_mem _ (vm_9 _ (List.mem_of_getElem? (i := 24) rfl)))⟩ rfl ⟨_, _, _, _, _, _, rfl, rfl, rfl, rfl⟩ F.2.1 F.2.2.1 hs (fun _ _ _ _ => True.intro) (fun q hq => Or.inr hq) ⟨Nat.le_refl _, Nat.le_refl _⟩) hl.1 rfl (by intro j9 a9 x9 g1 g2; exact match j9, g1, g2 with | 0, g1, g2 => by cases g1; cases g2; exact okr (cl_kd (kd := 9) hB.2.1 LU.1 (by decide) (by decide +kernel)) | 1, g1, g2 => by cases g1; cases g2; exact ⟨_, rfl, cl_full _⟩ | 2, g1, g2 => by cases g1; cases g2; exact ⟨_, rfl, cl_full _⟩ | 3, g1, g2 => by cases g1; cases g2; exact ⟨_, rfl, cl_full _⟩ | n + 4, g1, g2 => by cases g1) (fun f hf => by cases hf) (Nat.le_of_ble_eq_true rfl) (by decide +kernel) (by decide) dX9_takeTurn_56 rfl (fun alt ha56 H locs v σ56 w56 hB hk56 ht56 hs56 hA56 => ?_)
  have hv56 := vi_voids (by decide) ha56 hA56
  subst hv56
  have hI9 := SI_kept hV9 hB.2 hk56 (by decide +kernel) hI9
  have hT9 := TA_kept hV9 hB.2 hk56 (by decide +kernel) hj hi hk hT hT9
  have hQ9 := TQ_kept hV9 hB.2 hk56 (by decide +kernel) hj hQ9
  have hV9 := hB.2
  refine lv_aload_n hx hb dX9_takeTurn_59 rfl (lv_at hl 4 rfl) ?_
  obtain ⟨sn, hsn, tsn⟩ := sn_of hB.2
  refine gr_X9_59 F hB dX9_takeTurn_60 hB.2.2.1.1 hsn ?_
  refine lv_dup hx hb dX9_takeTurn_63 rfl ?_
  refine gf_X9_418 F hB dX9_takeTurn_64 tsn ?_
  refine lv_iconst (v := 1) hx hb dX9_takeTurn_67 (by decide) ?_
  refine lv_iadd hx hb dX9_takeTurn_68 ?_
  refine pf_X9_418 F hB dX9_takeTurn_69 tsn (fun H locs hBn => ?_)
  clear hB; have hB := hBn; clear hBn
  have hI9 := si_of hB.2 (SI_PI (k := 0) hV9 hI9 (t := 12) tsn rfl (by decide))
  have hT9 := ta_of hB.2 (TA_PI (k9 := 0) (t := 12) hV9 hj hi hk hT hT9 tsn rfl)
  have hQ9 := tq_of hB.2 (TQ_PI (k9 := 0) (t := 12) hV9 hj hQ9 tsn (by decide))
  have hV9 := hB.2
  refine lv_aload_n hx hb dX9_takeTurn_72 rfl (lv_at hl 2 rfl) ?_
  obtain ⟨fb, hfb, tfb, qfb⟩ := fl_of hB.2 (hB.2.2.2.2.2.2.1 _ _ hi hk).1
  refine gr_X9_403 F hB dX9_takeTurn_73 (hB.2.2.2.2.2.2.1 _ _ hi hk).1 hfb ?_
  refine cl_vi (n := 0) (NC := 0) (av := [.ref fb]) hB (vi_crVN F.1 (m_Fault_use_0 l D cy hst) ⟨va_cnB 0 F.1.2.2.2.2 (vgN (vm_1 _ (List.mem_of_getElem? (i := 34) rfl))) rfl rfl rfl (F.2.2.1.1 _ nf_136) (F.1.2.2.2.2 _ (List.mem_cons_of_mem _ (vm_0 _ (List.mem_of_getElem? (i := 27) rfl)))) ⟨by decide, by decide, by decide +kernel⟩ ⟨Nat.le_of_ble_eq_true rfl, Nat.le_of_ble_eq_true rfl⟩, F.1.2.2.2.2 _ (List.mem_cons_of_mem _ (vm_6 _ (List.mem_of_getElem? (i := 15) rfl))), F.1.2.2.2.2 _ (List.mem_cons_of_mem _ (vm_6 _ (List.mem_of_getElem? (i := 16) rfl)))⟩ rfl ⟨_, _, _, _, _, _, rfl, rfl, rfl, rfl⟩ F.2.1 F.2.2.1 hs (fun _ _ _ _ => True.intro) (fun q hq => Or.inr hq) ⟨Nat.le_refl _, Nat.le_refl _⟩) hl.1 rfl (by intro j9 a9 x9 g1 g2; exact match j9, g1, g2 with | 0, g1, g2 => by cases g1; cases g2; exact okr qfb | n + 1, g1, g2 => by cases g1) (fun f hf => by cases hf) (Nat.le_of_ble_eq_true rfl) (by decide +kernel) (by decide) dX9_takeTurn_76 rfl (fun alt ha76 H locs v σ76 w76 hB hk76 ht76 hs76 hA76 => ?_)
  obtain ⟨z76, rfl, hfl76⟩ := vi_chr (by decide) ha76 hA76
  have hI9 := SI_kept hV9 hB.2 hk76 (by decide +kernel) hI9
  have hT9 := TA_kept hV9 hB.2 hk76 (by decide +kernel) hj hi hk hT hT9
  have hQ9 := TQ_kept hV9 hB.2 hk76 (by decide +kernel) hj hQ9
  have hV9 := hB.2
  refine lv_istore (lv' := [(6, .int _), (5, .int _), (4, .ref _), (3, .ref _), (2, .ref _), (0, .ref _), (1, .ref _)]) hx hb dX9_takeTurn_79 hl (by decide) rfl (fun ls hl => ?_)
  refine lv_aload_n hx hb dX9_takeTurn_81 rfl (lv_at hl 3 rfl) ?_
  refine lv_aload hx hb dX9_takeTurn_82 (lv_at hl 2 rfl) ?_
  refine cl_callS F hB (k_pkb l D cy hB.2 hj hi hk hT (fun z => by have q := hT9.2.1 z; omega) _) (cwS 2 F.1.2.2.2.2 (vgS (vm_9 _ (List.mem_of_getElem? (i := 0) rfl)) (vm_9 _ (List.mem_of_getElem? (i := 1) rfl)) (vm_4 _ (List.mem_of_getElem? (i := 20) rfl)) (vm_8 _ (List.mem_of_getElem? (i := 36) rfl))) rfl rfl rfl ⟨rfl, by decide, by decide, by decide +kernel⟩ ⟨Nat.le_of_ble_eq_true rfl, Nat.le_of_ble_eq_true rfl⟩) rfl hl.1 rfl (Nat.le_of_ble_eq_true rfl) dX9_takeTurn_84 ⟨Nat.le_of_ble_eq_true rfl, Nat.le_of_ble_eq_true rfl⟩ (fun H locs v σ84 hB hP => ?_)
  obtain ⟨⟨z84, rfl, hz84, hy84⟩, rfl⟩ := hP
  refine lv_istore (lv' := [(7, .int _), (6, .int _), (5, .int _), (4, .ref _), (3, .ref _), (2, .ref _), (0, .ref _), (1, .ref _)]) hx hb dX9_takeTurn_87 hl (by decide) rfl (fun ls hl => ?_)
  refine lv_aload_n hx hb dX9_takeTurn_89 rfl (lv_at hl 7 rfl) ?_
  refine gf_X9_574 F hB dX9_takeTurn_90 (hB.2.2.2.2.2.2.2.2.1 _ hj).1 ?_
  refine lv_bipush (v := 115) hx hb dX9_takeTurn_93 (by decide) ?_
  refine lv_icmp_ne (tgt := 114) hx hb dX9_takeTurn_95 (by decide) (fun c95 => ?_) (fun c95 => ?_)
  · refine lv_aload_n hx hb dX9_takeTurn_114 rfl (lv_at hl 4 rfl) ?_
    refine gf_X9_144 F hB dX9_takeTurn_115 (hB.2.2.2.2.2.2.1 _ _ hi hk).1 ?_
    refine lv_if_eq (tgt := 139) hx hb dX9_takeTurn_118 (by decide) (fun c118 => ?_) (fun c118 => ?_)
    · refine lv_aload_n hx hb dX9_takeTurn_139 rfl (lv_at hl 6 rfl) ?_
      refine lv_aload_n hx hb dX9_takeTurn_140 rfl (lv_at hl 7 rfl) ?_
      refine lv_aload_n hx hb dX9_takeTurn_141 rfl (lv_at hl 4 rfl) ?_
      refine lv_aload hx hb dX9_takeTurn_142 (lv_at hl 3 rfl) ?_
      refine lv_iload hx hb dX9_takeTurn_144 (lv_at hl 0 rfl) ?_
      refine lv_iload hx hb dX9_takeTurn_146 (lv_at hl 1 rfl) ?_
      refine cl_callV (ci := 14) F hB (k_pOut l D cy hB.2 hI9 hj hi hk hT hQ9 _ _ (fun z => by have q := hT9.2.1 z; have q2 := hy84 z; omega) hz84 hB9 c118 _) (cwV 5 F.1.2.2.2.2 (vgV (vm_9 _ (List.mem_of_getElem? (i := 31) rfl)) (vm_9 _ (List.mem_of_getElem? (i := 32) rfl)) (vm_9 _ (List.mem_of_getElem? (i := 33) rfl)) (vm_4 _ (List.mem_of_getElem? (i := 20) rfl)) (vm_9 _ (List.mem_of_getElem? (i := 17) rfl))) rfl rfl rfl ⟨rfl, by decide, by decide, by decide +kernel⟩ ⟨Nat.le_of_ble_eq_true rfl, Nat.le_of_ble_eq_true rfl⟩) rfl rfl (by decide) rfl hl.1 rfl (Nat.le_of_ble_eq_true rfl) dX9_takeTurn_148 ⟨Nat.le_of_ble_eq_true rfl, Nat.le_of_ble_eq_true rfl⟩ hB.2.2.1.1 (fun H locs v σ148 hB hP => ?_)
      obtain ⟨⟨x148, rfl⟩, hI8, hQ8⟩ := hP
      refine lv_istore (lv' := [(8, .int _), (7, .int _), (6, .int _), (5, .int _), (4, .ref _), (3, .ref _), (2, .ref _), (0, .ref _), (1, .ref _)]) hx hb dX9_takeTurn_151 hl (by decide) rfl (fun ls hl => ?_)
      refine lv_iload hx hb dX9_takeTurn_153 (lv_at hl 0 rfl) ?_
      refine lv_iconst (v := 4) hx hb dX9_takeTurn_155 (by decide) ?_
      refine lv_icmp_ne (tgt := 169) hx hb dX9_takeTurn_156 (by decide) (fun c156 => ?_) (fun c156 => ?_)
      · refine lv_aload_n hx hb dX9_takeTurn_169 rfl (lv_at hl 7 rfl) ?_
        refine lv_aload_n hx hb dX9_takeTurn_170 rfl (lv_at hl 8 rfl) ?_
        refine lv_aload hx hb dX9_takeTurn_171 (lv_at hl 4 rfl) ?_
        refine lv_iload hx hb dX9_takeTurn_173 (lv_at hl 0 rfl) ?_
        refine lv_iload hx hb dX9_takeTurn_175 (lv_at hl 2 rfl) ?_
        refine cl_callV (ci := 14) F hB (k_settle l D cy hst hs hB.2 hI8 hj hi hk hT hQ8 _ _ hfl76 _) (cwV 4 F.1.2.2.2.2 (vgV (vm_9 _ (List.mem_of_getElem? (i := 34) rfl)) (vm_9 _ (List.mem_of_getElem? (i := 35) rfl)) (vm_9 _ (List.mem_of_getElem? (i := 36) rfl)) (vm_4 _ (List.mem_of_getElem? (i := 20) rfl)) (vm_9 _ (List.mem_of_getElem? (i := 22) rfl))) rfl rfl rfl ⟨rfl, by decide, by decide, by decide +kernel⟩ ⟨Nat.le_of_ble_eq_true rfl, Nat.le_of_ble_eq_true rfl⟩) rfl rfl (by decide) rfl hl.1 rfl (Nat.le_of_ble_eq_true rfl) dX9_takeTurn_177 ⟨Nat.le_of_ble_eq_true rfl, Nat.le_of_ble_eq_true rfl⟩ hB.2.2.1.1 (fun H locs v σ177 hB hP => ?_)
        obtain ⟨rfl, hI7⟩ := hP
        exact cl_vret F hB hrt dX9_takeTurn_180 (⟨rfl, hI7⟩)
      · refine lv_aload_n hx hb dX9_takeTurn_159 rfl (lv_at hl 7 rfl) ?_
        refine lv_aload_n hx hb dX9_takeTurn_160 rfl (lv_at hl 6 rfl) ?_
        refine lv_bipush (v := 115) hx hb dX9_takeTurn_161 (by decide) ?_
        refine cl_callV (ci := 14) F hB (k_dis l D cy hst hs hB.2 hI8 hi (TQ_st hI8.2.1 hB.2.2 hj hi hQ8) 115 (show sgF 1 115 from ⟨by decide, by decide⟩) (by decide) (by decide) _) (cwV 2 F.1.2.2.2.2 (vgV (vm_6 _ (List.mem_of_getElem? (i := 38) rfl)) (vm_6 _ (List.mem_of_getElem? (i := 39) rfl)) (vm_7 _ (List.mem_of_getElem? (i := 0) rfl)) (vm_4 _ (List.mem_of_getElem? (i := 20) rfl)) (vm_6 _ (List.mem_of_getElem? (i := 17) rfl))) rfl rfl rfl ⟨rfl, by decide, by decide, by decide +kernel⟩ ⟨Nat.le_of_ble_eq_true rfl, Nat.le_of_ble_eq_true rfl⟩) rfl rfl (by decide) rfl hl.1 rfl (Nat.le_of_ble_eq_true rfl) dX9_takeTurn_163 ⟨Nat.le_of_ble_eq_true rfl, Nat.le_of_ble_eq_true rfl⟩ hB.2.2.1.1 (fun H locs v σ163 hB hP => ?_)
        obtain ⟨rfl, hI7⟩ := hP
        refine lv_goto (tgt := 180) hx hb dX9_takeTurn_166 (by decide) ?_
        exact cl_vret F hB hrt dX9_takeTurn_180 (⟨rfl, hI7⟩)
    · refine lv_aload_n hx hb dX9_takeTurn_121 rfl (lv_at hl 6 rfl) ?_
      refine lv_aload_n hx hb dX9_takeTurn_122 rfl (lv_at hl 7 rfl) ?_
      refine lv_aload_n hx hb dX9_takeTurn_123 rfl (lv_at hl 5 rfl) ?_
      refine lv_aload_n hx hb dX9_takeTurn_124 rfl (lv_at hl 4 rfl) ?_
      refine lv_aload hx hb dX9_takeTurn_125 (lv_at hl 3 rfl) ?_
      refine lv_iload hx hb dX9_takeTurn_127 (lv_at hl 0 rfl) ?_
      refine lv_iload hx hb dX9_takeTurn_129 (lv_at hl 1 rfl) ?_
      refine cl_callV (ci := 14) F hB (k_pIn l D cy hst hs hB.2 hI9 hj hi hk hT hQ9 _ _ (fun z => absurd z c118) hz84 hB9 _) (cwV 6 F.1.2.2.2.2 (vgV (vm_9 _ (List.mem_of_getElem? (i := 28) rfl)) (vm_9 _ (List.mem_of_getElem? (i := 29) rfl)) (vm_9 _ (List.mem_of_getElem? (i := 30) rfl)) (vm_4 _ (List.mem_of_getElem? (i := 20) rfl)) (vm_9 _ (List.mem_of_getElem? (i := 16) rfl))) rfl rfl rfl ⟨rfl, by decide, by decide, by decide +kernel⟩ ⟨Nat.le_of_ble_eq_true rfl, Nat.le_of_ble_eq_true rfl⟩) rfl rfl (by decide) rfl hl.1 rfl (Nat.le_of_ble_eq_true rfl) dX9_takeTurn_131 ⟨Nat.le_of_ble_eq_true rfl, Nat.le_of_ble_eq_true rfl⟩ hB.2.2.1.1 (fun H locs v σ131 hB hP => ?_)
      obtain ⟨⟨x131, rfl⟩, hI8, hQ8⟩ := hP
      refine lv_istore (lv' := [(8, .int _), (7, .int _), (6, .int _), (5, .int _), (4, .ref _), (3, .ref _), (2, .ref _), (0, .ref _), (1, .ref _)]) hx hb dX9_takeTurn_134 hl (by decide) rfl (fun ls hl => ?_)
      refine lv_goto (tgt := 153) hx hb dX9_takeTurn_136 (by decide) ?_
      refine lv_iload hx hb dX9_takeTurn_153 (lv_at hl 0 rfl) ?_
      refine lv_iconst (v := 4) hx hb dX9_takeTurn_155 (by decide) ?_
      refine lv_icmp_ne (tgt := 169) hx hb dX9_takeTurn_156 (by decide) (fun c156 => ?_) (fun c156 => ?_)
      · refine lv_aload_n hx hb dX9_takeTurn_169 rfl (lv_at hl 7 rfl) ?_
        refine lv_aload_n hx hb dX9_takeTurn_170 rfl (lv_at hl 8 rfl) ?_
        refine lv_aload hx hb dX9_takeTurn_171 (lv_at hl 4 rfl) ?_
        refine lv_iload hx hb dX9_takeTurn_173 (lv_at hl 0 rfl) ?_
        refine lv_iload hx hb dX9_takeTurn_175 (lv_at hl 2 rfl) ?_
        refine cl_callV (ci := 14) F hB (k_settle l D cy hst hs hB.2 hI8 hj hi hk hT hQ8 _ _ hfl76 _) (cwV 4 F.1.2.2.2.2 (vgV (vm_9 _ (List.mem_of_getElem? (i := 34) rfl)) (vm_9 _ (List.mem_of_getElem? (i := 35) rfl)) (vm_9 _ (List.mem_of_getElem? (i := 36) rfl)) (vm_4 _ (List.mem_of_getElem? (i := 20) rfl)) (vm_9 _ (List.mem_of_getElem? (i := 22) rfl))) rfl rfl rfl ⟨rfl, by decide, by decide, by decide +kernel⟩ ⟨Nat.le_of_ble_eq_true rfl, Nat.le_of_ble_eq_true rfl⟩) rfl rfl (by decide) rfl hl.1 rfl (Nat.le_of_ble_eq_true rfl) dX9_takeTurn_177 ⟨Nat.le_of_ble_eq_true rfl, Nat.le_of_ble_eq_true rfl⟩ hB.2.2.1.1 (fun H locs v σ177 hB hP => ?_)
        obtain ⟨rfl, hI7⟩ := hP
        exact cl_vret F hB hrt dX9_takeTurn_180 (⟨rfl, hI7⟩)
      · refine lv_aload_n hx hb dX9_takeTurn_159 rfl (lv_at hl 7 rfl) ?_
        refine lv_aload_n hx hb dX9_takeTurn_160 rfl (lv_at hl 6 rfl) ?_
        refine lv_bipush (v := 115) hx hb dX9_takeTurn_161 (by decide) ?_
        refine cl_callV (ci := 14) F hB (k_dis l D cy hst hs hB.2 hI8 hi (TQ_st hI8.2.1 hB.2.2 hj hi hQ8) 115 (show sgF 1 115 from ⟨by decide, by decide⟩) (by decide) (by decide) _) (cwV 2 F.1.2.2.2.2 (vgV (vm_6 _ (List.mem_of_getElem? (i := 38) rfl)) (vm_6 _ (List.mem_of_getElem? (i := 39) rfl)) (vm_7 _ (List.mem_of_getElem? (i := 0) rfl)) (vm_4 _ (List.mem_of_getElem? (i := 20) rfl)) (vm_6 _ (List.mem_of_getElem? (i := 17) rfl))) rfl rfl rfl ⟨rfl, by decide, by decide, by decide +kernel⟩ ⟨Nat.le_of_ble_eq_true rfl, Nat.le_of_ble_eq_true rfl⟩) rfl rfl (by decide) rfl hl.1 rfl (Nat.le_of_ble_eq_true rfl) dX9_takeTurn_163 ⟨Nat.le_of_ble_eq_true rfl, Nat.le_of_ble_eq_true rfl⟩ hB.2.2.1.1 (fun H locs v σ163 hB hP => ?_)
        obtain ⟨rfl, hI7⟩ := hP
        refine lv_goto (tgt := 180) hx hb dX9_takeTurn_166 (by decide) ?_
        exact cl_vret F hB hrt dX9_takeTurn_180 (⟨rfl, hI7⟩)
  · refine lv_aload_n hx hb dX9_takeTurn_98 rfl (lv_at hl 6 rfl) ?_
    refine lv_aload_n hx hb dX9_takeTurn_99 rfl (lv_at hl 4 rfl) ?_
    refine lv_aload hx hb dX9_takeTurn_100 (lv_at hl 3 rfl) ?_
    refine lv_iload hx hb dX9_takeTurn_102 (lv_at hl 0 rfl) ?_
    refine lv_iload hx hb dX9_takeTurn_104 (lv_at hl 1 rfl) ?_
    refine cl_callV (ci := 14) F hB (k_pSnd l D cy hst hs hB.2 hI9 hj hi hk hT hQ9 _ _ (fun z => by have q := hT9.2.1 z; have q2 := hy84 z; omega) hz84 hB9 _) (cwV 4 F.1.2.2.2.2 (vgV (vm_9 _ (List.mem_of_getElem? (i := 25) rfl)) (vm_9 _ (List.mem_of_getElem? (i := 26) rfl)) (vm_9 _ (List.mem_of_getElem? (i := 27) rfl)) (vm_4 _ (List.mem_of_getElem? (i := 20) rfl)) (vm_9 _ (List.mem_of_getElem? (i := 13) rfl))) rfl rfl rfl ⟨rfl, by decide, by decide, by decide +kernel⟩ ⟨Nat.le_of_ble_eq_true rfl, Nat.le_of_ble_eq_true rfl⟩) rfl rfl (by decide) rfl hl.1 rfl (Nat.le_of_ble_eq_true rfl) dX9_takeTurn_106 ⟨Nat.le_of_ble_eq_true rfl, Nat.le_of_ble_eq_true rfl⟩ hB.2.2.1.1 (fun H locs v σ106 hB hP => ?_)
    obtain ⟨⟨x106, rfl⟩, hI8, hQ8⟩ := hP
    refine lv_istore (lv' := [(8, .int _), (7, .int _), (6, .int _), (5, .int _), (4, .ref _), (3, .ref _), (2, .ref _), (0, .ref _), (1, .ref _)]) hx hb dX9_takeTurn_109 hl (by decide) rfl (fun ls hl => ?_)
    refine lv_goto (tgt := 153) hx hb dX9_takeTurn_111 (by decide) ?_
    refine lv_iload hx hb dX9_takeTurn_153 (lv_at hl 0 rfl) ?_
    refine lv_iconst (v := 4) hx hb dX9_takeTurn_155 (by decide) ?_
    refine lv_icmp_ne (tgt := 169) hx hb dX9_takeTurn_156 (by decide) (fun c156 => ?_) (fun c156 => ?_)
    · refine lv_aload_n hx hb dX9_takeTurn_169 rfl (lv_at hl 7 rfl) ?_
      refine lv_aload_n hx hb dX9_takeTurn_170 rfl (lv_at hl 8 rfl) ?_
      refine lv_aload hx hb dX9_takeTurn_171 (lv_at hl 4 rfl) ?_
      refine lv_iload hx hb dX9_takeTurn_173 (lv_at hl 0 rfl) ?_
      refine lv_iload hx hb dX9_takeTurn_175 (lv_at hl 2 rfl) ?_
      refine cl_callV (ci := 14) F hB (k_settle l D cy hst hs hB.2 hI8 hj hi hk hT hQ8 _ _ hfl76 _) (cwV 4 F.1.2.2.2.2 (vgV (vm_9 _ (List.mem_of_getElem? (i := 34) rfl)) (vm_9 _ (List.mem_of_getElem? (i := 35) rfl)) (vm_9 _ (List.mem_of_getElem? (i := 36) rfl)) (vm_4 _ (List.mem_of_getElem? (i := 20) rfl)) (vm_9 _ (List.mem_of_getElem? (i := 22) rfl))) rfl rfl rfl ⟨rfl, by decide, by decide, by decide +kernel⟩ ⟨Nat.le_of_ble_eq_true rfl, Nat.le_of_ble_eq_true rfl⟩) rfl rfl (by decide) rfl hl.1 rfl (Nat.le_of_ble_eq_true rfl) dX9_takeTurn_177 ⟨Nat.le_of_ble_eq_true rfl, Nat.le_of_ble_eq_true rfl⟩ hB.2.2.1.1 (fun H locs v σ177 hB hP => ?_)
      obtain ⟨rfl, hI7⟩ := hP
      exact cl_vret F hB hrt dX9_takeTurn_180 (⟨rfl, hI7⟩)
    · refine lv_aload_n hx hb dX9_takeTurn_159 rfl (lv_at hl 7 rfl) ?_
      refine lv_aload_n hx hb dX9_takeTurn_160 rfl (lv_at hl 6 rfl) ?_
      refine lv_bipush (v := 115) hx hb dX9_takeTurn_161 (by decide) ?_
      refine cl_callV (ci := 14) F hB (k_dis l D cy hst hs hB.2 hI8 hi (TQ_st hI8.2.1 hB.2.2 hj hi hQ8) 115 (show sgF 1 115 from ⟨by decide, by decide⟩) (by decide) (by decide) _) (cwV 2 F.1.2.2.2.2 (vgV (vm_6 _ (List.mem_of_getElem? (i := 38) rfl)) (vm_6 _ (List.mem_of_getElem? (i := 39) rfl)) (vm_7 _ (List.mem_of_getElem? (i := 0) rfl)) (vm_4 _ (List.mem_of_getElem? (i := 20) rfl)) (vm_6 _ (List.mem_of_getElem? (i := 17) rfl))) rfl rfl rfl ⟨rfl, by decide, by decide, by decide +kernel⟩ ⟨Nat.le_of_ble_eq_true rfl, Nat.le_of_ble_eq_true rfl⟩) rfl rfl (by decide) rfl hl.1 rfl (Nat.le_of_ble_eq_true rfl) dX9_takeTurn_163 ⟨Nat.le_of_ble_eq_true rfl, Nat.le_of_ble_eq_true rfl⟩ hB.2.2.1.1 (fun H locs v σ163 hB hP => ?_)
      obtain ⟨rfl, hI7⟩ := hP
      refine lv_goto (tgt := 180) hx hb dX9_takeTurn_166 (by decide) ?_
      exact cl_vret F hB hrt dX9_takeTurn_180 (⟨rfl, hI7⟩)

theorem dX9_drawnBy_0 : decode cX9_drawnBy 0 = .ok (.aload_n 0, 1) := by decide +kernel
theorem dX9_drawnBy_1 : decode cX9_drawnBy 1 = .ok (.getfield 70, 3) := by decide +kernel
theorem dX9_drawnBy_4 : decode cX9_drawnBy 4 = .ok (.ifCond .eq 7, 3) := by decide +kernel
theorem dX9_drawnBy_7 : decode cX9_drawnBy 7 = .ok (.iconst 0, 1) := by decide +kernel
theorem dX9_drawnBy_8 : decode cX9_drawnBy 8 = .ok (.goto 7, 3) := by decide +kernel
theorem dX9_drawnBy_11 : decode cX9_drawnBy 11 = .ok (.aload_n 0, 1) := by decide +kernel
theorem dX9_drawnBy_12 : decode cX9_drawnBy 12 = .ok (.getfield 115, 3) := by decide +kernel
theorem dX9_drawnBy_15 : decode cX9_drawnBy 15 = .ok (.ireturn, 1) := by decide +kernel
set_option maxRecDepth 100000 in
set_option maxHeartbeats 4000000 in
theorem k_drawn (l : Launch) (D : va_G) (cy : Nat → ClassId) {ad τ : List Nat} {Y : CY} {σ : SG} (hV : VL cy ad τ Y σ) {i : Nat} (hi : i < 16) (sz : Nat) : clM l D cy ad τ Y σ sz yX9_drawnBy (Cond.code yX9_drawnBy cX9_drawnBy 1 (some .int) :: vWall) 0 0 [.ref (yd Y i)] (fun v s2 => (∃ b : Int32, v = some (.int b)) ∧ σ = s2) := by
  refine cl_ofW (cc := cX9_drawnBy) (maxL := 1) (ret := (some .int)) hV (by decide) rfl (Nat.le_of_ble_eq_true rfl) (lv := [(0, .ref (yd Y i))]) rfl (fun p e s m below meth c ls H hrt hnm F hB hl => ?_) sz
  have hx := F.1.1
  have hb := F.1.2.1
  have hown := F.1.2.2.2.1
  refine lv_aload_n hx hb dX9_drawnBy_0 rfl (lv_at hl 0 rfl) ?_
  refine gf_X9_70 F hB dX9_drawnBy_1 (hB.2.2.2.2.1 _ hi).1 ?_
  refine lv_if_eq (tgt := 11) hx hb dX9_drawnBy_4 (by decide) (fun c4 => ?_) (fun c4 => ?_)
  · refine lv_aload_n hx hb dX9_drawnBy_11 rfl (lv_at hl 0 rfl) ?_
    refine gf_X9_115 F hB dX9_drawnBy_12 (hB.2.2.2.2.1 _ hi).1 ?_
    exact cl_iret F hB hrt dX9_drawnBy_15 (⟨⟨_, rfl⟩, rfl⟩)
  · refine lv_iconst (v := 0) hx hb dX9_drawnBy_7 (by decide) ?_
    refine lv_goto (tgt := 15) hx hb dX9_drawnBy_8 (by decide) ?_
    exact cl_iret F hB hrt dX9_drawnBy_15 (⟨⟨_, rfl⟩, rfl⟩)

theorem dX9_shutGreedyDevices_0 : decode cX9_shutGreedyDevices 0 = .ok (.iconst 1, 1) := by decide +kernel
theorem dX9_shutGreedyDevices_1 : decode cX9_shutGreedyDevices 1 = .ok (.istore_n 1, 1) := by decide +kernel
theorem dX9_shutGreedyDevices_2 : decode cX9_shutGreedyDevices 2 = .ok (.iload_n 1, 1) := by decide +kernel
theorem dX9_shutGreedyDevices_3 : decode cX9_shutGreedyDevices 3 = .ok (.bipush 16, 2) := by decide +kernel
theorem dX9_shutGreedyDevices_5 : decode cX9_shutGreedyDevices 5 = .ok (.if_icmp .ge 43, 3) := by decide +kernel
theorem dX9_shutGreedyDevices_8 : decode cX9_shutGreedyDevices 8 = .ok (.aload_n 0, 1) := by decide +kernel
theorem dX9_shutGreedyDevices_9 : decode cX9_shutGreedyDevices 9 = .ok (.getfield 11, 3) := by decide +kernel
theorem dX9_shutGreedyDevices_12 : decode cX9_shutGreedyDevices 12 = .ok (.iload_n 1, 1) := by decide +kernel
theorem dX9_shutGreedyDevices_13 : decode cX9_shutGreedyDevices 13 = .ok (.aaload, 1) := by decide +kernel
theorem dX9_shutGreedyDevices_14 : decode cX9_shutGreedyDevices 14 = .ok (.astore_n 2, 1) := by decide +kernel
theorem dX9_shutGreedyDevices_15 : decode cX9_shutGreedyDevices 15 = .ok (.aload_n 2, 1) := by decide +kernel
theorem dX9_shutGreedyDevices_16 : decode cX9_shutGreedyDevices 16 = .ok (.getfield 74, 3) := by decide +kernel
theorem dX9_shutGreedyDevices_19 : decode cX9_shutGreedyDevices 19 = .ok (.bipush 99, 2) := by decide +kernel
theorem dX9_shutGreedyDevices_21 : decode cX9_shutGreedyDevices 21 = .ok (.if_icmp .ne 21, 3) := by decide +kernel
theorem dX9_shutGreedyDevices_24 : decode cX9_shutGreedyDevices 24 = .ok (.aload_n 2, 1) := by decide +kernel
theorem dX9_shutGreedyDevices_25 : decode cX9_shutGreedyDevices 25 = .ok (.invokestatic 238, 3) := by decide +kernel
theorem dX9_shutGreedyDevices_28 : decode cX9_shutGreedyDevices 28 = .ok (.aload_n 2, 1) := by decide +kernel
theorem dX9_shutGreedyDevices_29 : decode cX9_shutGreedyDevices 29 = .ok (.invokestatic 218, 3) := by decide +kernel
theorem dX9_shutGreedyDevices_32 : decode cX9_shutGreedyDevices 32 = .ok (.if_icmp .le 10, 3) := by decide +kernel
theorem dX9_shutGreedyDevices_35 : decode cX9_shutGreedyDevices 35 = .ok (.aload_n 0, 1) := by decide +kernel
theorem dX9_shutGreedyDevices_36 : decode cX9_shutGreedyDevices 36 = .ok (.aload_n 2, 1) := by decide +kernel
theorem dX9_shutGreedyDevices_37 : decode cX9_shutGreedyDevices 37 = .ok (.bipush 115, 2) := by decide +kernel
theorem dX9_shutGreedyDevices_39 : decode cX9_shutGreedyDevices 39 = .ok (.invokevirtual 211, 3) := by decide +kernel
theorem dX9_shutGreedyDevices_42 : decode cX9_shutGreedyDevices 42 = .ok (.iinc 1 1, 3) := by decide +kernel
theorem dX9_shutGreedyDevices_45 : decode cX9_shutGreedyDevices 45 = .ok (.goto (-43), 3) := by decide +kernel
theorem dX9_shutGreedyDevices_48 : decode cX9_shutGreedyDevices 48 = .ok (.return_, 1) := by decide +kernel
set_option maxRecDepth 100000 in
set_option maxHeartbeats 4000000 in
theorem k_shut (l : Launch) (D : va_G) (cy : Nat → ClassId) {ad τ : List Nat} {Y : CY} {σ : SG} (hst : l.stackTraces = false) (hs : vi_s1 vSG τ) (hV : VL cy ad τ Y σ) {B : Int} (hI : SI Y σ B) (sz : Nat) : clM l D cy ad τ Y σ sz yX9_shutGreedyDevices (Cond.code yX9_shutGreedyDevices cX9_shutGreedyDevices 3 none :: vWall) 5 123 [.ref (yX Y)] (fun v s2 => v = none ∧ SI Y s2 B) := by
  refine cl_ofW (cc := cX9_shutGreedyDevices) (maxL := 3) (ret := none) hV (by decide) rfl (Nat.le_of_ble_eq_true rfl) (lv := [(0, .ref (yX Y))]) rfl (fun p e s m below meth c ls H hrt hnm F hB hl => ?_) sz
  have hx := F.1.1
  have hb := F.1.2.1
  have hown := F.1.2.2.2.1
  generalize hlo : ([] : List Loc) = locs at hB ⊢
  clear hlo
  obtain ⟨LX, LD, Ld, LE, Le, LP9, Lp, Lt, LU, LA, Lz⟩ := hV.2
  have e0 : (0 : Int32).toInt = 0 := rfl
  have e1 : (1 : Int32).toInt = 1 := rfl
  have e16 : (16 : Int32).toInt = 16 := rfl
  have e12 : (12 : Int32).toInt = 12 := rfl
  have e4 : (4 : Int32).toInt = 4 := rfl
  have e8 : (8 : Int32).toInt = 8 := rfl
  refine lv_iconst (v := 1) hx hb dX9_shutGreedyDevices_0 (by decide) ?_
  refine lv_istore_n (lv' := [(1, .int _), (0, .ref _)]) hx hb dX9_shutGreedyDevices_1 rfl hl (by decide) rfl (fun ls hl => ?_)
  have key2 : ∃ (i1 : Int32) (σ3 : SG), clB D cy ad τ Y s σ3 H locs ∧ lv_has ls 3 [(1, .int i1), (0, .ref (yX Y))] ∧ (1 ≤ i1.toInt ∧ i1.toInt ≤ 16) ∧ SI Y σ3 B := ⟨_, _, hB, (lv_sub hl [0, 1] rfl), ⟨by decide, by decide⟩, hI⟩
  clear hB hl
  obtain ⟨i1, σ3, hB, hl, hi1, hI3⟩ := key2
  obtain ⟨d2, hd2⟩ : ∃ d : Nat, d = 20 - i1.toInt.toNat := ⟨_, rfl⟩
  induction d2 using Nat.strongRecOn generalizing H locs ls i1 σ3
  rename_i d2 ih2
  have hV3 := hB.2
  obtain ⟨LX3, LD3, Ld3, LE3, Le3, LP93, Lp3, Lt3, LU3, LA3, Lz3⟩ := hV3.2
  refine lv_iload_n hx hb dX9_shutGreedyDevices_2 rfl (lv_at hl 0 rfl) ?_
  refine lv_bipush (v := 16) hx hb dX9_shutGreedyDevices_3 (by decide) ?_
  refine lv_icmp_ge (tgt := 48) hx hb dX9_shutGreedyDevices_5 (by decide) (fun c5 => ?_) (fun c5 => ?_)
  · exact cl_vret F hB hrt dX9_shutGreedyDevices_48 (⟨rfl, hI3⟩)
  · refine lv_aload_n hx hb dX9_shutGreedyDevices_8 rfl (lv_at hl 1 rfl) ?_
    have hn := i_nle c5
    have hj3 : i1.toInt.toNat < 16 := by omega
    refine gr_X9_11 F hB dX9_shutGreedyDevices_9 LX3.1 LX3.2.1 ?_
    refine lv_iload_n hx hb dX9_shutGreedyDevices_12 rfl (lv_at hl 0 rfl) ?_
    refine sg_aald 4 hx hb F.2.1 hB.1 rfl rfl dX9_shutGreedyDevices_13 LD3.1 (by omega) (by rw [LD3.2.1]; omega) (by rw [LD3.2.1]; decide) ?_
    rw [show sgR _ _ _ = some _ from LD3.2.2 _ hj3]
    refine lv_astore_n (lv' := [(2, .ref _), (1, .int _), (0, .ref _)]) hx hb dX9_shutGreedyDevices_14 rfl hl (by decide) rfl (fun ls hl => ?_)
    refine lv_aload_n hx hb dX9_shutGreedyDevices_15 rfl (lv_at hl 0 rfl) ?_
    refine gf_X9_74 F hB dX9_shutGreedyDevices_16 (Ld3 _ hj3).1 ?_
    refine lv_bipush (v := 99) hx hb dX9_shutGreedyDevices_19 (by decide) ?_
    refine lv_icmp_ne (tgt := 42) hx hb dX9_shutGreedyDevices_21 (by decide) (fun c21 => ?_) (fun c21 => ?_)
    · refine lv_iinc (lv' := [(1, .int _), (2, .ref _), (0, .ref _)]) hx hb dX9_shutGreedyDevices_42 hl (k := 1) rfl rfl (by decide) rfl (fun ls hl => ?_)
      refine lv_goto (tgt := 2) hx hb dX9_shutGreedyDevices_45 (by decide) ?_
      have q9 := cl_add1 (x := i1) (by omega) (by omega)
      first | exact ih2 _ (by subst hd2; rw [q9]; omega) _ _ _ _ _ hB (lv_sub hl [0, 2] rfl) ⟨by rw [q9]; omega, by rw [q9]; omega⟩ hI39 rfl | exact ih2 _ (by subst hd2; rw [q9]; omega) _ _ _ _ _ hB (lv_sub hl [0, 2] rfl) ⟨by rw [q9]; omega, by rw [q9]; omega⟩ hI3 rfl | fail "no road"
    · refine lv_aload_n hx hb dX9_shutGreedyDevices_24 rfl (lv_at hl 0 rfl) ?_
      refine cl_callS F hB (k_drawn l D cy hB.2 hj3 _) (cwS 1 F.1.2.2.2.2 (vgS (vm_7 _ (List.mem_of_getElem? (i := 14) rfl)) (vm_7 _ (List.mem_of_getElem? (i := 15) rfl)) (vm_4 _ (List.mem_of_getElem? (i := 20) rfl)) (vm_7 _ (List.mem_of_getElem? (i := 12) rfl))) rfl rfl rfl ⟨rfl, by decide, by decide, by decide +kernel⟩ ⟨Nat.le_of_ble_eq_true rfl, Nat.le_of_ble_eq_true rfl⟩) rfl hl.1 rfl (Nat.le_of_ble_eq_true rfl) dX9_shutGreedyDevices_25 ⟨Nat.le_of_ble_eq_true rfl, Nat.le_of_ble_eq_true rfl⟩ (fun H locs v σ25 hB hP => ?_)
      obtain ⟨⟨b25, rfl⟩, rfl⟩ := hP
      refine lv_aload_n hx hb dX9_shutGreedyDevices_28 rfl (lv_at hl 0 rfl) ?_
      refine cl_callS F hB (k_pp l D cy hB.2 hj3 _) (cwS 1 F.1.2.2.2.2 (vgS (vm_7 _ (List.mem_of_getElem? (i := 4) rfl)) (vm_7 _ (List.mem_of_getElem? (i := 5) rfl)) (vm_4 _ (List.mem_of_getElem? (i := 20) rfl)) (vm_6 _ (List.mem_of_getElem? (i := 23) rfl))) rfl rfl rfl ⟨rfl, by decide, by decide, by decide +kernel⟩ ⟨Nat.le_of_ble_eq_true rfl, Nat.le_of_ble_eq_true rfl⟩) rfl hl.1 rfl (Nat.le_of_ble_eq_true rfl) dX9_shutGreedyDevices_29 ⟨Nat.le_of_ble_eq_true rfl, Nat.le_of_ble_eq_true rfl⟩ (fun H locs v σ29 hB hP => ?_)
      obtain ⟨⟨b29, rfl⟩, rfl⟩ := hP
      refine lv_icmp_le (tgt := 42) hx hb dX9_shutGreedyDevices_32 (by decide) (fun c32 => ?_) (fun c32 => ?_)
      · refine lv_iinc (lv' := [(1, .int _), (2, .ref _), (0, .ref _)]) hx hb dX9_shutGreedyDevices_42 hl (k := 1) rfl rfl (by decide) rfl (fun ls hl => ?_)
        refine lv_goto (tgt := 2) hx hb dX9_shutGreedyDevices_45 (by decide) ?_
        have q9 := cl_add1 (x := i1) (by omega) (by omega)
        first | exact ih2 _ (by subst hd2; rw [q9]; omega) _ _ _ _ _ hB (lv_sub hl [0, 2] rfl) ⟨by rw [q9]; omega, by rw [q9]; omega⟩ hI39 rfl | exact ih2 _ (by subst hd2; rw [q9]; omega) _ _ _ _ _ hB (lv_sub hl [0, 2] rfl) ⟨by rw [q9]; omega, by rw [q9]; omega⟩ hI3 rfl | fail "no road"
      · refine lv_aload_n hx hb dX9_shutGreedyDevices_35 rfl (lv_at hl 2 rfl) ?_
        refine lv_aload_n hx hb dX9_shutGreedyDevices_36 rfl (lv_at hl 0 rfl) ?_
        refine lv_bipush (v := 115) hx hb dX9_shutGreedyDevices_37 (by decide) ?_
        refine cl_callV (ci := 14) F hB (k_dis l D cy hst hs hB.2 hI3 hj3 (by rw [c21]; decide) 115 (show sgF 1 115 from ⟨by decide, by decide⟩) (by decide) (by decide) _) (cwV 2 F.1.2.2.2.2 (vgV (vm_6 _ (List.mem_of_getElem? (i := 38) rfl)) (vm_6 _ (List.mem_of_getElem? (i := 39) rfl)) (vm_7 _ (List.mem_of_getElem? (i := 0) rfl)) (vm_4 _ (List.mem_of_getElem? (i := 20) rfl)) (vm_6 _ (List.mem_of_getElem? (i := 17) rfl))) rfl rfl rfl ⟨rfl, by decide, by decide, by decide +kernel⟩ ⟨Nat.le_of_ble_eq_true rfl, Nat.le_of_ble_eq_true rfl⟩) rfl rfl (by decide) rfl hl.1 rfl (Nat.le_of_ble_eq_true rfl) dX9_shutGreedyDevices_39 ⟨Nat.le_of_ble_eq_true rfl, Nat.le_of_ble_eq_true rfl⟩ LX3.1 (fun H locs v σ39 hB hP => ?_)
        obtain ⟨rfl, hI39⟩ := hP
        refine lv_iinc (lv' := [(1, .int _), (2, .ref _), (0, .ref _)]) hx hb dX9_shutGreedyDevices_42 hl (k := 1) rfl rfl (by decide) rfl (fun ls hl => ?_)
        refine lv_goto (tgt := 2) hx hb dX9_shutGreedyDevices_45 (by decide) ?_
        have q9 := cl_add1 (x := i1) (by omega) (by omega)
        first | exact ih2 _ (by subst hd2; rw [q9]; omega) _ _ _ _ _ hB (lv_sub hl [0, 2] rfl) ⟨by rw [q9]; omega, by rw [q9]; omega⟩ hI39 rfl | exact ih2 _ (by subst hd2; rw [q9]; omega) _ _ _ _ _ hB (lv_sub hl [0, 2] rfl) ⟨by rw [q9]; omega, by rw [q9]; omega⟩ hI3 rfl | fail "no road"

theorem dX9_frame_0 : decode cX9_frame 0 = .ok (.aload_n 0, 1) := by decide +kernel
theorem dX9_frame_1 : decode cX9_frame 1 = .ok (.getfield 59, 3) := by decide +kernel
theorem dX9_frame_4 : decode cX9_frame 4 = .ok (.getfield 418, 3) := by decide +kernel
theorem dX9_frame_7 : decode cX9_frame 7 = .ok (.istore_n 1, 1) := by decide +kernel
theorem dX9_frame_8 : decode cX9_frame 8 = .ok (.aload_n 0, 1) := by decide +kernel
theorem dX9_frame_9 : decode cX9_frame 9 = .ok (.dup, 1) := by decide +kernel
theorem dX9_frame_10 : decode cX9_frame 10 = .ok (.getfield 252, 3) := by decide +kernel
theorem dX9_frame_13 : decode cX9_frame 13 = .ok (.iconst 1, 1) := by decide +kernel
theorem dX9_frame_14 : decode cX9_frame 14 = .ok (.iadd, 1) := by decide +kernel
theorem dX9_frame_15 : decode cX9_frame 15 = .ok (.putfield 252, 3) := by decide +kernel
theorem dX9_frame_18 : decode cX9_frame 18 = .ok (.aload_n 0, 1) := by decide +kernel
theorem dX9_frame_19 : decode cX9_frame 19 = .ok (.getfield 45, 3) := by decide +kernel
theorem dX9_frame_22 : decode cX9_frame 22 = .ok (.invokevirtual 421, 3) := by decide +kernel
theorem dX9_frame_25 : decode cX9_frame 25 = .ok (.aload_n 0, 1) := by decide +kernel
theorem dX9_frame_26 : decode cX9_frame 26 = .ok (.invokevirtual 424, 3) := by decide +kernel
theorem dX9_frame_29 : decode cX9_frame 29 = .ok (.iconst 0, 1) := by decide +kernel
theorem dX9_frame_30 : decode cX9_frame 30 = .ok (.istore_n 2, 1) := by decide +kernel
theorem dX9_frame_31 : decode cX9_frame 31 = .ok (.iload_n 2, 1) := by decide +kernel
theorem dX9_frame_32 : decode cX9_frame 32 = .ok (.bipush 12, 2) := by decide +kernel
theorem dX9_frame_34 : decode cX9_frame 34 = .ok (.if_icmp .ge 45, 3) := by decide +kernel
theorem dX9_frame_37 : decode cX9_frame 37 = .ok (.aload_n 0, 1) := by decide +kernel
theorem dX9_frame_38 : decode cX9_frame 38 = .ok (.getfield 24, 3) := by decide +kernel
theorem dX9_frame_41 : decode cX9_frame 41 = .ok (.iload_n 2, 1) := by decide +kernel
theorem dX9_frame_42 : decode cX9_frame 42 = .ok (.aaload, 1) := by decide +kernel
theorem dX9_frame_43 : decode cX9_frame 43 = .ok (.astore_n 3, 1) := by decide +kernel
theorem dX9_frame_44 : decode cX9_frame 44 = .ok (.aload_n 3, 1) := by decide +kernel
theorem dX9_frame_45 : decode cX9_frame 45 = .ok (.iconst 0, 1) := by decide +kernel
theorem dX9_frame_46 : decode cX9_frame 46 = .ok (.putfield 427, 3) := by decide +kernel
theorem dX9_frame_49 : decode cX9_frame 49 = .ok (.aload_n 3, 1) := by decide +kernel
theorem dX9_frame_50 : decode cX9_frame 50 = .ok (.aload_n 0, 1) := by decide +kernel
theorem dX9_frame_51 : decode cX9_frame 51 = .ok (.getfield 252, 3) := by decide +kernel
theorem dX9_frame_54 : decode cX9_frame 54 = .ok (.invokevirtual 430, 3) := by decide +kernel
theorem dX9_frame_57 : decode cX9_frame 57 = .ok (.ifCond .eq 16, 3) := by decide +kernel
theorem dX9_frame_60 : decode cX9_frame 60 = .ok (.aload_n 0, 1) := by decide +kernel
theorem dX9_frame_61 : decode cX9_frame 61 = .ok (.aload_n 3, 1) := by decide +kernel
theorem dX9_frame_62 : decode cX9_frame 62 = .ok (.invokevirtual 433, 3) := by decide +kernel
theorem dX9_frame_65 : decode cX9_frame 65 = .ok (.ifCond .eq 8, 3) := by decide +kernel
theorem dX9_frame_68 : decode cX9_frame 68 = .ok (.aload_n 0, 1) := by decide +kernel
theorem dX9_frame_69 : decode cX9_frame 69 = .ok (.aload_n 3, 1) := by decide +kernel
theorem dX9_frame_70 : decode cX9_frame 70 = .ok (.invokevirtual 437, 3) := by decide +kernel
theorem dX9_frame_73 : decode cX9_frame 73 = .ok (.iinc 2 1, 3) := by decide +kernel
theorem dX9_frame_76 : decode cX9_frame 76 = .ok (.goto (-45), 3) := by decide +kernel
theorem dX9_frame_79 : decode cX9_frame 79 = .ok (.aload_n 0, 1) := by decide +kernel
theorem dX9_frame_80 : decode cX9_frame 80 = .ok (.invokevirtual 441, 3) := by decide +kernel
theorem dX9_frame_83 : decode cX9_frame 83 = .ok (.astore_n 2, 1) := by decide +kernel
theorem dX9_frame_84 : decode cX9_frame 84 = .ok (.iconst 0, 1) := by decide +kernel
theorem dX9_frame_85 : decode cX9_frame 85 = .ok (.istore_n 3, 1) := by decide +kernel
theorem dX9_frame_86 : decode cX9_frame 86 = .ok (.iload_n 3, 1) := by decide +kernel
theorem dX9_frame_87 : decode cX9_frame 87 = .ok (.sipush 1000, 3) := by decide +kernel
theorem dX9_frame_90 : decode cX9_frame 90 = .ok (.if_icmp .ge 31, 3) := by decide +kernel
theorem dX9_frame_93 : decode cX9_frame 93 = .ok (.aload_n 2, 1) := by decide +kernel
theorem dX9_frame_94 : decode cX9_frame 94 = .ok (.ifnull 27, 3) := by decide +kernel
theorem dX9_frame_97 : decode cX9_frame 97 = .ok (.aload_n 0, 1) := by decide +kernel
theorem dX9_frame_98 : decode cX9_frame 98 = .ok (.aload_n 2, 1) := by decide +kernel
theorem dX9_frame_99 : decode cX9_frame 99 = .ok (.getfield 333, 3) := by decide +kernel
theorem dX9_frame_102 : decode cX9_frame 102 = .ok (.putfield 28, 3) := by decide +kernel
theorem dX9_frame_105 : decode cX9_frame 105 = .ok (.aload_n 0, 1) := by decide +kernel
theorem dX9_frame_106 : decode cX9_frame 106 = .ok (.aload_n 2, 1) := by decide +kernel
theorem dX9_frame_107 : decode cX9_frame 107 = .ok (.invokevirtual 437, 3) := by decide +kernel
theorem dX9_frame_110 : decode cX9_frame 110 = .ok (.aload_n 0, 1) := by decide +kernel
theorem dX9_frame_111 : decode cX9_frame 111 = .ok (.invokevirtual 441, 3) := by decide +kernel
theorem dX9_frame_114 : decode cX9_frame 114 = .ok (.astore_n 2, 1) := by decide +kernel
theorem dX9_frame_115 : decode cX9_frame 115 = .ok (.iinc 3 1, 3) := by decide +kernel
theorem dX9_frame_118 : decode cX9_frame 118 = .ok (.goto (-32), 3) := by decide +kernel
theorem dX9_frame_121 : decode cX9_frame 121 = .ok (.aload_n 0, 1) := by decide +kernel
theorem dX9_frame_122 : decode cX9_frame 122 = .ok (.getfield 59, 3) := by decide +kernel
theorem dX9_frame_125 : decode cX9_frame 125 = .ok (.getfield 418, 3) := by decide +kernel
theorem dX9_frame_128 : decode cX9_frame 128 = .ok (.iload_n 1, 1) := by decide +kernel
theorem dX9_frame_129 : decode cX9_frame 129 = .ok (.isub, 1) := by decide +kernel
theorem dX9_frame_130 : decode cX9_frame 130 = .ok (.ireturn, 1) := by decide +kernel
set_option maxRecDepth 100000 in
set_option maxHeartbeats 4000000 in
theorem k_frame (l : Launch) (D : va_G) (cy : Nat → ClassId) {ad τ : List Nat} {Y : CY} {σ : SG} (hst : l.stackTraces = false) (hs : vi_s1 vSG τ) (hV : VL cy ad τ Y σ) {B : Int} (hI : SI Y σ B) (hB9 : B ≤ 900000000) (sz : Nat) : clM l D cy ad τ Y σ sz yX9_frame (Cond.code yX9_frame cX9_frame 4 (some .int) :: vWall) 6 151 [.ref (yX Y)] (fun v s2 => (∃ x : Int32, v = some (.int x)) ∧ SI Y s2 (B + 108100)) := by
  refine cl_ofW (cc := cX9_frame) (maxL := 4) (ret := (some .int)) hV (by decide) rfl (Nat.le_of_ble_eq_true rfl) (lv := [(0, .ref (yX Y))]) rfl (fun p e s m below meth c ls H hrt hnm F hB hl => ?_) sz
  have hx := F.1.1
  have hb := F.1.2.1
  have hown := F.1.2.2.2.1
  generalize hlo : ([] : List Loc) = locs at hB ⊢
  clear hlo
  obtain ⟨LX, LD, Ld, LE, Le, LP9, Lp, Lt, LU, LA, Lz⟩ := hV.2
  have e0 : (0 : Int32).toInt = 0 := rfl
  have e1 : (1 : Int32).toInt = 1 := rfl
  have e16 : (16 : Int32).toInt = 16 := rfl
  have e12 : (12 : Int32).toInt = 12 := rfl
  have e4 : (4 : Int32).toInt = 4 := rfl
  have e8 : (8 : Int32).toInt = 8 := rfl
  have hV9 := hV
  have hI9 := hI
  refine lv_aload_n hx hb dX9_frame_0 rfl (lv_at hl 0 rfl) ?_
  obtain ⟨sn, hsn, tsn⟩ := sn_of hB.2
  refine gr_X9_59 F hB dX9_frame_1 hB.2.2.1.1 hsn ?_
  refine gf_X9_418 F hB dX9_frame_4 tsn ?_
  generalize sgI σ sn 0 = tk0
  refine lv_istore_n (lv' := [(1, .int _), (0, .ref _)]) hx hb dX9_frame_7 rfl hl (by decide) rfl (fun ls hl => ?_)
  refine lv_aload_n hx hb dX9_frame_8 rfl (lv_at hl 1 rfl) ?_
  refine lv_dup hx hb dX9_frame_9 rfl ?_
  refine gf_X9_252 F hB dX9_frame_10 hB.2.2.1.1 ?_
  refine lv_iconst (v := 1) hx hb dX9_frame_13 (by decide) ?_
  refine lv_iadd hx hb dX9_frame_14 ?_
  refine pf_X9_252 F hB dX9_frame_15 hB.2.2.1.1 (fun H locs hBn => ?_)
  clear hB; have hB := hBn; clear hBn
  have hI9 := si_of hB.2 (SI_fr hV9 hI9 (by omega))
  have hV9 := hB.2
  refine lv_aload_n hx hb dX9_frame_18 rfl (lv_at hl 1 rfl) ?_
  refine gr_X9_45 F hB dX9_frame_19 hB.2.2.1.1 hB.2.2.1.2.2.2.1 ?_
  refine cl_vi (n := 0) (NC := 0) (av := [.ref (yu Y)]) hB (vi_crVN F.1 (m_Units_beginFrame_0 l D cy hst) ⟨va_cnB 0 F.1.2.2.2.2 (vgN (vm_3 _ (List.mem_of_getElem? (i := 0) rfl))) rfl rfl rfl (F.2.2.1.1 _ nf_126) (F.1.2.2.2.2 _ (List.mem_cons_of_mem _ (vm_3 _ (List.mem_of_getElem? (i := 15) rfl)))) ⟨by decide, by decide, by decide +kernel⟩ ⟨Nat.le_of_ble_eq_true rfl, Nat.le_of_ble_eq_true rfl⟩, F.1.2.2.2.2 _ (List.mem_cons_of_mem _ (vm_10 _ (List.mem_of_getElem? (i := 2) rfl))), F.1.2.2.2.2 _ (List.mem_cons_of_mem _ (vm_10 _ (List.mem_of_getElem? (i := 3) rfl)))⟩ rfl ⟨_, _, _, _, _, _, rfl, rfl, rfl, rfl⟩ F.2.1 F.2.2.1 hs (fun _ _ _ _ => True.intro) (fun q hq => Or.inr hq) ⟨Nat.le_refl _, Nat.le_refl _⟩) hl.1 rfl (by intro j9 a9 x9 g1 g2; exact match j9, g1, g2 with | 0, g1, g2 => by cases g1; cases g2; exact okr (cl_kd (kd := 9) hB.2.1 hB.2.2.2.2.2.2.2.2.2.2.1.1 (by decide) (by decide +kernel)) | n + 1, g1, g2 => by cases g1) (fun f hf => by cases hf) (Nat.le_of_ble_eq_true rfl) (by decide +kernel) (by decide) dX9_frame_22 rfl (fun alt ha22 H locs v σ22 w22 hB hk22 ht22 hs22 hA22 => ?_)
  have hv22 := vi_voids (by decide) ha22 hA22
  subst hv22
  have hI9 := SI_kept hV9 hB.2 hk22 (by decide +kernel) hI9
  have hV9 := hB.2
  refine lv_aload_n hx hb dX9_frame_25 rfl (lv_at hl 1 rfl) ?_
  refine cl_callV (ci := 14) F hB (k_shut l D cy hst hs hB.2 hI9 _) (cwV 0 F.1.2.2.2.2 (vgV (vm_10 _ (List.mem_of_getElem? (i := 4) rfl)) (vm_10 _ (List.mem_of_getElem? (i := 5) rfl)) (vm_10 _ (List.mem_of_getElem? (i := 6) rfl)) (vm_4 _ (List.mem_of_getElem? (i := 20) rfl)) (vm_8 _ (List.mem_of_getElem? (i := 35) rfl))) rfl rfl rfl ⟨rfl, by decide, by decide, by decide +kernel⟩ ⟨Nat.le_of_ble_eq_true rfl, Nat.le_of_ble_eq_true rfl⟩) rfl rfl (by decide) rfl hl.1 rfl (Nat.le_of_ble_eq_true rfl) dX9_frame_26 ⟨Nat.le_of_ble_eq_true rfl, Nat.le_of_ble_eq_true rfl⟩ hB.2.2.1.1 (fun H locs v σ26 hB hP => ?_)
  obtain ⟨rfl, hI26⟩ := hP
  refine lv_iconst (v := 0) hx hb dX9_frame_29 (by decide) ?_
  refine lv_istore_n (lv' := [(2, .int _), (1, .int _), (0, .ref _)]) hx hb dX9_frame_30 rfl hl (by decide) rfl (fun ls hl => ?_)
  have key31 : ∃ (i2 : Int32) (σ3 : SG), clB D cy ad τ Y s σ3 H locs ∧ lv_has ls 4 [(2, .int i2), (1, .int tk0), (0, .ref (yX Y))] ∧ (0 ≤ i2.toInt ∧ i2.toInt ≤ 12) ∧ SI Y σ3 (B + 100000 + 8 * i2.toInt) := ⟨_, _, hB, (lv_sub hl [0, 1, 2] rfl), ⟨by decide, by decide⟩, SI_up hI26 (by rw [e0]; omega)⟩
  clear hB hl
  obtain ⟨i2, σ3, hB, hl, hi2, hI3⟩ := key31
  obtain ⟨d31, hd31⟩ : ∃ d : Nat, d = 20 - i2.toInt.toNat := ⟨_, rfl⟩
  induction d31 using Nat.strongRecOn generalizing H locs ls i2 σ3
  rename_i d31 ih31
  have hV3 := hB.2
  obtain ⟨LX3, LD3, Ld3, LE3, Le3, LP93, Lp3, Lt3, LU3, LA3, Lz3⟩ := hV3.2
  have hV9 := hV3
  have hI9 := hI3
  refine lv_iload_n hx hb dX9_frame_31 rfl (lv_at hl 0 rfl) ?_
  refine lv_bipush (v := 12) hx hb dX9_frame_32 (by decide) ?_
  refine lv_icmp_ge (tgt := 79) hx hb dX9_frame_34 (by decide) (fun c34 => ?_) (fun c34 => ?_)
  · refine lv_aload_n hx hb dX9_frame_79 rfl (lv_at hl 2 rfl) ?_
    refine cl_callV (ci := 14) F hB (k_nbp l D cy hB.2 hI3 _) (cwV 0 F.1.2.2.2.2 (vgV (vm_10 _ (List.mem_of_getElem? (i := 10) rfl)) (vm_10 _ (List.mem_of_getElem? (i := 11) rfl)) (vm_10 _ (List.mem_of_getElem? (i := 12) rfl)) (vm_4 _ (List.mem_of_getElem? (i := 20) rfl)) (vm_10 _ (List.mem_of_getElem? (i := 1) rfl))) rfl rfl rfl ⟨rfl, by decide, by decide, by decide +kernel⟩ ⟨Nat.le_of_ble_eq_true rfl, Nat.le_of_ble_eq_true rfl⟩) rfl rfl (by decide) rfl hl.1 rfl (Nat.le_of_ble_eq_true rfl) dX9_frame_80 ⟨Nat.le_of_ble_eq_true rfl, Nat.le_of_ble_eq_true rfl⟩ hB.2.2.1.1 (fun H locs v σ80 hB hP => ?_)
    obtain ⟨⟨r9, rfl, hr9⟩, rfl⟩ := hP
    refine cl_astQ (lv' := [(2, va_rf _), (1, .int _), (0, .ref _)]) hx hb dX9_frame_83 rfl hl (by decide) rfl (fun ls hl => ?_)
    refine lv_iconst (v := 0) hx hb dX9_frame_84 (by decide) ?_
    refine lv_istore_n (lv' := [(3, .int _), (2, va_rf _), (1, .int _), (0, .ref _)]) hx hb dX9_frame_85 rfl hl (by decide) (by first | rfl | exact flt_q3) (fun ls hl => ?_)
    have key86 : ∃ (i3 : Int32) (r2 : Option Nat) (σ4 : SG), clB D cy ad τ Y s σ4 H locs ∧ lv_has ls 4 [(3, .int i3), (2, va_rf r2), (1, .int tk0), (0, .ref (yX Y))] ∧ (0 ≤ i3.toInt ∧ i3.toInt ≤ 1000) ∧ SI Y σ4 (B + 100096 + 8 * i3.toInt) ∧ (r2 = none ∨ ∃ j, j < 12 ∧ r2 = some (yp Y j) ∧ (∃ d, sgR σ4 (yp Y j) 1 = some d) ∧ 1 ≤ (sgI σ4 (yp Y j) 13).toInt) := ⟨_, _, _, hB, (lv_sub hl [0, 1, 2, 3] rfl), ⟨by decide, by decide⟩, SI_up hI3 (by rw [e0]; omega), hr9⟩
    clear hB hl
    obtain ⟨i3, r2, σ4, hB, hl, hi3, hI4, hr2⟩ := key86
    obtain ⟨d86, hd86⟩ : ∃ d : Nat, d = 1100 - i3.toInt.toNat := ⟨_, rfl⟩
    induction d86 using Nat.strongRecOn generalizing H locs ls i3 r2 σ4
    rename_i d86 ih86
    have hV9 := hB.2
    have hI9 := hI4
    have e1000 : (1000 : Int32).toInt = 1000 := rfl
    refine lv_iload_n hx hb dX9_frame_86 rfl (lv_at hl 0 rfl) ?_
    refine lv_sipush (v := 1000) hx hb dX9_frame_87 (by decide) ?_
    refine lv_icmp_ge (tgt := 121) hx hb dX9_frame_90 (by decide) (fun c90 => ?_) (fun c90 => ?_)
    · refine lv_aload_n hx hb dX9_frame_121 rfl (lv_at hl 3 rfl) ?_
      obtain ⟨sn, hsn, tsn⟩ := sn_of hB.2
      refine gr_X9_59 F hB dX9_frame_122 hB.2.2.1.1 hsn ?_
      refine gf_X9_418 F hB dX9_frame_125 tsn ?_
      refine lv_iload_n hx hb dX9_frame_128 rfl (lv_at hl 2 rfl) ?_
      refine lv_isub hx hb dX9_frame_129 ?_
      exact cl_iret F hB hrt dX9_frame_130 (⟨⟨_, rfl⟩, SI_up hI4 (by omega)⟩)
    · refine cl_aldQ hx hb dX9_frame_93 rfl (lv_at hl 1 rfl) ?_
      refine sg_split (fun hz94 => ?_) (fun b94 hz94 => ?_)
      · refine lv_ifnullN (tgt := 121) hx hb dX9_frame_94 (by decide) ?_
        refine lv_aload_n hx hb dX9_frame_121 rfl (lv_at hl 3 rfl) ?_
        obtain ⟨sn, hsn, tsn⟩ := sn_of hB.2
        refine gr_X9_59 F hB dX9_frame_122 hB.2.2.1.1 hsn ?_
        refine gf_X9_418 F hB dX9_frame_125 tsn ?_
        refine lv_iload_n hx hb dX9_frame_128 rfl (lv_at hl 2 rfl) ?_
        refine lv_isub hx hb dX9_frame_129 ?_
        exact cl_iret F hB hrt dX9_frame_130 (⟨⟨_, rfl⟩, SI_up hI4 (by omega)⟩)
      · refine lv_ifnull hx hb dX9_frame_94 ?_
        subst hz94
        obtain ⟨j9, hj9, ej9, ⟨d9, hd9⟩, hc9⟩ := hr2.resolve_left (fun z => by cases z)
        cases ej9
        obtain ⟨i9, k9, hi9, hk9, -, hQ9, -⟩ := TQ_of hI9.2.1 hj9 hd9 hc9
        have h90 := i_nle c90
        refine lv_aload_n hx hb dX9_frame_97 rfl (lv_at hl 3 rfl) ?_
        refine lv_aload_n hx hb dX9_frame_98 rfl (lv_at hl 1 rfl) ?_
        refine gf_X9_333 F hB dX9_frame_99 (hB.2.2.2.2.2.2.2.2.1 _ hj9).1 ?_
        refine pf_X9_28 F hB dX9_frame_102 hB.2.2.1.1 (ln_rg hB.2 (hB.2.2.2.2.2.2.2.2.1 _ hj9).1) (fun H locs hBn => ?_)
        clear hB; have hB := hBn; clear hBn
        have hI9 := si_of hB.2 (SI_PI (k := 6) hV9 hI9 (t := 15) hB.2.2.1.1 rfl (by decide))
        have hQ9 := tq_of hB.2 (TQ_PI (k9 := 6) (t := 15) hV9 hj9 hQ9 hB.2.2.1.1 (by decide))
        have hV9 := hB.2
        refine lv_aload_n hx hb dX9_frame_105 rfl (lv_at hl 3 rfl) ?_
        refine lv_aload_n hx hb dX9_frame_106 rfl (lv_at hl 1 rfl) ?_
        refine cl_callV (ci := 14) F hB (k_turn l D cy hst hs hB.2 hI9 hj9 hi9 hk9 hQ9 (by omega) _) (cwV 1 F.1.2.2.2.2 (vgV (vm_10 _ (List.mem_of_getElem? (i := 7) rfl)) (vm_10 _ (List.mem_of_getElem? (i := 8) rfl)) (vm_10 _ (List.mem_of_getElem? (i := 9) rfl)) (vm_4 _ (List.mem_of_getElem? (i := 20) rfl)) (vm_9 _ (List.mem_of_getElem? (i := 37) rfl))) rfl rfl rfl ⟨rfl, by decide, by decide, by decide +kernel⟩ ⟨Nat.le_of_ble_eq_true rfl, Nat.le_of_ble_eq_true rfl⟩) rfl rfl (by decide) rfl hl.1 rfl (Nat.le_of_ble_eq_true rfl) dX9_frame_107 ⟨Nat.le_of_ble_eq_true rfl, Nat.le_of_ble_eq_true rfl⟩ hB.2.2.1.1 (fun H locs v σ107 hB hP => ?_)
        obtain ⟨rfl, hI107⟩ := hP
        refine lv_aload_n hx hb dX9_frame_110 rfl (lv_at hl 3 rfl) ?_
        refine cl_callV (ci := 14) F hB (k_nbp l D cy hB.2 hI107 _) (cwV 0 F.1.2.2.2.2 (vgV (vm_10 _ (List.mem_of_getElem? (i := 10) rfl)) (vm_10 _ (List.mem_of_getElem? (i := 11) rfl)) (vm_10 _ (List.mem_of_getElem? (i := 12) rfl)) (vm_4 _ (List.mem_of_getElem? (i := 20) rfl)) (vm_10 _ (List.mem_of_getElem? (i := 1) rfl))) rfl rfl rfl ⟨rfl, by decide, by decide, by decide +kernel⟩ ⟨Nat.le_of_ble_eq_true rfl, Nat.le_of_ble_eq_true rfl⟩) rfl rfl (by decide) rfl hl.1 rfl (Nat.le_of_ble_eq_true rfl) dX9_frame_111 ⟨Nat.le_of_ble_eq_true rfl, Nat.le_of_ble_eq_true rfl⟩ hB.2.2.1.1 (fun H locs v σ111 hB hP => ?_)
        obtain ⟨⟨r111, rfl, hr111⟩, rfl⟩ := hP
        refine cl_astQ (lv' := [(2, va_rf _), (3, .int _), (1, .int _), (0, .ref _)]) hx hb dX9_frame_114 rfl hl (by decide) rfl (fun ls hl => ?_)
        refine lv_iinc (lv' := [(3, .int _), (2, va_rf _), (1, .int _), (0, .ref _)]) hx hb dX9_frame_115 hl (k := 1) rfl rfl (by decide) (by first | rfl | exact flt_q | exact flt_q3 | exact flt_q4) (fun ls hl => ?_)
        refine lv_goto (tgt := 86) hx hb dX9_frame_118 (by decide) ?_
        have q9 := cl_add1 (x := i3) (by omega) (by have := i_nle c90; omega)
        have h90 := i_nle c90
        exact ih86 _ (by subst hd86; rw [q9]; omega) _ _ _ _ _ _ hB (lv_sub hl [0, 1, 2, 3] rfl) ⟨by rw [q9]; omega, by rw [q9]; omega⟩ (SI_up hI107 (by rw [q9]; omega)) hr111 rfl
  · refine lv_aload_n hx hb dX9_frame_37 rfl (lv_at hl 2 rfl) ?_
    have hn := i_nle c34
    have hj3 : i2.toInt.toNat < 12 := by omega
    refine gr_X9_24 F hB dX9_frame_38 LX3.1 LX3.2.2.1 ?_
    refine lv_iload_n hx hb dX9_frame_41 rfl (lv_at hl 0 rfl) ?_
    refine sg_aald 6 hx hb F.2.1 hB.1 rfl rfl dX9_frame_42 LP93.1 (by omega) (by rw [LP93.2.1]; omega) (by rw [LP93.2.1]; decide) ?_
    rw [show sgR _ _ _ = some _ from LP93.2.2 _ hj3]
    refine lv_astore_n (lv' := [(3, .ref _), (2, .int _), (1, .int _), (0, .ref _)]) hx hb dX9_frame_43 rfl hl (by decide) rfl (fun ls hl => ?_)
    refine lv_aload_n hx hb dX9_frame_44 rfl (lv_at hl 0 rfl) ?_
    refine lv_iconst (v := 0) hx hb dX9_frame_45 (by decide) ?_
    refine pf_X9_427 F hB dX9_frame_46 (Lp3 _ hj3).1 ⟨by decide, by decide⟩ (fun H locs hBn => ?_)
    clear hB; have hB := hBn; clear hBn
    have hI9 := si_of hB.2 (SI_PI (k := 10) hV9 hI9 (t := 11) (Lp3 _ hj3).1 rfl (by decide))
    have hV9 := hB.2
    refine lv_aload_n hx hb dX9_frame_49 rfl (lv_at hl 0 rfl) ?_
    refine lv_aload_n hx hb dX9_frame_50 rfl (lv_at hl 3 rfl) ?_
    refine gf_X9_252 F hB dX9_frame_51 hB.2.2.1.1 ?_
    refine cl_callN (ci := 10) F hB (k_isDueIn l D cy hB.2 (Lp3 _ hj3).1 _ _) ⟨va_cnB 1 F.1.2.2.2.2 (vgN (vm_2 _ (List.mem_of_getElem? (i := 24) rfl))) rfl rfl rfl (F.2.2.1.1 _ nf_127) (F.1.2.2.2.2 _ (List.mem_cons_of_mem _ (vm_2 _ (List.mem_of_getElem? (i := 22) rfl)))) ⟨by decide, by decide, by decide +kernel⟩ ⟨Nat.le_of_ble_eq_true rfl, Nat.le_of_ble_eq_true rfl⟩, F.1.2.2.2.2 _ (List.mem_cons_of_mem _ (vm_5 _ (List.mem_of_getElem? (i := 14) rfl))), F.1.2.2.2.2 _ (List.mem_cons_of_mem _ (vm_5 _ (List.mem_of_getElem? (i := 15) rfl)))⟩ rfl rfl (by decide) rfl hl.1 rfl (Nat.le_of_ble_eq_true rfl) dX9_frame_54 ⟨Nat.le_of_ble_eq_true rfl, Nat.le_of_ble_eq_true rfl⟩ (Lp3 _ hj3).1 (fun H locs v σ54 hB hP => ?_)
    obtain ⟨⟨b54, rfl, hb54⟩, rfl⟩ := hP
    refine lv_if_eq (tgt := 73) hx hb dX9_frame_57 (by decide) (fun c57 => ?_) (fun c57 => ?_)
    · refine lv_iinc (lv' := [(2, .int _), (3, .ref _), (1, .int _), (0, .ref _)]) hx hb dX9_frame_73 hl (k := 1) rfl rfl (by decide) rfl (fun ls hl => ?_)
      refine lv_goto (tgt := 31) hx hb dX9_frame_76 (by decide) ?_
      have q9 := cl_add1 (x := i2) (by omega) (by omega)
      first | exact ih31 _ (by subst hd31; rw [q9]; omega) _ _ _ _ _ hB (lv_sub hl [0, 2, 3] rfl) ⟨by rw [q9]; omega, by rw [q9]; omega⟩ (SI_up hI70 (by rw [q9]; omega)) rfl | exact ih31 _ (by subst hd31; rw [q9]; omega) _ _ _ _ _ hB (lv_sub hl [0, 2, 3] rfl) ⟨by rw [q9]; omega, by rw [q9]; omega⟩ (SI_up hI9 (by rw [q9]; omega)) rfl | fail "no road"
    · refine lv_aload_n hx hb dX9_frame_60 rfl (lv_at hl 3 rfl) ?_
      refine lv_aload_n hx hb dX9_frame_61 rfl (lv_at hl 0 rfl) ?_
      refine cl_callV (ci := 14) F hB (k_canGo l D cy hB.2 hI9 hj3 _) (cwV 1 F.1.2.2.2.2 (vgV (vm_9 _ (List.mem_of_getElem? (i := 38) rfl)) (vm_9 _ (List.mem_of_getElem? (i := 39) rfl)) (vm_10 _ (List.mem_of_getElem? (i := 0) rfl)) (vm_4 _ (List.mem_of_getElem? (i := 20) rfl)) (vm_9 _ (List.mem_of_getElem? (i := 6) rfl))) rfl rfl rfl ⟨rfl, by decide, by decide, by decide +kernel⟩ ⟨Nat.le_of_ble_eq_true rfl, Nat.le_of_ble_eq_true rfl⟩) rfl rfl (by decide) rfl hl.1 rfl (Nat.le_of_ble_eq_true rfl) dX9_frame_62 ⟨Nat.le_of_ble_eq_true rfl, Nat.le_of_ble_eq_true rfl⟩ hB.2.2.1.1 (fun H locs v σ62 hB hP => ?_)
      obtain ⟨⟨b62, rfl, hb62⟩, rfl⟩ := hP
      refine lv_if_eq (tgt := 73) hx hb dX9_frame_65 (by decide) (fun c65 => ?_) (fun c65 => ?_)
      · refine lv_iinc (lv' := [(2, .int _), (3, .ref _), (1, .int _), (0, .ref _)]) hx hb dX9_frame_73 hl (k := 1) rfl rfl (by decide) rfl (fun ls hl => ?_)
        refine lv_goto (tgt := 31) hx hb dX9_frame_76 (by decide) ?_
        have q9 := cl_add1 (x := i2) (by omega) (by omega)
        first | exact ih31 _ (by subst hd31; rw [q9]; omega) _ _ _ _ _ hB (lv_sub hl [0, 2, 3] rfl) ⟨by rw [q9]; omega, by rw [q9]; omega⟩ (SI_up hI70 (by rw [q9]; omega)) rfl | exact ih31 _ (by subst hd31; rw [q9]; omega) _ _ _ _ _ hB (lv_sub hl [0, 2, 3] rfl) ⟨by rw [q9]; omega, by rw [q9]; omega⟩ (SI_up hI9 (by rw [q9]; omega)) rfl | fail "no road"
      · refine lv_aload_n hx hb dX9_frame_68 rfl (lv_at hl 3 rfl) ?_
        obtain ⟨⟨d9, hd9⟩, hc9⟩ := hb62 c65
        obtain ⟨i9, k9, hi9, hk9, -, hQ9, -⟩ := TQ_of hI9.2.1 hj3 hd9 hc9
        refine lv_aload_n hx hb dX9_frame_69 rfl (lv_at hl 0 rfl) ?_
        refine cl_callV (ci := 14) F hB (k_turn l D cy hst hs hB.2 hI9 hj3 hi9 hk9 hQ9 (by omega) _) (cwV 1 F.1.2.2.2.2 (vgV (vm_10 _ (List.mem_of_getElem? (i := 7) rfl)) (vm_10 _ (List.mem_of_getElem? (i := 8) rfl)) (vm_10 _ (List.mem_of_getElem? (i := 9) rfl)) (vm_4 _ (List.mem_of_getElem? (i := 20) rfl)) (vm_9 _ (List.mem_of_getElem? (i := 37) rfl))) rfl rfl rfl ⟨rfl, by decide, by decide, by decide +kernel⟩ ⟨Nat.le_of_ble_eq_true rfl, Nat.le_of_ble_eq_true rfl⟩) rfl rfl (by decide) rfl hl.1 rfl (Nat.le_of_ble_eq_true rfl) dX9_frame_70 ⟨Nat.le_of_ble_eq_true rfl, Nat.le_of_ble_eq_true rfl⟩ hB.2.2.1.1 (fun H locs v σ70 hB hP => ?_)
        obtain ⟨rfl, hI70⟩ := hP
        refine lv_iinc (lv' := [(2, .int _), (3, .ref _), (1, .int _), (0, .ref _)]) hx hb dX9_frame_73 hl (k := 1) rfl rfl (by decide) rfl (fun ls hl => ?_)
        refine lv_goto (tgt := 31) hx hb dX9_frame_76 (by decide) ?_
        have q9 := cl_add1 (x := i2) (by omega) (by omega)
        first | exact ih31 _ (by subst hd31; rw [q9]; omega) _ _ _ _ _ hB (lv_sub hl [0, 2, 3] rfl) ⟨by rw [q9]; omega, by rw [q9]; omega⟩ (SI_up hI70 (by rw [q9]; omega)) rfl | exact ih31 _ (by subst hd31; rw [q9]; omega) _ _ _ _ _ hB (lv_sub hl [0, 2, 3] rfl) ⟨by rw [q9]; omega, by rw [q9]; omega⟩ (SI_up hI9 (by rw [q9]; omega)) rfl | fail "no road"
end CLK15
