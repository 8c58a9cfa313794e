section MM34
theorem dX14_make_0 : decode cX14_make 0 = .ok (.iload_n 1, 1) := by decide +kernel
theorem dX14_make_1 : decode cX14_make 1 = .ok (.bipush 108, 2) := by decide +kernel
theorem dX14_make_3 : decode cX14_make 3 = .ok (.if_icmp .eq 15, 3) := by decide +kernel
theorem dX14_make_6 : decode cX14_make 6 = .ok (.iload_n 1, 1) := by decide +kernel
theorem dX14_make_7 : decode cX14_make 7 = .ok (.bipush 102, 2) := by decide +kernel
theorem dX14_make_9 : decode cX14_make 9 = .ok (.if_icmp .eq 9, 3) := by decide +kernel
theorem dX14_make_12 : decode cX14_make 12 = .ok (.iload_n 1, 1) := by decide +kernel
theorem dX14_make_13 : decode cX14_make 13 = .ok (.bipush 104, 2) := by decide +kernel
theorem dX14_make_15 : decode cX14_make 15 = .ok (.if_icmp .ne 36, 3) := by decide +kernel
theorem dX14_make_18 : decode cX14_make 18 = .ok (.iload_n 2, 1) := by decide +kernel
theorem dX14_make_19 : decode cX14_make 19 = .ok (.iconst 0, 1) := by decide +kernel
theorem dX14_make_20 : decode cX14_make 20 = .ok (.iconst 4, 1) := by decide +kernel
theorem dX14_make_21 : decode cX14_make 21 = .ok (.invokestatic 68, 3) := by decide +kernel
theorem dX14_make_24 : decode cX14_make 24 = .ok (.ifCond .eq 27, 3) := by decide +kernel
theorem dX14_make_27 : decode cX14_make 27 = .ok (.iload_n 3, 1) := by decide +kernel
theorem dX14_make_28 : decode cX14_make 28 = .ok (.iconst 1, 1) := by decide +kernel
theorem dX14_make_29 : decode cX14_make 29 = .ok (.iconst 5, 1) := by decide +kernel
theorem dX14_make_30 : decode cX14_make 30 = .ok (.invokestatic 68, 3) := by decide +kernel
theorem dX14_make_33 : decode cX14_make 33 = .ok (.ifCond .eq 18, 3) := by decide +kernel
theorem dX14_make_36 : decode cX14_make 36 = .ok (.iload 5, 2) := by decide +kernel
theorem dX14_make_38 : decode cX14_make 38 = .ok (.iconst 0, 1) := by decide +kernel
theorem dX14_make_39 : decode cX14_make 39 = .ok (.bipush 99, 2) := by decide +kernel
theorem dX14_make_41 : decode cX14_make 41 = .ok (.invokestatic 68, 3) := by decide +kernel
theorem dX14_make_44 : decode cX14_make 44 = .ok (.ifCond .eq 7, 3) := by decide +kernel
theorem dX14_make_47 : decode cX14_make 47 = .ok (.iconst 1, 1) := by decide +kernel
theorem dX14_make_48 : decode cX14_make 48 = .ok (.goto 4, 3) := by decide +kernel
theorem dX14_make_51 : decode cX14_make 51 = .ok (.iconst 0, 1) := by decide +kernel
theorem dX14_make_52 : decode cX14_make 52 = .ok (.istore 6, 2) := by decide +kernel
theorem dX14_make_54 : decode cX14_make 54 = .ok (.aload_n 0, 1) := by decide +kernel
theorem dX14_make_55 : decode cX14_make 55 = .ok (.iload 6, 2) := by decide +kernel
theorem dX14_make_57 : decode cX14_make 57 = .ok (.ifCond .eq 13, 3) := by decide +kernel
theorem dX14_make_60 : decode cX14_make 60 = .ok (.iload_n 1, 1) := by decide +kernel
theorem dX14_make_61 : decode cX14_make 61 = .ok (.bipush 108, 2) := by decide +kernel
theorem dX14_make_63 : decode cX14_make 63 = .ok (.if_icmp .ne 11, 3) := by decide +kernel
theorem dX14_make_66 : decode cX14_make 66 = .ok (.iload_n 2, 1) := by decide +kernel
theorem dX14_make_67 : decode cX14_make 67 = .ok (.ifCond .le 7, 3) := by decide +kernel
theorem dX14_make_70 : decode cX14_make 70 = .ok (.iconst 1, 1) := by decide +kernel
theorem dX14_make_71 : decode cX14_make 71 = .ok (.goto 20, 3) := by decide +kernel
theorem dX14_make_74 : decode cX14_make 74 = .ok (.aload_n 0, 1) := by decide +kernel
theorem dX14_make_75 : decode cX14_make 75 = .ok (.getfield 10, 3) := by decide +kernel
theorem dX14_make_78 : decode cX14_make 78 = .ok (.invokevirtual 64, 3) := by decide +kernel
theorem dX14_make_81 : decode cX14_make 81 = .ok (.bipush 16, 2) := by decide +kernel
theorem dX14_make_83 : decode cX14_make 83 = .ok (.if_icmp .ne 7, 3) := by decide +kernel
theorem dX14_make_86 : decode cX14_make 86 = .ok (.iconst 2, 1) := by decide +kernel
theorem dX14_make_87 : decode cX14_make 87 = .ok (.goto 4, 3) := by decide +kernel
theorem dX14_make_90 : decode cX14_make 90 = .ok (.iconst 0, 1) := by decide +kernel
theorem dX14_make_91 : decode cX14_make 91 = .ok (.putfield 61, 3) := by decide +kernel
theorem dX14_make_94 : decode cX14_make 94 = .ok (.aload_n 0, 1) := by decide +kernel
theorem dX14_make_95 : decode cX14_make 95 = .ok (.getfield 61, 3) := by decide +kernel
theorem dX14_make_98 : decode cX14_make 98 = .ok (.ifCond .le 5, 3) := by decide +kernel
theorem dX14_make_101 : decode cX14_make 101 = .ok (.iconst 0, 1) := by decide +kernel
theorem dX14_make_102 : decode cX14_make 102 = .ok (.ireturn, 1) := by decide +kernel
theorem dX14_make_103 : decode cX14_make 103 = .ok (.aload_n 0, 1) := by decide +kernel
theorem dX14_make_104 : decode cX14_make 104 = .ok (.getfield 10, 3) := by decide +kernel
theorem dX14_make_107 : decode cX14_make 107 = .ok (.new 48, 3) := by decide +kernel
theorem dX14_make_110 : decode cX14_make 110 = .ok (.dup, 1) := by decide +kernel
theorem dX14_make_111 : decode cX14_make 111 = .ok (.iload_n 1, 1) := by decide +kernel
theorem dX14_make_112 : decode cX14_make 112 = .ok (.iload_n 2, 1) := by decide +kernel
theorem dX14_make_113 : decode cX14_make 113 = .ok (.iload_n 3, 1) := by decide +kernel
theorem dX14_make_114 : decode cX14_make 114 = .ok (.iload 4, 2) := by decide +kernel
theorem dX14_make_116 : decode cX14_make 116 = .ok (.iload 5, 2) := by decide +kernel
theorem dX14_make_118 : decode cX14_make 118 = .ok (.invokespecial 50, 3) := by decide +kernel
theorem dX14_make_121 : decode cX14_make 121 = .ok (.invokevirtual 57, 3) := by decide +kernel
theorem dX14_make_124 : decode cX14_make 124 = .ok (.pop, 1) := by decide +kernel
theorem dX14_make_125 : decode cX14_make 125 = .ok (.aload_n 0, 1) := by decide +kernel
theorem dX14_make_126 : decode cX14_make 126 = .ok (.getfield 10, 3) := by decide +kernel
theorem dX14_make_129 : decode cX14_make 129 = .ok (.invokevirtual 64, 3) := by decide +kernel
theorem dX14_make_132 : decode cX14_make 132 = .ok (.iconst 1, 1) := by decide +kernel
theorem dX14_make_133 : decode cX14_make 133 = .ok (.isub, 1) := by decide +kernel
theorem dX14_make_134 : decode cX14_make 134 = .ok (.ireturn, 1) := by decide +kernel
set_option maxRecDepth 100000 in
set_option maxHeartbeats 4000000 in
theorem m_make (l : Launch) (D : va_G) (cy : Nat → ClassId) {eda ca : Nat} {ia : Nat → Nat} {σ : SG} {K : KM} {g : GH} {n S hw : Nat} (h : Inv eda ia K g n S hw σ) (hY : nY g) (hH : nH g) (sp po pw ow ki : Int32) (hsp : 0 ≤ sp.toInt ∧ sp.toInt ≤ 65535) (how : 0 ≤ ow.toInt ∧ ow.toInt ≤ 1) (sz : Nat) : sgM l D cy eda ca ia σ sz yX14_make (Cond.code yX14_make cX14_make 7 (some .int) :: mWall) 7 171 5 43 [.ref (kA K), .int sp, .int po, .int pw, .int ow, .int ki] (fun v σ2 => ∃ y t : Int32, v = some (.int y) ∧ sgI σ2 (kA K) 0 = t ∧ ((t = 1 ∧ y = 0 ∧ ¬ mkOk sp po pw ki ∧ Inv eda ia K g n S hw σ2) ∨ (t = 2 ∧ y = 0 ∧ mkOk sp po pw ki ∧ n = 16 ∧ Inv eda ia K g n S hw σ2) ∨ (t = 0 ∧ y.toInt = n ∧ mkOk sp po pw ki ∧ n < 16 ∧ ∃ g2, (nY g2 ∧ nH g2) ∧ Inv eda ia K g2 (n + 1) S hw σ2))) := by
  refine sg_ofW (cc := cX14_make) (maxL := 7) (ret := (some .int)) (by decide) rfl (Nat.le_of_ble_eq_true rfl) (lv := [(0, .ref (kA K)), (1, .int sp), (2, .int po), (3, .int pw), (4, .int ow), (5, .int ki)]) rfl (fun p e s m below meth c ls H N hrt hnm F hB hl => ?_) sz
  have hx := F.1.1
  have hb := F.1.2.1
  have hown := F.1.2.2.2.1
  obtain ⟨z1, z2, z3⟩ := inv_sz h
  refine lv_iload_n hx hb dX14_make_0 rfl (lv_at hl 1 rfl) ?_
  refine lv_bipush (v := 108) hx hb dX14_make_1 (by decide) ?_
  refine lv_icmp_eq (tgt := 18) hx hb dX14_make_3 (by decide) (fun c3 => ?_) (fun c3 => ?_)
  · refine lv_iload_n hx hb dX14_make_18 rfl (lv_at hl 2 rfl) ?_
    refine lv_iconst (v := 0) hx hb dX14_make_19 (by decide) ?_
    refine lv_iconst (v := 4) hx hb dX14_make_20 (by decide) ?_
    refine sg_callS F hB (m_in l D cy po 0 4 _) (cwS 3 F.1.2.2.2.2 (mgS (mm_3 _ (List.mem_of_getElem? (i := 21) rfl)) (mm_3 _ (List.mem_of_getElem? (i := 22) rfl)) (mm_3 _ (List.mem_of_getElem? (i := 23) rfl)) (mm_1 _ (List.mem_of_getElem? (i := 19) rfl))) rfl rfl rfl ⟨rfl, by decide, by decide, by decide +kernel⟩ ⟨Nat.le_of_ble_eq_true rfl, Nat.le_of_ble_eq_true rfl⟩) rfl hl.1 rfl (Nat.le_of_ble_eq_true rfl) dX14_make_21 (Nat.le_of_ble_eq_true rfl) (Nat.add_le_add_right (Nat.le_of_ble_eq_true rfl) _)  (fun H locs v σ21 N hBn hX21 hP => ?_)
    clear hB; have hB := hBn; clear hBn
    obtain ⟨b21, rfl, rfl, hb21⟩ := hP
    refine lv_if_eq (tgt := 51) hx hb dX14_make_24 (by decide) (fun c24 => ?_) (fun c24 => ?_)
    · refine lv_iconst (v := 0) hx hb dX14_make_51 (by decide) ?_
      refine lv_istore (lv' := [(6, .int _), (0, .ref _), (1, .int _), (2, .int _), (3, .int _), (4, .int _), (5, .int _)]) hx hb dX14_make_52 hl (by decide) rfl (fun ls hl => ?_)
      refine lv_aload_n hx hb dX14_make_54 rfl (lv_at hl 1 rfl) ?_
      refine lv_iload hx hb dX14_make_55 (lv_at hl 0 rfl) ?_
      refine lv_if_eq (tgt := 70) hx hb dX14_make_57 (by decide) (fun c57 => ?_) (fun c57 => (by first | exact absurd c57 (by decide) | exact (c57 (by decide)).elim))
      refine lv_iconst (v := 1) hx hb dX14_make_70 (by decide) ?_
      refine lv_goto (tgt := 91) hx hb dX14_make_71 (by decide) ?_
      refine pf_X14_61 F hB dX14_make_91 (inv_A h) (fun H locs hBn => ?_)
      clear hB; have hB := hBn; clear hBn
      have hI91 := inv_PIc (t := 20) hB h (inv_A h) (by unfold iCn; omega)
      refine lv_aload_n hx hb dX14_make_94 rfl (lv_at hl 1 rfl) ?_
      refine gf_X14_61 F hB dX14_make_95 (inv_A hI91) ?_
      rw [sgI_PI, if_pos ⟨rfl, rfl⟩]
      refine lv_if_le (tgt := 103) hx hb dX14_make_98 (by decide) (fun c98 => (by first | exact absurd c98 (by decide) | exact (c98 (by decide)).elim)) (fun c98 => ?_)
      refine lv_iconst (v := 0) hx hb dX14_make_101 (by decide) ?_
      exact sg_iret F hB hrt dX14_make_102 (by decide) (by decide) (by first | exact ⟨_, 1, rfl, (by rw [sgI_PI, if_pos ⟨rfl, rfl⟩]), Or.inl ⟨rfl, rfl, (by first | exact fun z => z.1.elim c3 (fun q => q.elim c9 c15) | exact fun z => (sgb_f hb21 c24) z.2.1 | exact fun z => (sgb_f hb30 c33) z.2.2.1 | exact fun z => (sgb_f hb41 c44) z.2.2.2.1 | exact fun z => z.2.2.2.2 ⟨c63, c67⟩), hI91⟩⟩ | exact ⟨_, 2, rfl, (by rw [sgI_PI, if_pos ⟨rfl, rfl⟩]), Or.inr (Or.inl ⟨rfl, rfl, ⟨(by first | exact Or.inl c3 | exact Or.inr (Or.inl c9) | exact Or.inr (Or.inr c15)), sgb_t hb21 c24, sgb_t hb30 c33, sgb_t hb41 c44, (by first | exact fun z => c63 z.1 | exact fun z => z.2 c67)⟩, (by have e16 : (16 : Int32).toInt = 16 := rfl; rw [c83] at z1; omega), hI91⟩)⟩)
    · refine lv_iload_n hx hb dX14_make_27 rfl (lv_at hl 3 rfl) ?_
      refine lv_iconst (v := 1) hx hb dX14_make_28 (by decide) ?_
      refine lv_iconst (v := 5) hx hb dX14_make_29 (by decide) ?_
      refine sg_callS F hB (m_in l D cy pw 1 5 _) (cwS 3 F.1.2.2.2.2 (mgS (mm_3 _ (List.mem_of_getElem? (i := 21) rfl)) (mm_3 _ (List.mem_of_getElem? (i := 22) rfl)) (mm_3 _ (List.mem_of_getElem? (i := 23) rfl)) (mm_1 _ (List.mem_of_getElem? (i := 19) rfl))) rfl rfl rfl ⟨rfl, by decide, by decide, by decide +kernel⟩ ⟨Nat.le_of_ble_eq_true rfl, Nat.le_of_ble_eq_true rfl⟩) rfl hl.1 rfl (Nat.le_of_ble_eq_true rfl) dX14_make_30 (Nat.le_of_ble_eq_true rfl) (Nat.add_le_add_right (Nat.le_of_ble_eq_true rfl) _)  (fun H locs v σ30 N hBn hX30 hP => ?_)
      clear hB; have hB := hBn; clear hBn
      obtain ⟨b30, rfl, rfl, hb30⟩ := hP
      refine lv_if_eq (tgt := 51) hx hb dX14_make_33 (by decide) (fun c33 => ?_) (fun c33 => ?_)
      · refine lv_iconst (v := 0) hx hb dX14_make_51 (by decide) ?_
        refine lv_istore (lv' := [(6, .int _), (0, .ref _), (1, .int _), (2, .int _), (3, .int _), (4, .int _), (5, .int _)]) hx hb dX14_make_52 hl (by decide) rfl (fun ls hl => ?_)
        refine lv_aload_n hx hb dX14_make_54 rfl (lv_at hl 1 rfl) ?_
        refine lv_iload hx hb dX14_make_55 (lv_at hl 0 rfl) ?_
        refine lv_if_eq (tgt := 70) hx hb dX14_make_57 (by decide) (fun c57 => ?_) (fun c57 => (by first | exact absurd c57 (by decide) | exact (c57 (by decide)).elim))
        refine lv_iconst (v := 1) hx hb dX14_make_70 (by decide) ?_
        refine lv_goto (tgt := 91) hx hb dX14_make_71 (by decide) ?_
        refine pf_X14_61 F hB dX14_make_91 (inv_A h) (fun H locs hBn => ?_)
        clear hB; have hB := hBn; clear hBn
        have hI91 := inv_PIc (t := 20) hB h (inv_A h) (by unfold iCn; omega)
        refine lv_aload_n hx hb dX14_make_94 rfl (lv_at hl 1 rfl) ?_
        refine gf_X14_61 F hB dX14_make_95 (inv_A hI91) ?_
        rw [sgI_PI, if_pos ⟨rfl, rfl⟩]
        refine lv_if_le (tgt := 103) hx hb dX14_make_98 (by decide) (fun c98 => (by first | exact absurd c98 (by decide) | exact (c98 (by decide)).elim)) (fun c98 => ?_)
        refine lv_iconst (v := 0) hx hb dX14_make_101 (by decide) ?_
        exact sg_iret F hB hrt dX14_make_102 (by decide) (by decide) (by first | exact ⟨_, 1, rfl, (by rw [sgI_PI, if_pos ⟨rfl, rfl⟩]), Or.inl ⟨rfl, rfl, (by first | exact fun z => z.1.elim c3 (fun q => q.elim c9 c15) | exact fun z => (sgb_f hb21 c24) z.2.1 | exact fun z => (sgb_f hb30 c33) z.2.2.1 | exact fun z => (sgb_f hb41 c44) z.2.2.2.1 | exact fun z => z.2.2.2.2 ⟨c63, c67⟩), hI91⟩⟩ | exact ⟨_, 2, rfl, (by rw [sgI_PI, if_pos ⟨rfl, rfl⟩]), Or.inr (Or.inl ⟨rfl, rfl, ⟨(by first | exact Or.inl c3 | exact Or.inr (Or.inl c9) | exact Or.inr (Or.inr c15)), sgb_t hb21 c24, sgb_t hb30 c33, sgb_t hb41 c44, (by first | exact fun z => c63 z.1 | exact fun z => z.2 c67)⟩, (by have e16 : (16 : Int32).toInt = 16 := rfl; rw [c83] at z1; omega), hI91⟩)⟩)
      · refine lv_iload hx hb dX14_make_36 (lv_at hl 5 rfl) ?_
        refine lv_iconst (v := 0) hx hb dX14_make_38 (by decide) ?_
        refine lv_bipush (v := 99) hx hb dX14_make_39 (by decide) ?_
        refine sg_callS F hB (m_in l D cy ki 0 99 _) (cwS 3 F.1.2.2.2.2 (mgS (mm_3 _ (List.mem_of_getElem? (i := 21) rfl)) (mm_3 _ (List.mem_of_getElem? (i := 22) rfl)) (mm_3 _ (List.mem_of_getElem? (i := 23) rfl)) (mm_1 _ (List.mem_of_getElem? (i := 19) rfl))) rfl rfl rfl ⟨rfl, by decide, by decide, by decide +kernel⟩ ⟨Nat.le_of_ble_eq_true rfl, Nat.le_of_ble_eq_true rfl⟩) rfl hl.1 rfl (Nat.le_of_ble_eq_true rfl) dX14_make_41 (Nat.le_of_ble_eq_true rfl) (Nat.add_le_add_right (Nat.le_of_ble_eq_true rfl) _)  (fun H locs v σ41 N hBn hX41 hP => ?_)
        clear hB; have hB := hBn; clear hBn
        obtain ⟨b41, rfl, rfl, hb41⟩ := hP
        refine lv_if_eq (tgt := 51) hx hb dX14_make_44 (by decide) (fun c44 => ?_) (fun c44 => ?_)
        · refine lv_iconst (v := 0) hx hb dX14_make_51 (by decide) ?_
          refine lv_istore (lv' := [(6, .int _), (0, .ref _), (1, .int _), (2, .int _), (3, .int _), (4, .int _), (5, .int _)]) hx hb dX14_make_52 hl (by decide) rfl (fun ls hl => ?_)
          refine lv_aload_n hx hb dX14_make_54 rfl (lv_at hl 1 rfl) ?_
          refine lv_iload hx hb dX14_make_55 (lv_at hl 0 rfl) ?_
          refine lv_if_eq (tgt := 70) hx hb dX14_make_57 (by decide) (fun c57 => ?_) (fun c57 => (by first | exact absurd c57 (by decide) | exact (c57 (by decide)).elim))
          refine lv_iconst (v := 1) hx hb dX14_make_70 (by decide) ?_
          refine lv_goto (tgt := 91) hx hb dX14_make_71 (by decide) ?_
          refine pf_X14_61 F hB dX14_make_91 (inv_A h) (fun H locs hBn => ?_)
          clear hB; have hB := hBn; clear hBn
          have hI91 := inv_PIc (t := 20) hB h (inv_A h) (by unfold iCn; omega)
          refine lv_aload_n hx hb dX14_make_94 rfl (lv_at hl 1 rfl) ?_
          refine gf_X14_61 F hB dX14_make_95 (inv_A hI91) ?_
          rw [sgI_PI, if_pos ⟨rfl, rfl⟩]
          refine lv_if_le (tgt := 103) hx hb dX14_make_98 (by decide) (fun c98 => (by first | exact absurd c98 (by decide) | exact (c98 (by decide)).elim)) (fun c98 => ?_)
          refine lv_iconst (v := 0) hx hb dX14_make_101 (by decide) ?_
          exact sg_iret F hB hrt dX14_make_102 (by decide) (by decide) (by first | exact ⟨_, 1, rfl, (by rw [sgI_PI, if_pos ⟨rfl, rfl⟩]), Or.inl ⟨rfl, rfl, (by first | exact fun z => z.1.elim c3 (fun q => q.elim c9 c15) | exact fun z => (sgb_f hb21 c24) z.2.1 | exact fun z => (sgb_f hb30 c33) z.2.2.1 | exact fun z => (sgb_f hb41 c44) z.2.2.2.1 | exact fun z => z.2.2.2.2 ⟨c63, c67⟩), hI91⟩⟩ | exact ⟨_, 2, rfl, (by rw [sgI_PI, if_pos ⟨rfl, rfl⟩]), Or.inr (Or.inl ⟨rfl, rfl, ⟨(by first | exact Or.inl c3 | exact Or.inr (Or.inl c9) | exact Or.inr (Or.inr c15)), sgb_t hb21 c24, sgb_t hb30 c33, sgb_t hb41 c44, (by first | exact fun z => c63 z.1 | exact fun z => z.2 c67)⟩, (by have e16 : (16 : Int32).toInt = 16 := rfl; rw [c83] at z1; omega), hI91⟩)⟩)
        · refine lv_iconst (v := 1) hx hb dX14_make_47 (by decide) ?_
          refine lv_goto (tgt := 52) hx hb dX14_make_48 (by decide) ?_
          refine lv_istore (lv' := [(6, .int _), (0, .ref _), (1, .int _), (2, .int _), (3, .int _), (4, .int _), (5, .int _)]) hx hb dX14_make_52 hl (by decide) rfl (fun ls hl => ?_)
          refine lv_aload_n hx hb dX14_make_54 rfl (lv_at hl 1 rfl) ?_
          refine lv_iload hx hb dX14_make_55 (lv_at hl 0 rfl) ?_
          refine lv_if_eq (tgt := 70) hx hb dX14_make_57 (by decide) (fun c57 => (by first | exact absurd c57 (by decide) | exact (c57 (by decide)).elim)) (fun c57 => ?_)
          refine lv_iload_n hx hb dX14_make_60 rfl (lv_at hl 2 rfl) ?_
          refine lv_bipush (v := 108) hx hb dX14_make_61 (by decide) ?_
          refine lv_icmp_ne (tgt := 74) hx hb dX14_make_63 (by decide) (fun c63 => ?_) (fun c63 => ?_)
          · refine lv_aload_n hx hb dX14_make_74 rfl (lv_at hl 1 rfl) ?_
            refine gr_X14_10 F hB dX14_make_75 (inv_A h) (inv_r1 h) ?_
            refine sg_callV (ci := 4) F hB (m_size l D cy (by exact (inv_tD h).1) _) (cwV 0 F.1.2.2.2.2 (mgV (mm_3 _ (List.mem_of_getElem? (i := 18) rfl)) (mm_3 _ (List.mem_of_getElem? (i := 19) rfl)) (mm_3 _ (List.mem_of_getElem? (i := 20) rfl)) (mm_0 _ (List.mem_of_getElem? (i := 35) rfl)) (mm_3 _ (List.mem_of_getElem? (i := 16) rfl))) rfl rfl rfl ⟨rfl, by decide, by decide, by decide +kernel⟩ ⟨Nat.le_of_ble_eq_true rfl, Nat.le_of_ble_eq_true rfl⟩) rfl rfl (by decide) rfl hl.1 rfl (Nat.le_of_ble_eq_true rfl) dX14_make_78 (Nat.le_of_ble_eq_true rfl) (Nat.add_le_add_right (Nat.le_of_ble_eq_true rfl) _) (inv_tD h).1 (fun H locs v σ78 N hBn hX78 hP => ?_)
            clear hB; have hB := hBn; clear hBn
            obtain ⟨rfl, rfl⟩ := hP
            refine lv_bipush (v := 16) hx hb dX14_make_81 (by decide) ?_
            refine lv_icmp_ne (tgt := 90) hx hb dX14_make_83 (by decide) (fun c83 => ?_) (fun c83 => ?_)
            · refine lv_iconst (v := 0) hx hb dX14_make_90 (by decide) ?_
              refine pf_X14_61 F hB dX14_make_91 (inv_A h) (fun H locs hBn => ?_)
              clear hB; have hB := hBn; clear hBn
              have hI91 := inv_PIc (t := 20) hB h (inv_A h) (by unfold iCn; omega)
              refine lv_aload_n hx hb dX14_make_94 rfl (lv_at hl 1 rfl) ?_
              refine gf_X14_61 F hB dX14_make_95 (inv_A hI91) ?_
              rw [sgI_PI, if_pos ⟨rfl, rfl⟩]
              refine lv_if_le (tgt := 103) hx hb dX14_make_98 (by decide) (fun c98 => ?_) (fun c98 => (by first | exact absurd c98 (by decide) | exact (c98 (by decide)).elim))
              refine lv_aload_n hx hb dX14_make_103 rfl (lv_at hl 1 rfl) ?_
              refine gr_X14_10 F hB dX14_make_104 (inv_A hI91) (inv_r1 hI91) ?_
              refine sg_new (C := RX10) (T := TX10) (N0 := 16) (ci := 15) (ty0 := tyX10) F hB (fun w h => List.mem_cons_of_mem _ (mmu_X10 w h)) tyX10_ok (F.1.2.2.2.2 _ (List.mem_cons_of_mem _ (mm_3 _ (List.mem_of_getElem? (i := 3) rfl)))) (F.1.2.2.2.2 _ (List.mem_cons_of_mem _ (mm_3 _ (List.mem_of_getElem? (i := 4) rfl)))) (F.1.2.2.2.2 _ (List.mem_cons_of_mem _ (mm_3 _ (List.mem_of_getElem? (i := 5) rfl)))) rfl (by decide) (by decide +kernel) (Nat.le_of_ble_eq_true rfl) (Nat.add_le_add_right (Nat.le_of_ble_eq_true rfl) _) dX14_make_107 (fun q107 H N hq107 hs107 hBn => ?_)
              clear hB; have hB := hBn; clear hBn
              refine lv_dup hx hb dX14_make_110 rfl ?_
              refine lv_iload_n hx hb dX14_make_111 rfl (lv_at hl 2 rfl) ?_
              refine lv_iload_n hx hb dX14_make_112 rfl (lv_at hl 3 rfl) ?_
              refine lv_iload_n hx hb dX14_make_113 rfl (lv_at hl 4 rfl) ?_
              refine lv_iload hx hb dX14_make_114 (lv_at hl 5 rfl) ?_
              refine lv_iload hx hb dX14_make_116 (lv_at hl 6 rfl) ?_
              refine sg_callI F hB (m_dvI l D cy (show sgT (sgNw _ q107 16 0) q107 = 16 from by rw [sgNw_T, if_pos rfl]) sp po pw ow ki hsp how _) (cwI 5 F.1.2.2.2.2 (mgN (mm_0 _ (List.mem_of_getElem? (i := 0) rfl))) rfl rfl rfl (F.1.2.2.2.2 _ (List.mem_cons_of_mem _ (mm_3 _ (List.mem_of_getElem? (i := 5) rfl)))) (F.1.2.2.2.2 _ (List.mem_cons_of_mem _ (mm_3 _ (List.mem_of_getElem? (i := 7) rfl)))) (F.1.2.2.2.2 _ (List.mem_cons_of_mem _ (mm_3 _ (List.mem_of_getElem? (i := 8) rfl)))) rfl ⟨by decide, by decide, by decide +kernel⟩ ⟨Nat.le_of_ble_eq_true rfl, Nat.le_of_ble_eq_true rfl⟩) rfl hl.1 rfl (Nat.le_of_ble_eq_true rfl) dX14_make_118 (Nat.le_of_ble_eq_true rfl) (Nat.add_le_add_right (Nat.le_of_ble_eq_true rfl) _)  (fun H locs v σ118 N hBn hX118 hP => ?_)
              clear hB; have hB := hBn; clear hBn
              obtain ⟨rfl, e9, f9, h9, he, hf, hh, rfl⟩ := hP
              obtain ⟨hI118, hO118, td118, h7_118, h6_118⟩ := inv_dvN hI91 hq107 (by exact he) (by exact hf) (by exact hh) (by exact sg_eda F hB)
              have hE118 := dv_iEl hI118 td118
              have hn16 := m_n16 z1 z3 c83
              obtain ⟨ra121, za121, zb121⟩ := (inv_LS hI118).1 _ (inv_tD hI118).1 id
              refine sg_callV (ci := 4) F hB (m_add l D cy (by exact za121) (fun j y h1 h2 => (inv_LS hI118).2.2.1 ra121 j y h1 h2) q107 (iEl_K (l0 := _) (g := gN g n q107 e9) (j := sgSz _ (kD K)) (by exact hE118)) zb121 _) (cwV 1 F.1.2.2.2.2 (mgV (mm_3 _ (List.mem_of_getElem? (i := 9) rfl)) (mm_3 _ (List.mem_of_getElem? (i := 10) rfl)) (mm_3 _ (List.mem_of_getElem? (i := 11) rfl)) (mm_0 _ (List.mem_of_getElem? (i := 35) rfl)) (mm_2 _ (List.mem_of_getElem? (i := 29) rfl))) rfl rfl rfl ⟨rfl, by decide, by decide, by decide +kernel⟩ ⟨Nat.le_of_ble_eq_true rfl, Nat.le_of_ble_eq_true rfl⟩) rfl rfl (by decide) rfl hl.1 rfl (Nat.le_of_ble_eq_true rfl) dX14_make_121 (Nat.le_of_ble_eq_true rfl) (Nat.add_le_add_right (Nat.le_of_ble_eq_true rfl) _) (by exact (inv_tD hI118).1) (fun H locs v σ121 N hBn hX121 hP => ?_)
              clear hB; have hB := hBn; clear hBn
              obtain ⟨rfl, hAd121⟩ := hP
              obtain ⟨hI121, ada121, adb121, adc121, add121, ade121, adf121, adg121, adh121⟩ := inv_ad (n2 := n + 1) hI118 (inv_tD hI118).1 za121 hAd121 (sg_eda F hB) hE118 (by rw [(inv_tD hI118).2, (inv_M hI118).2.1.1]; show _ ≤ 16; omega) (Or.inr ⟨rfl, by rw [(inv_M hI118).2.1.1], Nat.le_succ _, fun σ3 hI => iR_dvN hI118 (if_pos rfl) td118 h7_118 h6_118 hI⟩) (nr7 (inv_tD hI118).2 (by decide))
              have th121 := (adf121 (kA K) 0 (by rw [inv_A hI118]; decide) (by rw [inv_A hI118]; decide)).trans (((hO118 (kA K) (by rw [inv_A hI91]; decide)).2.2 0).1.trans (show sgI (sgPI σ (kA K) 0 0) (kA K) 0 = 0 from by rw [sgI_PI, if_pos ⟨rfl, rfl⟩]))
              refine lv_pop hx hb dX14_make_124 rfl ?_
              refine lv_aload_n hx hb dX14_make_125 rfl (lv_at hl 1 rfl) ?_
              refine gr_X14_10 F hB dX14_make_126 (inv_A hI121) (inv_r1 hI121) ?_
              refine sg_callV (ci := 4) F hB (m_size l D cy (by exact (inv_tD hI121).1) _) (cwV 0 F.1.2.2.2.2 (mgV (mm_3 _ (List.mem_of_getElem? (i := 18) rfl)) (mm_3 _ (List.mem_of_getElem? (i := 19) rfl)) (mm_3 _ (List.mem_of_getElem? (i := 20) rfl)) (mm_0 _ (List.mem_of_getElem? (i := 35) rfl)) (mm_3 _ (List.mem_of_getElem? (i := 16) rfl))) rfl rfl rfl ⟨rfl, by decide, by decide, by decide +kernel⟩ ⟨Nat.le_of_ble_eq_true rfl, Nat.le_of_ble_eq_true rfl⟩) rfl rfl (by decide) rfl hl.1 rfl (Nat.le_of_ble_eq_true rfl) dX14_make_129 (Nat.le_of_ble_eq_true rfl) (Nat.add_le_add_right (Nat.le_of_ble_eq_true rfl) _) (inv_tD hI121).1 (fun H locs v σ129 N hBn hX129 hP => ?_)
              clear hB; have hB := hBn; clear hBn
              obtain ⟨rfl, rfl⟩ := hP
              refine lv_iconst (v := 1) hx hb dX14_make_132 (by decide) ?_
              refine lv_isub hx hb dX14_make_133 ?_
              exact sg_iret F hB hrt dX14_make_134 (by decide) (by decide) (⟨_, 0, rfl, th121, Or.inr (Or.inr ⟨rfl, m_decN (inv_sz hI121).1 z3, ⟨(by first | exact Or.inl c3 | exact Or.inr (Or.inl c9) | exact Or.inr (Or.inr c15)), sgb_t hb21 c24, sgb_t hb30 c33, sgb_t hb41 c44, (by first | exact fun z => c63 z.1 | exact fun z => z.2 c67)⟩, hn16, _, ⟨(by exact hY), nH_N hH z2 (fun z => by have q : sgT σ q107 = 0 := hq107; rw [z, (inv_dv h (k := 0) z2).2.1] at q; exact absurd q (by decide))⟩, hI121⟩)⟩)
            · refine lv_iconst (v := 2) hx hb dX14_make_86 (by decide) ?_
              refine lv_goto (tgt := 91) hx hb dX14_make_87 (by decide) ?_
              refine pf_X14_61 F hB dX14_make_91 (inv_A h) (fun H locs hBn => ?_)
              clear hB; have hB := hBn; clear hBn
              have hI91 := inv_PIc (t := 20) hB h (inv_A h) (by unfold iCn; omega)
              refine lv_aload_n hx hb dX14_make_94 rfl (lv_at hl 1 rfl) ?_
              refine gf_X14_61 F hB dX14_make_95 (inv_A hI91) ?_
              rw [sgI_PI, if_pos ⟨rfl, rfl⟩]
              refine lv_if_le (tgt := 103) hx hb dX14_make_98 (by decide) (fun c98 => (by first | exact absurd c98 (by decide) | exact (c98 (by decide)).elim)) (fun c98 => ?_)
              refine lv_iconst (v := 0) hx hb dX14_make_101 (by decide) ?_
              exact sg_iret F hB hrt dX14_make_102 (by decide) (by decide) (by first | exact ⟨_, 1, rfl, (by rw [sgI_PI, if_pos ⟨rfl, rfl⟩]), Or.inl ⟨rfl, rfl, (by first | exact fun z => z.1.elim c3 (fun q => q.elim c9 c15) | exact fun z => (sgb_f hb21 c24) z.2.1 | exact fun z => (sgb_f hb30 c33) z.2.2.1 | exact fun z => (sgb_f hb41 c44) z.2.2.2.1 | exact fun z => z.2.2.2.2 ⟨c63, c67⟩), hI91⟩⟩ | exact ⟨_, 2, rfl, (by rw [sgI_PI, if_pos ⟨rfl, rfl⟩]), Or.inr (Or.inl ⟨rfl, rfl, ⟨(by first | exact Or.inl c3 | exact Or.inr (Or.inl c9) | exact Or.inr (Or.inr c15)), sgb_t hb21 c24, sgb_t hb30 c33, sgb_t hb41 c44, (by first | exact fun z => c63 z.1 | exact fun z => z.2 c67)⟩, (by have e16 : (16 : Int32).toInt = 16 := rfl; rw [c83] at z1; omega), hI91⟩)⟩)
          · refine lv_iload_n hx hb dX14_make_66 rfl (lv_at hl 3 rfl) ?_
            refine lv_if_le (tgt := 74) hx hb dX14_make_67 (by decide) (fun c67 => ?_) (fun c67 => ?_)
            · refine lv_aload_n hx hb dX14_make_74 rfl (lv_at hl 1 rfl) ?_
              refine gr_X14_10 F hB dX14_make_75 (inv_A h) (inv_r1 h) ?_
              refine sg_callV (ci := 4) F hB (m_size l D cy (by exact (inv_tD h).1) _) (cwV 0 F.1.2.2.2.2 (mgV (mm_3 _ (List.mem_of_getElem? (i := 18) rfl)) (mm_3 _ (List.mem_of_getElem? (i := 19) rfl)) (mm_3 _ (List.mem_of_getElem? (i := 20) rfl)) (mm_0 _ (List.mem_of_getElem? (i := 35) rfl)) (mm_3 _ (List.mem_of_getElem? (i := 16) rfl))) rfl rfl rfl ⟨rfl, by decide, by decide, by decide +kernel⟩ ⟨Nat.le_of_ble_eq_true rfl, Nat.le_of_ble_eq_true rfl⟩) rfl rfl (by decide) rfl hl.1 rfl (Nat.le_of_ble_eq_true rfl) dX14_make_78 (Nat.le_of_ble_eq_true rfl) (Nat.add_le_add_right (Nat.le_of_ble_eq_true rfl) _) (inv_tD h).1 (fun H locs v σ78 N hBn hX78 hP => ?_)
              clear hB; have hB := hBn; clear hBn
              obtain ⟨rfl, rfl⟩ := hP
              refine lv_bipush (v := 16) hx hb dX14_make_81 (by decide) ?_
              refine lv_icmp_ne (tgt := 90) hx hb dX14_make_83 (by decide) (fun c83 => ?_) (fun c83 => ?_)
              · refine lv_iconst (v := 0) hx hb dX14_make_90 (by decide) ?_
                refine pf_X14_61 F hB dX14_make_91 (inv_A h) (fun H locs hBn => ?_)
                clear hB; have hB := hBn; clear hBn
                have hI91 := inv_PIc (t := 20) hB h (inv_A h) (by unfold iCn; omega)
                refine lv_aload_n hx hb dX14_make_94 rfl (lv_at hl 1 rfl) ?_
                refine gf_X14_61 F hB dX14_make_95 (inv_A hI91) ?_
                rw [sgI_PI, if_pos ⟨rfl, rfl⟩]
                refine lv_if_le (tgt := 103) hx hb dX14_make_98 (by decide) (fun c98 => ?_) (fun c98 => (by first | exact absurd c98 (by decide) | exact (c98 (by decide)).elim))
                refine lv_aload_n hx hb dX14_make_103 rfl (lv_at hl 1 rfl) ?_
                refine gr_X14_10 F hB dX14_make_104 (inv_A hI91) (inv_r1 hI91) ?_
                refine sg_new (C := RX10) (T := TX10) (N0 := 16) (ci := 15) (ty0 := tyX10) F hB (fun w h => List.mem_cons_of_mem _ (mmu_X10 w h)) tyX10_ok (F.1.2.2.2.2 _ (List.mem_cons_of_mem _ (mm_3 _ (List.mem_of_getElem? (i := 3) rfl)))) (F.1.2.2.2.2 _ (List.mem_cons_of_mem _ (mm_3 _ (List.mem_of_getElem? (i := 4) rfl)))) (F.1.2.2.2.2 _ (List.mem_cons_of_mem _ (mm_3 _ (List.mem_of_getElem? (i := 5) rfl)))) rfl (by decide) (by decide +kernel) (Nat.le_of_ble_eq_true rfl) (Nat.add_le_add_right (Nat.le_of_ble_eq_true rfl) _) dX14_make_107 (fun q107 H N hq107 hs107 hBn => ?_)
                clear hB; have hB := hBn; clear hBn
                refine lv_dup hx hb dX14_make_110 rfl ?_
                refine lv_iload_n hx hb dX14_make_111 rfl (lv_at hl 2 rfl) ?_
                refine lv_iload_n hx hb dX14_make_112 rfl (lv_at hl 3 rfl) ?_
                refine lv_iload_n hx hb dX14_make_113 rfl (lv_at hl 4 rfl) ?_
                refine lv_iload hx hb dX14_make_114 (lv_at hl 5 rfl) ?_
                refine lv_iload hx hb dX14_make_116 (lv_at hl 6 rfl) ?_
                refine sg_callI F hB (m_dvI l D cy (show sgT (sgNw _ q107 16 0) q107 = 16 from by rw [sgNw_T, if_pos rfl]) sp po pw ow ki hsp how _) (cwI 5 F.1.2.2.2.2 (mgN (mm_0 _ (List.mem_of_getElem? (i := 0) rfl))) rfl rfl rfl (F.1.2.2.2.2 _ (List.mem_cons_of_mem _ (mm_3 _ (List.mem_of_getElem? (i := 5) rfl)))) (F.1.2.2.2.2 _ (List.mem_cons_of_mem _ (mm_3 _ (List.mem_of_getElem? (i := 7) rfl)))) (F.1.2.2.2.2 _ (List.mem_cons_of_mem _ (mm_3 _ (List.mem_of_getElem? (i := 8) rfl)))) rfl ⟨by decide, by decide, by decide +kernel⟩ ⟨Nat.le_of_ble_eq_true rfl, Nat.le_of_ble_eq_true rfl⟩) rfl hl.1 rfl (Nat.le_of_ble_eq_true rfl) dX14_make_118 (Nat.le_of_ble_eq_true rfl) (Nat.add_le_add_right (Nat.le_of_ble_eq_true rfl) _)  (fun H locs v σ118 N hBn hX118 hP => ?_)
                clear hB; have hB := hBn; clear hBn
                obtain ⟨rfl, e9, f9, h9, he, hf, hh, rfl⟩ := hP
                obtain ⟨hI118, hO118, td118, h7_118, h6_118⟩ := inv_dvN hI91 hq107 (by exact he) (by exact hf) (by exact hh) (by exact sg_eda F hB)
                have hE118 := dv_iEl hI118 td118
                have hn16 := m_n16 z1 z3 c83
                obtain ⟨ra121, za121, zb121⟩ := (inv_LS hI118).1 _ (inv_tD hI118).1 id
                refine sg_callV (ci := 4) F hB (m_add l D cy (by exact za121) (fun j y h1 h2 => (inv_LS hI118).2.2.1 ra121 j y h1 h2) q107 (iEl_K (l0 := _) (g := gN g n q107 e9) (j := sgSz _ (kD K)) (by exact hE118)) zb121 _) (cwV 1 F.1.2.2.2.2 (mgV (mm_3 _ (List.mem_of_getElem? (i := 9) rfl)) (mm_3 _ (List.mem_of_getElem? (i := 10) rfl)) (mm_3 _ (List.mem_of_getElem? (i := 11) rfl)) (mm_0 _ (List.mem_of_getElem? (i := 35) rfl)) (mm_2 _ (List.mem_of_getElem? (i := 29) rfl))) rfl rfl rfl ⟨rfl, by decide, by decide, by decide +kernel⟩ ⟨Nat.le_of_ble_eq_true rfl, Nat.le_of_ble_eq_true rfl⟩) rfl rfl (by decide) rfl hl.1 rfl (Nat.le_of_ble_eq_true rfl) dX14_make_121 (Nat.le_of_ble_eq_true rfl) (Nat.add_le_add_right (Nat.le_of_ble_eq_true rfl) _) (by exact (inv_tD hI118).1) (fun H locs v σ121 N hBn hX121 hP => ?_)
                clear hB; have hB := hBn; clear hBn
                obtain ⟨rfl, hAd121⟩ := hP
                obtain ⟨hI121, ada121, adb121, adc121, add121, ade121, adf121, adg121, adh121⟩ := inv_ad (n2 := n + 1) hI118 (inv_tD hI118).1 za121 hAd121 (sg_eda F hB) hE118 (by rw [(inv_tD hI118).2, (inv_M hI118).2.1.1]; show _ ≤ 16; omega) (Or.inr ⟨rfl, by rw [(inv_M hI118).2.1.1], Nat.le_succ _, fun σ3 hI => iR_dvN hI118 (if_pos rfl) td118 h7_118 h6_118 hI⟩) (nr7 (inv_tD hI118).2 (by decide))
                have th121 := (adf121 (kA K) 0 (by rw [inv_A hI118]; decide) (by rw [inv_A hI118]; decide)).trans (((hO118 (kA K) (by rw [inv_A hI91]; decide)).2.2 0).1.trans (show sgI (sgPI σ (kA K) 0 0) (kA K) 0 = 0 from by rw [sgI_PI, if_pos ⟨rfl, rfl⟩]))
                refine lv_pop hx hb dX14_make_124 rfl ?_
                refine lv_aload_n hx hb dX14_make_125 rfl (lv_at hl 1 rfl) ?_
                refine gr_X14_10 F hB dX14_make_126 (inv_A hI121) (inv_r1 hI121) ?_
                refine sg_callV (ci := 4) F hB (m_size l D cy (by exact (inv_tD hI121).1) _) (cwV 0 F.1.2.2.2.2 (mgV (mm_3 _ (List.mem_of_getElem? (i := 18) rfl)) (mm_3 _ (List.mem_of_getElem? (i := 19) rfl)) (mm_3 _ (List.mem_of_getElem? (i := 20) rfl)) (mm_0 _ (List.mem_of_getElem? (i := 35) rfl)) (mm_3 _ (List.mem_of_getElem? (i := 16) rfl))) rfl rfl rfl ⟨rfl, by decide, by decide, by decide +kernel⟩ ⟨Nat.le_of_ble_eq_true rfl, Nat.le_of_ble_eq_true rfl⟩) rfl rfl (by decide) rfl hl.1 rfl (Nat.le_of_ble_eq_true rfl) dX14_make_129 (Nat.le_of_ble_eq_true rfl) (Nat.add_le_add_right (Nat.le_of_ble_eq_true rfl) _) (inv_tD hI121).1 (fun H locs v σ129 N hBn hX129 hP => ?_)
                clear hB; have hB := hBn; clear hBn
                obtain ⟨rfl, rfl⟩ := hP
                refine lv_iconst (v := 1) hx hb dX14_make_132 (by decide) ?_
                refine lv_isub hx hb dX14_make_133 ?_
                exact sg_iret F hB hrt dX14_make_134 (by decide) (by decide) (⟨_, 0, rfl, th121, Or.inr (Or.inr ⟨rfl, m_decN (inv_sz hI121).1 z3, ⟨(by first | exact Or.inl c3 | exact Or.inr (Or.inl c9) | exact Or.inr (Or.inr c15)), sgb_t hb21 c24, sgb_t hb30 c33, sgb_t hb41 c44, (by first | exact fun z => c63 z.1 | exact fun z => z.2 c67)⟩, hn16, _, ⟨(by exact hY), nH_N hH z2 (fun z => by have q : sgT σ q107 = 0 := hq107; rw [z, (inv_dv h (k := 0) z2).2.1] at q; exact absurd q (by decide))⟩, hI121⟩)⟩)
              · refine lv_iconst (v := 2) hx hb dX14_make_86 (by decide) ?_
                refine lv_goto (tgt := 91) hx hb dX14_make_87 (by decide) ?_
                refine pf_X14_61 F hB dX14_make_91 (inv_A h) (fun H locs hBn => ?_)
                clear hB; have hB := hBn; clear hBn
                have hI91 := inv_PIc (t := 20) hB h (inv_A h) (by unfold iCn; omega)
                refine lv_aload_n hx hb dX14_make_94 rfl (lv_at hl 1 rfl) ?_
                refine gf_X14_61 F hB dX14_make_95 (inv_A hI91) ?_
                rw [sgI_PI, if_pos ⟨rfl, rfl⟩]
                refine lv_if_le (tgt := 103) hx hb dX14_make_98 (by decide) (fun c98 => (by first | exact absurd c98 (by decide) | exact (c98 (by decide)).elim)) (fun c98 => ?_)
                refine lv_iconst (v := 0) hx hb dX14_make_101 (by decide) ?_
                exact sg_iret F hB hrt dX14_make_102 (by decide) (by decide) (by first | exact ⟨_, 1, rfl, (by rw [sgI_PI, if_pos ⟨rfl, rfl⟩]), Or.inl ⟨rfl, rfl, (by first | exact fun z => z.1.elim c3 (fun q => q.elim c9 c15) | exact fun z => (sgb_f hb21 c24) z.2.1 | exact fun z => (sgb_f hb30 c33) z.2.2.1 | exact fun z => (sgb_f hb41 c44) z.2.2.2.1 | exact fun z => z.2.2.2.2 ⟨c63, c67⟩), hI91⟩⟩ | exact ⟨_, 2, rfl, (by rw [sgI_PI, if_pos ⟨rfl, rfl⟩]), Or.inr (Or.inl ⟨rfl, rfl, ⟨(by first | exact Or.inl c3 | exact Or.inr (Or.inl c9) | exact Or.inr (Or.inr c15)), sgb_t hb21 c24, sgb_t hb30 c33, sgb_t hb41 c44, (by first | exact fun z => c63 z.1 | exact fun z => z.2 c67)⟩, (by have e16 : (16 : Int32).toInt = 16 := rfl; rw [c83] at z1; omega), hI91⟩)⟩)
            · refine lv_iconst (v := 1) hx hb dX14_make_70 (by decide) ?_
              refine lv_goto (tgt := 91) hx hb dX14_make_71 (by decide) ?_
              refine pf_X14_61 F hB dX14_make_91 (inv_A h) (fun H locs hBn => ?_)
              clear hB; have hB := hBn; clear hBn
              have hI91 := inv_PIc (t := 20) hB h (inv_A h) (by unfold iCn; omega)
              refine lv_aload_n hx hb dX14_make_94 rfl (lv_at hl 1 rfl) ?_
              refine gf_X14_61 F hB dX14_make_95 (inv_A hI91) ?_
              rw [sgI_PI, if_pos ⟨rfl, rfl⟩]
              refine lv_if_le (tgt := 103) hx hb dX14_make_98 (by decide) (fun c98 => (by first | exact absurd c98 (by decide) | exact (c98 (by decide)).elim)) (fun c98 => ?_)
              refine lv_iconst (v := 0) hx hb dX14_make_101 (by decide) ?_
              exact sg_iret F hB hrt dX14_make_102 (by decide) (by decide) (by first | exact ⟨_, 1, rfl, (by rw [sgI_PI, if_pos ⟨rfl, rfl⟩]), Or.inl ⟨rfl, rfl, (by first | exact fun z => z.1.elim c3 (fun q => q.elim c9 c15) | exact fun z => (sgb_f hb21 c24) z.2.1 | exact fun z => (sgb_f hb30 c33) z.2.2.1 | exact fun z => (sgb_f hb41 c44) z.2.2.2.1 | exact fun z => z.2.2.2.2 ⟨c63, c67⟩), hI91⟩⟩ | exact ⟨_, 2, rfl, (by rw [sgI_PI, if_pos ⟨rfl, rfl⟩]), Or.inr (Or.inl ⟨rfl, rfl, ⟨(by first | exact Or.inl c3 | exact Or.inr (Or.inl c9) | exact Or.inr (Or.inr c15)), sgb_t hb21 c24, sgb_t hb30 c33, sgb_t hb41 c44, (by first | exact fun z => c63 z.1 | exact fun z => z.2 c67)⟩, (by have e16 : (16 : Int32).toInt = 16 := rfl; rw [c83] at z1; omega), hI91⟩)⟩)
  · refine lv_iload_n hx hb dX14_make_6 rfl (lv_at hl 1 rfl) ?_
    refine lv_bipush (v := 102) hx hb dX14_make_7 (by decide) ?_
    refine lv_icmp_eq (tgt := 18) hx hb dX14_make_9 (by decide) (fun c9 => ?_) (fun c9 => ?_)
    · refine lv_iload_n hx hb dX14_make_18 rfl (lv_at hl 2 rfl) ?_
      refine lv_iconst (v := 0) hx hb dX14_make_19 (by decide) ?_
      refine lv_iconst (v := 4) hx hb dX14_make_20 (by decide) ?_
      refine sg_callS F hB (m_in l D cy po 0 4 _) (cwS 3 F.1.2.2.2.2 (mgS (mm_3 _ (List.mem_of_getElem? (i := 21) rfl)) (mm_3 _ (List.mem_of_getElem? (i := 22) rfl)) (mm_3 _ (List.mem_of_getElem? (i := 23) rfl)) (mm_1 _ (List.mem_of_getElem? (i := 19) rfl))) rfl rfl rfl ⟨rfl, by decide, by decide, by decide +kernel⟩ ⟨Nat.le_of_ble_eq_true rfl, Nat.le_of_ble_eq_true rfl⟩) rfl hl.1 rfl (Nat.le_of_ble_eq_true rfl) dX14_make_21 (Nat.le_of_ble_eq_true rfl) (Nat.add_le_add_right (Nat.le_of_ble_eq_true rfl) _)  (fun H locs v σ21 N hBn hX21 hP => ?_)
      clear hB; have hB := hBn; clear hBn
      obtain ⟨b21, rfl, rfl, hb21⟩ := hP
      refine lv_if_eq (tgt := 51) hx hb dX14_make_24 (by decide) (fun c24 => ?_) (fun c24 => ?_)
      · refine lv_iconst (v := 0) hx hb dX14_make_51 (by decide) ?_
        refine lv_istore (lv' := [(6, .int _), (0, .ref _), (1, .int _), (2, .int _), (3, .int _), (4, .int _), (5, .int _)]) hx hb dX14_make_52 hl (by decide) rfl (fun ls hl => ?_)
        refine lv_aload_n hx hb dX14_make_54 rfl (lv_at hl 1 rfl) ?_
        refine lv_iload hx hb dX14_make_55 (lv_at hl 0 rfl) ?_
        refine lv_if_eq (tgt := 70) hx hb dX14_make_57 (by decide) (fun c57 => ?_) (fun c57 => (by first | exact absurd c57 (by decide) | exact (c57 (by decide)).elim))
        refine lv_iconst (v := 1) hx hb dX14_make_70 (by decide) ?_
        refine lv_goto (tgt := 91) hx hb dX14_make_71 (by decide) ?_
        refine pf_X14_61 F hB dX14_make_91 (inv_A h) (fun H locs hBn => ?_)
        clear hB; have hB := hBn; clear hBn
        have hI91 := inv_PIc (t := 20) hB h (inv_A h) (by unfold iCn; omega)
        refine lv_aload_n hx hb dX14_make_94 rfl (lv_at hl 1 rfl) ?_
        refine gf_X14_61 F hB dX14_make_95 (inv_A hI91) ?_
        rw [sgI_PI, if_pos ⟨rfl, rfl⟩]
        refine lv_if_le (tgt := 103) hx hb dX14_make_98 (by decide) (fun c98 => (by first | exact absurd c98 (by decide) | exact (c98 (by decide)).elim)) (fun c98 => ?_)
        refine lv_iconst (v := 0) hx hb dX14_make_101 (by decide) ?_
        exact sg_iret F hB hrt dX14_make_102 (by decide) (by decide) (by first | exact ⟨_, 1, rfl, (by rw [sgI_PI, if_pos ⟨rfl, rfl⟩]), Or.inl ⟨rfl, rfl, (by first | exact fun z => z.1.elim c3 (fun q => q.elim c9 c15) | exact fun z => (sgb_f hb21 c24) z.2.1 | exact fun z => (sgb_f hb30 c33) z.2.2.1 | exact fun z => (sgb_f hb41 c44) z.2.2.2.1 | exact fun z => z.2.2.2.2 ⟨c63, c67⟩), hI91⟩⟩ | exact ⟨_, 2, rfl, (by rw [sgI_PI, if_pos ⟨rfl, rfl⟩]), Or.inr (Or.inl ⟨rfl, rfl, ⟨(by first | exact Or.inl c3 | exact Or.inr (Or.inl c9) | exact Or.inr (Or.inr c15)), sgb_t hb21 c24, sgb_t hb30 c33, sgb_t hb41 c44, (by first | exact fun z => c63 z.1 | exact fun z => z.2 c67)⟩, (by have e16 : (16 : Int32).toInt = 16 := rfl; rw [c83] at z1; omega), hI91⟩)⟩)
      · refine lv_iload_n hx hb dX14_make_27 rfl (lv_at hl 3 rfl) ?_
        refine lv_iconst (v := 1) hx hb dX14_make_28 (by decide) ?_
        refine lv_iconst (v := 5) hx hb dX14_make_29 (by decide) ?_
        refine sg_callS F hB (m_in l D cy pw 1 5 _) (cwS 3 F.1.2.2.2.2 (mgS (mm_3 _ (List.mem_of_getElem? (i := 21) rfl)) (mm_3 _ (List.mem_of_getElem? (i := 22) rfl)) (mm_3 _ (List.mem_of_getElem? (i := 23) rfl)) (mm_1 _ (List.mem_of_getElem? (i := 19) rfl))) rfl rfl rfl ⟨rfl, by decide, by decide, by decide +kernel⟩ ⟨Nat.le_of_ble_eq_true rfl, Nat.le_of_ble_eq_true rfl⟩) rfl hl.1 rfl (Nat.le_of_ble_eq_true rfl) dX14_make_30 (Nat.le_of_ble_eq_true rfl) (Nat.add_le_add_right (Nat.le_of_ble_eq_true rfl) _)  (fun H locs v σ30 N hBn hX30 hP => ?_)
        clear hB; have hB := hBn; clear hBn
        obtain ⟨b30, rfl, rfl, hb30⟩ := hP
        refine lv_if_eq (tgt := 51) hx hb dX14_make_33 (by decide) (fun c33 => ?_) (fun c33 => ?_)
        · refine lv_iconst (v := 0) hx hb dX14_make_51 (by decide) ?_
          refine lv_istore (lv' := [(6, .int _), (0, .ref _), (1, .int _), (2, .int _), (3, .int _), (4, .int _), (5, .int _)]) hx hb dX14_make_52 hl (by decide) rfl (fun ls hl => ?_)
          refine lv_aload_n hx hb dX14_make_54 rfl (lv_at hl 1 rfl) ?_
          refine lv_iload hx hb dX14_make_55 (lv_at hl 0 rfl) ?_
          refine lv_if_eq (tgt := 70) hx hb dX14_make_57 (by decide) (fun c57 => ?_) (fun c57 => (by first | exact absurd c57 (by decide) | exact (c57 (by decide)).elim))
          refine lv_iconst (v := 1) hx hb dX14_make_70 (by decide) ?_
          refine lv_goto (tgt := 91) hx hb dX14_make_71 (by decide) ?_
          refine pf_X14_61 F hB dX14_make_91 (inv_A h) (fun H locs hBn => ?_)
          clear hB; have hB := hBn; clear hBn
          have hI91 := inv_PIc (t := 20) hB h (inv_A h) (by unfold iCn; omega)
          refine lv_aload_n hx hb dX14_make_94 rfl (lv_at hl 1 rfl) ?_
          refine gf_X14_61 F hB dX14_make_95 (inv_A hI91) ?_
          rw [sgI_PI, if_pos ⟨rfl, rfl⟩]
          refine lv_if_le (tgt := 103) hx hb dX14_make_98 (by decide) (fun c98 => (by first | exact absurd c98 (by decide) | exact (c98 (by decide)).elim)) (fun c98 => ?_)
          refine lv_iconst (v := 0) hx hb dX14_make_101 (by decide) ?_
          exact sg_iret F hB hrt dX14_make_102 (by decide) (by decide) (by first | exact ⟨_, 1, rfl, (by rw [sgI_PI, if_pos ⟨rfl, rfl⟩]), Or.inl ⟨rfl, rfl, (by first | exact fun z => z.1.elim c3 (fun q => q.elim c9 c15) | exact fun z => (sgb_f hb21 c24) z.2.1 | exact fun z => (sgb_f hb30 c33) z.2.2.1 | exact fun z => (sgb_f hb41 c44) z.2.2.2.1 | exact fun z => z.2.2.2.2 ⟨c63, c67⟩), hI91⟩⟩ | exact ⟨_, 2, rfl, (by rw [sgI_PI, if_pos ⟨rfl, rfl⟩]), Or.inr (Or.inl ⟨rfl, rfl, ⟨(by first | exact Or.inl c3 | exact Or.inr (Or.inl c9) | exact Or.inr (Or.inr c15)), sgb_t hb21 c24, sgb_t hb30 c33, sgb_t hb41 c44, (by first | exact fun z => c63 z.1 | exact fun z => z.2 c67)⟩, (by have e16 : (16 : Int32).toInt = 16 := rfl; rw [c83] at z1; omega), hI91⟩)⟩)
        · refine lv_iload hx hb dX14_make_36 (lv_at hl 5 rfl) ?_
          refine lv_iconst (v := 0) hx hb dX14_make_38 (by decide) ?_
          refine lv_bipush (v := 99) hx hb dX14_make_39 (by decide) ?_
          refine sg_callS F hB (m_in l D cy ki 0 99 _) (cwS 3 F.1.2.2.2.2 (mgS (mm_3 _ (List.mem_of_getElem? (i := 21) rfl)) (mm_3 _ (List.mem_of_getElem? (i := 22) rfl)) (mm_3 _ (List.mem_of_getElem? (i := 23) rfl)) (mm_1 _ (List.mem_of_getElem? (i := 19) rfl))) rfl rfl rfl ⟨rfl, by decide, by decide, by decide +kernel⟩ ⟨Nat.le_of_ble_eq_true rfl, Nat.le_of_ble_eq_true rfl⟩) rfl hl.1 rfl (Nat.le_of_ble_eq_true rfl) dX14_make_41 (Nat.le_of_ble_eq_true rfl) (Nat.add_le_add_right (Nat.le_of_ble_eq_true rfl) _)  (fun H locs v σ41 N hBn hX41 hP => ?_)
          clear hB; have hB := hBn; clear hBn
          obtain ⟨b41, rfl, rfl, hb41⟩ := hP
          refine lv_if_eq (tgt := 51) hx hb dX14_make_44 (by decide) (fun c44 => ?_) (fun c44 => ?_)
          · refine lv_iconst (v := 0) hx hb dX14_make_51 (by decide) ?_
            refine lv_istore (lv' := [(6, .int _), (0, .ref _), (1, .int _), (2, .int _), (3, .int _), (4, .int _), (5, .int _)]) hx hb dX14_make_52 hl (by decide) rfl (fun ls hl => ?_)
            refine lv_aload_n hx hb dX14_make_54 rfl (lv_at hl 1 rfl) ?_
            refine lv_iload hx hb dX14_make_55 (lv_at hl 0 rfl) ?_
            refine lv_if_eq (tgt := 70) hx hb dX14_make_57 (by decide) (fun c57 => ?_) (fun c57 => (by first | exact absurd c57 (by decide) | exact (c57 (by decide)).elim))
            refine lv_iconst (v := 1) hx hb dX14_make_70 (by decide) ?_
            refine lv_goto (tgt := 91) hx hb dX14_make_71 (by decide) ?_
            refine pf_X14_61 F hB dX14_make_91 (inv_A h) (fun H locs hBn => ?_)
            clear hB; have hB := hBn; clear hBn
            have hI91 := inv_PIc (t := 20) hB h (inv_A h) (by unfold iCn; omega)
            refine lv_aload_n hx hb dX14_make_94 rfl (lv_at hl 1 rfl) ?_
            refine gf_X14_61 F hB dX14_make_95 (inv_A hI91) ?_
            rw [sgI_PI, if_pos ⟨rfl, rfl⟩]
            refine lv_if_le (tgt := 103) hx hb dX14_make_98 (by decide) (fun c98 => (by first | exact absurd c98 (by decide) | exact (c98 (by decide)).elim)) (fun c98 => ?_)
            refine lv_iconst (v := 0) hx hb dX14_make_101 (by decide) ?_
            exact sg_iret F hB hrt dX14_make_102 (by decide) (by decide) (by first | exact ⟨_, 1, rfl, (by rw [sgI_PI, if_pos ⟨rfl, rfl⟩]), Or.inl ⟨rfl, rfl, (by first | exact fun z => z.1.elim c3 (fun q => q.elim c9 c15) | exact fun z => (sgb_f hb21 c24) z.2.1 | exact fun z => (sgb_f hb30 c33) z.2.2.1 | exact fun z => (sgb_f hb41 c44) z.2.2.2.1 | exact fun z => z.2.2.2.2 ⟨c63, c67⟩), hI91⟩⟩ | exact ⟨_, 2, rfl, (by rw [sgI_PI, if_pos ⟨rfl, rfl⟩]), Or.inr (Or.inl ⟨rfl, rfl, ⟨(by first | exact Or.inl c3 | exact Or.inr (Or.inl c9) | exact Or.inr (Or.inr c15)), sgb_t hb21 c24, sgb_t hb30 c33, sgb_t hb41 c44, (by first | exact fun z => c63 z.1 | exact fun z => z.2 c67)⟩, (by have e16 : (16 : Int32).toInt = 16 := rfl; rw [c83] at z1; omega), hI91⟩)⟩)
          · refine lv_iconst (v := 1) hx hb dX14_make_47 (by decide) ?_
            refine lv_goto (tgt := 52) hx hb dX14_make_48 (by decide) ?_
            refine lv_istore (lv' := [(6, .int _), (0, .ref _), (1, .int _), (2, .int _), (3, .int _), (4, .int _), (5, .int _)]) hx hb dX14_make_52 hl (by decide) rfl (fun ls hl => ?_)
            refine lv_aload_n hx hb dX14_make_54 rfl (lv_at hl 1 rfl) ?_
            refine lv_iload hx hb dX14_make_55 (lv_at hl 0 rfl) ?_
            refine lv_if_eq (tgt := 70) hx hb dX14_make_57 (by decide) (fun c57 => (by first | exact absurd c57 (by decide) | exact (c57 (by decide)).elim)) (fun c57 => ?_)
            refine lv_iload_n hx hb dX14_make_60 rfl (lv_at hl 2 rfl) ?_
            refine lv_bipush (v := 108) hx hb dX14_make_61 (by decide) ?_
            refine lv_icmp_ne (tgt := 74) hx hb dX14_make_63 (by decide) (fun c63 => ?_) (fun c63 => ?_)
            · refine lv_aload_n hx hb dX14_make_74 rfl (lv_at hl 1 rfl) ?_
              refine gr_X14_10 F hB dX14_make_75 (inv_A h) (inv_r1 h) ?_
              refine sg_callV (ci := 4) F hB (m_size l D cy (by exact (inv_tD h).1) _) (cwV 0 F.1.2.2.2.2 (mgV (mm_3 _ (List.mem_of_getElem? (i := 18) rfl)) (mm_3 _ (List.mem_of_getElem? (i := 19) rfl)) (mm_3 _ (List.mem_of_getElem? (i := 20) rfl)) (mm_0 _ (List.mem_of_getElem? (i := 35) rfl)) (mm_3 _ (List.mem_of_getElem? (i := 16) rfl))) rfl rfl rfl ⟨rfl, by decide, by decide, by decide +kernel⟩ ⟨Nat.le_of_ble_eq_true rfl, Nat.le_of_ble_eq_true rfl⟩) rfl rfl (by decide) rfl hl.1 rfl (Nat.le_of_ble_eq_true rfl) dX14_make_78 (Nat.le_of_ble_eq_true rfl) (Nat.add_le_add_right (Nat.le_of_ble_eq_true rfl) _) (inv_tD h).1 (fun H locs v σ78 N hBn hX78 hP => ?_)
              clear hB; have hB := hBn; clear hBn
              obtain ⟨rfl, rfl⟩ := hP
              refine lv_bipush (v := 16) hx hb dX14_make_81 (by decide) ?_
              refine lv_icmp_ne (tgt := 90) hx hb dX14_make_83 (by decide) (fun c83 => ?_) (fun c83 => ?_)
              · refine lv_iconst (v := 0) hx hb dX14_make_90 (by decide) ?_
                refine pf_X14_61 F hB dX14_make_91 (inv_A h) (fun H locs hBn => ?_)
                clear hB; have hB := hBn; clear hBn
                have hI91 := inv_PIc (t := 20) hB h (inv_A h) (by unfold iCn; omega)
                refine lv_aload_n hx hb dX14_make_94 rfl (lv_at hl 1 rfl) ?_
                refine gf_X14_61 F hB dX14_make_95 (inv_A hI91) ?_
                rw [sgI_PI, if_pos ⟨rfl, rfl⟩]
                refine lv_if_le (tgt := 103) hx hb dX14_make_98 (by decide) (fun c98 => ?_) (fun c98 => (by first | exact absurd c98 (by decide) | exact (c98 (by decide)).elim))
                refine lv_aload_n hx hb dX14_make_103 rfl (lv_at hl 1 rfl) ?_
                refine gr_X14_10 F hB dX14_make_104 (inv_A hI91) (inv_r1 hI91) ?_
                refine sg_new (C := RX10) (T := TX10) (N0 := 16) (ci := 15) (ty0 := tyX10) F hB (fun w h => List.mem_cons_of_mem _ (mmu_X10 w h)) tyX10_ok (F.1.2.2.2.2 _ (List.mem_cons_of_mem _ (mm_3 _ (List.mem_of_getElem? (i := 3) rfl)))) (F.1.2.2.2.2 _ (List.mem_cons_of_mem _ (mm_3 _ (List.mem_of_getElem? (i := 4) rfl)))) (F.1.2.2.2.2 _ (List.mem_cons_of_mem _ (mm_3 _ (List.mem_of_getElem? (i := 5) rfl)))) rfl (by decide) (by decide +kernel) (Nat.le_of_ble_eq_true rfl) (Nat.add_le_add_right (Nat.le_of_ble_eq_true rfl) _) dX14_make_107 (fun q107 H N hq107 hs107 hBn => ?_)
                clear hB; have hB := hBn; clear hBn
                refine lv_dup hx hb dX14_make_110 rfl ?_
                refine lv_iload_n hx hb dX14_make_111 rfl (lv_at hl 2 rfl) ?_
                refine lv_iload_n hx hb dX14_make_112 rfl (lv_at hl 3 rfl) ?_
                refine lv_iload_n hx hb dX14_make_113 rfl (lv_at hl 4 rfl) ?_
                refine lv_iload hx hb dX14_make_114 (lv_at hl 5 rfl) ?_
                refine lv_iload hx hb dX14_make_116 (lv_at hl 6 rfl) ?_
                refine sg_callI F hB (m_dvI l D cy (show sgT (sgNw _ q107 16 0) q107 = 16 from by rw [sgNw_T, if_pos rfl]) sp po pw ow ki hsp how _) (cwI 5 F.1.2.2.2.2 (mgN (mm_0 _ (List.mem_of_getElem? (i := 0) rfl))) rfl rfl rfl (F.1.2.2.2.2 _ (List.mem_cons_of_mem _ (mm_3 _ (List.mem_of_getElem? (i := 5) rfl)))) (F.1.2.2.2.2 _ (List.mem_cons_of_mem _ (mm_3 _ (List.mem_of_getElem? (i := 7) rfl)))) (F.1.2.2.2.2 _ (List.mem_cons_of_mem _ (mm_3 _ (List.mem_of_getElem? (i := 8) rfl)))) rfl ⟨by decide, by decide, by decide +kernel⟩ ⟨Nat.le_of_ble_eq_true rfl, Nat.le_of_ble_eq_true rfl⟩) rfl hl.1 rfl (Nat.le_of_ble_eq_true rfl) dX14_make_118 (Nat.le_of_ble_eq_true rfl) (Nat.add_le_add_right (Nat.le_of_ble_eq_true rfl) _)  (fun H locs v σ118 N hBn hX118 hP => ?_)
                clear hB; have hB := hBn; clear hBn
                obtain ⟨rfl, e9, f9, h9, he, hf, hh, rfl⟩ := hP
                obtain ⟨hI118, hO118, td118, h7_118, h6_118⟩ := inv_dvN hI91 hq107 (by exact he) (by exact hf) (by exact hh) (by exact sg_eda F hB)
                have hE118 := dv_iEl hI118 td118
                have hn16 := m_n16 z1 z3 c83
                obtain ⟨ra121, za121, zb121⟩ := (inv_LS hI118).1 _ (inv_tD hI118).1 id
                refine sg_callV (ci := 4) F hB (m_add l D cy (by exact za121) (fun j y h1 h2 => (inv_LS hI118).2.2.1 ra121 j y h1 h2) q107 (iEl_K (l0 := _) (g := gN g n q107 e9) (j := sgSz _ (kD K)) (by exact hE118)) zb121 _) (cwV 1 F.1.2.2.2.2 (mgV (mm_3 _ (List.mem_of_getElem? (i := 9) rfl)) (mm_3 _ (List.mem_of_getElem? (i := 10) rfl)) (mm_3 _ (List.mem_of_getElem? (i := 11) rfl)) (mm_0 _ (List.mem_of_getElem? (i := 35) rfl)) (mm_2 _ (List.mem_of_getElem? (i := 29) rfl))) rfl rfl rfl ⟨rfl, by decide, by decide, by decide +kernel⟩ ⟨Nat.le_of_ble_eq_true rfl, Nat.le_of_ble_eq_true rfl⟩) rfl rfl (by decide) rfl hl.1 rfl (Nat.le_of_ble_eq_true rfl) dX14_make_121 (Nat.le_of_ble_eq_true rfl) (Nat.add_le_add_right (Nat.le_of_ble_eq_true rfl) _) (by exact (inv_tD hI118).1) (fun H locs v σ121 N hBn hX121 hP => ?_)
                clear hB; have hB := hBn; clear hBn
                obtain ⟨rfl, hAd121⟩ := hP
                obtain ⟨hI121, ada121, adb121, adc121, add121, ade121, adf121, adg121, adh121⟩ := inv_ad (n2 := n + 1) hI118 (inv_tD hI118).1 za121 hAd121 (sg_eda F hB) hE118 (by rw [(inv_tD hI118).2, (inv_M hI118).2.1.1]; show _ ≤ 16; omega) (Or.inr ⟨rfl, by rw [(inv_M hI118).2.1.1], Nat.le_succ _, fun σ3 hI => iR_dvN hI118 (if_pos rfl) td118 h7_118 h6_118 hI⟩) (nr7 (inv_tD hI118).2 (by decide))
                have th121 := (adf121 (kA K) 0 (by rw [inv_A hI118]; decide) (by rw [inv_A hI118]; decide)).trans (((hO118 (kA K) (by rw [inv_A hI91]; decide)).2.2 0).1.trans (show sgI (sgPI σ (kA K) 0 0) (kA K) 0 = 0 from by rw [sgI_PI, if_pos ⟨rfl, rfl⟩]))
                refine lv_pop hx hb dX14_make_124 rfl ?_
                refine lv_aload_n hx hb dX14_make_125 rfl (lv_at hl 1 rfl) ?_
                refine gr_X14_10 F hB dX14_make_126 (inv_A hI121) (inv_r1 hI121) ?_
                refine sg_callV (ci := 4) F hB (m_size l D cy (by exact (inv_tD hI121).1) _) (cwV 0 F.1.2.2.2.2 (mgV (mm_3 _ (List.mem_of_getElem? (i := 18) rfl)) (mm_3 _ (List.mem_of_getElem? (i := 19) rfl)) (mm_3 _ (List.mem_of_getElem? (i := 20) rfl)) (mm_0 _ (List.mem_of_getElem? (i := 35) rfl)) (mm_3 _ (List.mem_of_getElem? (i := 16) rfl))) rfl rfl rfl ⟨rfl, by decide, by decide, by decide +kernel⟩ ⟨Nat.le_of_ble_eq_true rfl, Nat.le_of_ble_eq_true rfl⟩) rfl rfl (by decide) rfl hl.1 rfl (Nat.le_of_ble_eq_true rfl) dX14_make_129 (Nat.le_of_ble_eq_true rfl) (Nat.add_le_add_right (Nat.le_of_ble_eq_true rfl) _) (inv_tD hI121).1 (fun H locs v σ129 N hBn hX129 hP => ?_)
                clear hB; have hB := hBn; clear hBn
                obtain ⟨rfl, rfl⟩ := hP
                refine lv_iconst (v := 1) hx hb dX14_make_132 (by decide) ?_
                refine lv_isub hx hb dX14_make_133 ?_
                exact sg_iret F hB hrt dX14_make_134 (by decide) (by decide) (⟨_, 0, rfl, th121, Or.inr (Or.inr ⟨rfl, m_decN (inv_sz hI121).1 z3, ⟨(by first | exact Or.inl c3 | exact Or.inr (Or.inl c9) | exact Or.inr (Or.inr c15)), sgb_t hb21 c24, sgb_t hb30 c33, sgb_t hb41 c44, (by first | exact fun z => c63 z.1 | exact fun z => z.2 c67)⟩, hn16, _, ⟨(by exact hY), nH_N hH z2 (fun z => by have q : sgT σ q107 = 0 := hq107; rw [z, (inv_dv h (k := 0) z2).2.1] at q; exact absurd q (by decide))⟩, hI121⟩)⟩)
              · refine lv_iconst (v := 2) hx hb dX14_make_86 (by decide) ?_
                refine lv_goto (tgt := 91) hx hb dX14_make_87 (by decide) ?_
                refine pf_X14_61 F hB dX14_make_91 (inv_A h) (fun H locs hBn => ?_)
                clear hB; have hB := hBn; clear hBn
                have hI91 := inv_PIc (t := 20) hB h (inv_A h) (by unfold iCn; omega)
                refine lv_aload_n hx hb dX14_make_94 rfl (lv_at hl 1 rfl) ?_
                refine gf_X14_61 F hB dX14_make_95 (inv_A hI91) ?_
                rw [sgI_PI, if_pos ⟨rfl, rfl⟩]
                refine lv_if_le (tgt := 103) hx hb dX14_make_98 (by decide) (fun c98 => (by first | exact absurd c98 (by decide) | exact (c98 (by decide)).elim)) (fun c98 => ?_)
                refine lv_iconst (v := 0) hx hb dX14_make_101 (by decide) ?_
                exact sg_iret F hB hrt dX14_make_102 (by decide) (by decide) (by first | exact ⟨_, 1, rfl, (by rw [sgI_PI, if_pos ⟨rfl, rfl⟩]), Or.inl ⟨rfl, rfl, (by first | exact fun z => z.1.elim c3 (fun q => q.elim c9 c15) | exact fun z => (sgb_f hb21 c24) z.2.1 | exact fun z => (sgb_f hb30 c33) z.2.2.1 | exact fun z => (sgb_f hb41 c44) z.2.2.2.1 | exact fun z => z.2.2.2.2 ⟨c63, c67⟩), hI91⟩⟩ | exact ⟨_, 2, rfl, (by rw [sgI_PI, if_pos ⟨rfl, rfl⟩]), Or.inr (Or.inl ⟨rfl, rfl, ⟨(by first | exact Or.inl c3 | exact Or.inr (Or.inl c9) | exact Or.inr (Or.inr c15)), sgb_t hb21 c24, sgb_t hb30 c33, sgb_t hb41 c44, (by first | exact fun z => c63 z.1 | exact fun z => z.2 c67)⟩, (by have e16 : (16 : Int32).toInt = 16 := rfl; rw [c83] at z1; omega), hI91⟩)⟩)
            · refine lv_iload_n hx hb dX14_make_66 rfl (lv_at hl 3 rfl) ?_
              refine lv_if_le (tgt := 74) hx hb dX14_make_67 (by decide) (fun c67 => ?_) (fun c67 => ?_)
              · refine lv_aload_n hx hb dX14_make_74 rfl (lv_at hl 1 rfl) ?_
                refine gr_X14_10 F hB dX14_make_75 (inv_A h) (inv_r1 h) ?_
                refine sg_callV (ci := 4) F hB (m_size l D cy (by exact (inv_tD h).1) _) (cwV 0 F.1.2.2.2.2 (mgV (mm_3 _ (List.mem_of_getElem? (i := 18) rfl)) (mm_3 _ (List.mem_of_getElem? (i := 19) rfl)) (mm_3 _ (List.mem_of_getElem? (i := 20) rfl)) (mm_0 _ (List.mem_of_getElem? (i := 35) rfl)) (mm_3 _ (List.mem_of_getElem? (i := 16) rfl))) rfl rfl rfl ⟨rfl, by decide, by decide, by decide +kernel⟩ ⟨Nat.le_of_ble_eq_true rfl, Nat.le_of_ble_eq_true rfl⟩) rfl rfl (by decide) rfl hl.1 rfl (Nat.le_of_ble_eq_true rfl) dX14_make_78 (Nat.le_of_ble_eq_true rfl) (Nat.add_le_add_right (Nat.le_of_ble_eq_true rfl) _) (inv_tD h).1 (fun H locs v σ78 N hBn hX78 hP => ?_)
                clear hB; have hB := hBn; clear hBn
                obtain ⟨rfl, rfl⟩ := hP
                refine lv_bipush (v := 16) hx hb dX14_make_81 (by decide) ?_
                refine lv_icmp_ne (tgt := 90) hx hb dX14_make_83 (by decide) (fun c83 => ?_) (fun c83 => ?_)
                · refine lv_iconst (v := 0) hx hb dX14_make_90 (by decide) ?_
                  refine pf_X14_61 F hB dX14_make_91 (inv_A h) (fun H locs hBn => ?_)
                  clear hB; have hB := hBn; clear hBn
                  have hI91 := inv_PIc (t := 20) hB h (inv_A h) (by unfold iCn; omega)
                  refine lv_aload_n hx hb dX14_make_94 rfl (lv_at hl 1 rfl) ?_
                  refine gf_X14_61 F hB dX14_make_95 (inv_A hI91) ?_
                  rw [sgI_PI, if_pos ⟨rfl, rfl⟩]
                  refine lv_if_le (tgt := 103) hx hb dX14_make_98 (by decide) (fun c98 => ?_) (fun c98 => (by first | exact absurd c98 (by decide) | exact (c98 (by decide)).elim))
                  refine lv_aload_n hx hb dX14_make_103 rfl (lv_at hl 1 rfl) ?_
                  refine gr_X14_10 F hB dX14_make_104 (inv_A hI91) (inv_r1 hI91) ?_
                  refine sg_new (C := RX10) (T := TX10) (N0 := 16) (ci := 15) (ty0 := tyX10) F hB (fun w h => List.mem_cons_of_mem _ (mmu_X10 w h)) tyX10_ok (F.1.2.2.2.2 _ (List.mem_cons_of_mem _ (mm_3 _ (List.mem_of_getElem? (i := 3) rfl)))) (F.1.2.2.2.2 _ (List.mem_cons_of_mem _ (mm_3 _ (List.mem_of_getElem? (i := 4) rfl)))) (F.1.2.2.2.2 _ (List.mem_cons_of_mem _ (mm_3 _ (List.mem_of_getElem? (i := 5) rfl)))) rfl (by decide) (by decide +kernel) (Nat.le_of_ble_eq_true rfl) (Nat.add_le_add_right (Nat.le_of_ble_eq_true rfl) _) dX14_make_107 (fun q107 H N hq107 hs107 hBn => ?_)
                  clear hB; have hB := hBn; clear hBn
                  refine lv_dup hx hb dX14_make_110 rfl ?_
                  refine lv_iload_n hx hb dX14_make_111 rfl (lv_at hl 2 rfl) ?_
                  refine lv_iload_n hx hb dX14_make_112 rfl (lv_at hl 3 rfl) ?_
                  refine lv_iload_n hx hb dX14_make_113 rfl (lv_at hl 4 rfl) ?_
                  refine lv_iload hx hb dX14_make_114 (lv_at hl 5 rfl) ?_
                  refine lv_iload hx hb dX14_make_116 (lv_at hl 6 rfl) ?_
                  refine sg_callI F hB (m_dvI l D cy (show sgT (sgNw _ q107 16 0) q107 = 16 from by rw [sgNw_T, if_pos rfl]) sp po pw ow ki hsp how _) (cwI 5 F.1.2.2.2.2 (mgN (mm_0 _ (List.mem_of_getElem? (i := 0) rfl))) rfl rfl rfl (F.1.2.2.2.2 _ (List.mem_cons_of_mem _ (mm_3 _ (List.mem_of_getElem? (i := 5) rfl)))) (F.1.2.2.2.2 _ (List.mem_cons_of_mem _ (mm_3 _ (List.mem_of_getElem? (i := 7) rfl)))) (F.1.2.2.2.2 _ (List.mem_cons_of_mem _ (mm_3 _ (List.mem_of_getElem? (i := 8) rfl)))) rfl ⟨by decide, by decide, by decide +kernel⟩ ⟨Nat.le_of_ble_eq_true rfl, Nat.le_of_ble_eq_true rfl⟩) rfl hl.1 rfl (Nat.le_of_ble_eq_true rfl) dX14_make_118 (Nat.le_of_ble_eq_true rfl) (Nat.add_le_add_right (Nat.le_of_ble_eq_true rfl) _)  (fun H locs v σ118 N hBn hX118 hP => ?_)
                  clear hB; have hB := hBn; clear hBn
                  obtain ⟨rfl, e9, f9, h9, he, hf, hh, rfl⟩ := hP
                  obtain ⟨hI118, hO118, td118, h7_118, h6_118⟩ := inv_dvN hI91 hq107 (by exact he) (by exact hf) (by exact hh) (by exact sg_eda F hB)
                  have hE118 := dv_iEl hI118 td118
                  have hn16 := m_n16 z1 z3 c83
                  obtain ⟨ra121, za121, zb121⟩ := (inv_LS hI118).1 _ (inv_tD hI118).1 id
                  refine sg_callV (ci := 4) F hB (m_add l D cy (by exact za121) (fun j y h1 h2 => (inv_LS hI118).2.2.1 ra121 j y h1 h2) q107 (iEl_K (l0 := _) (g := gN g n q107 e9) (j := sgSz _ (kD K)) (by exact hE118)) zb121 _) (cwV 1 F.1.2.2.2.2 (mgV (mm_3 _ (List.mem_of_getElem? (i := 9) rfl)) (mm_3 _ (List.mem_of_getElem? (i := 10) rfl)) (mm_3 _ (List.mem_of_getElem? (i := 11) rfl)) (mm_0 _ (List.mem_of_getElem? (i := 35) rfl)) (mm_2 _ (List.mem_of_getElem? (i := 29) rfl))) rfl rfl rfl ⟨rfl, by decide, by decide, by decide +kernel⟩ ⟨Nat.le_of_ble_eq_true rfl, Nat.le_of_ble_eq_true rfl⟩) rfl rfl (by decide) rfl hl.1 rfl (Nat.le_of_ble_eq_true rfl) dX14_make_121 (Nat.le_of_ble_eq_true rfl) (Nat.add_le_add_right (Nat.le_of_ble_eq_true rfl) _) (by exact (inv_tD hI118).1) (fun H locs v σ121 N hBn hX121 hP => ?_)
                  clear hB; have hB := hBn; clear hBn
                  obtain ⟨rfl, hAd121⟩ := hP
                  obtain ⟨hI121, ada121, adb121, adc121, add121, ade121, adf121, adg121, adh121⟩ := inv_ad (n2 := n + 1) hI118 (inv_tD hI118).1 za121 hAd121 (sg_eda F hB) hE118 (by rw [(inv_tD hI118).2, (inv_M hI118).2.1.1]; show _ ≤ 16; omega) (Or.inr ⟨rfl, by rw [(inv_M hI118).2.1.1], Nat.le_succ _, fun σ3 hI => iR_dvN hI118 (if_pos rfl) td118 h7_118 h6_118 hI⟩) (nr7 (inv_tD hI118).2 (by decide))
                  have th121 := (adf121 (kA K) 0 (by rw [inv_A hI118]; decide) (by rw [inv_A hI118]; decide)).trans (((hO118 (kA K) (by rw [inv_A hI91]; decide)).2.2 0).1.trans (show sgI (sgPI σ (kA K) 0 0) (kA K) 0 = 0 from by rw [sgI_PI, if_pos ⟨rfl, rfl⟩]))
                  refine lv_pop hx hb dX14_make_124 rfl ?_
                  refine lv_aload_n hx hb dX14_make_125 rfl (lv_at hl 1 rfl) ?_
                  refine gr_X14_10 F hB dX14_make_126 (inv_A hI121) (inv_r1 hI121) ?_
                  refine sg_callV (ci := 4) F hB (m_size l D cy (by exact (inv_tD hI121).1) _) (cwV 0 F.1.2.2.2.2 (mgV (mm_3 _ (List.mem_of_getElem? (i := 18) rfl)) (mm_3 _ (List.mem_of_getElem? (i := 19) rfl)) (mm_3 _ (List.mem_of_getElem? (i := 20) rfl)) (mm_0 _ (List.mem_of_getElem? (i := 35) rfl)) (mm_3 _ (List.mem_of_getElem? (i := 16) rfl))) rfl rfl rfl ⟨rfl, by decide, by decide, by decide +kernel⟩ ⟨Nat.le_of_ble_eq_true rfl, Nat.le_of_ble_eq_true rfl⟩) rfl rfl (by decide) rfl hl.1 rfl (Nat.le_of_ble_eq_true rfl) dX14_make_129 (Nat.le_of_ble_eq_true rfl) (Nat.add_le_add_right (Nat.le_of_ble_eq_true rfl) _) (inv_tD hI121).1 (fun H locs v σ129 N hBn hX129 hP => ?_)
                  clear hB; have hB := hBn; clear hBn
                  obtain ⟨rfl, rfl⟩ := hP
                  refine lv_iconst (v := 1) hx hb dX14_make_132 (by decide) ?_
                  refine lv_isub hx hb dX14_make_133 ?_
                  exact sg_iret F hB hrt dX14_make_134 (by decide) (by decide) (⟨_, 0, rfl, th121, Or.inr (Or.inr ⟨rfl, m_decN (inv_sz hI121).1 z3, ⟨(by first | exact Or.inl c3 | exact Or.inr (Or.inl c9) | exact Or.inr (Or.inr c15)), sgb_t hb21 c24, sgb_t hb30 c33, sgb_t hb41 c44, (by first | exact fun z => c63 z.1 | exact fun z => z.2 c67)⟩, hn16, _, ⟨(by exact hY), nH_N hH z2 (fun z => by have q : sgT σ q107 = 0 := hq107; rw [z, (inv_dv h (k := 0) z2).2.1] at q; exact absurd q (by decide))⟩, hI121⟩)⟩)
                · refine lv_iconst (v := 2) hx hb dX14_make_86 (by decide) ?_
                  refine lv_goto (tgt := 91) hx hb dX14_make_87 (by decide) ?_
                  refine pf_X14_61 F hB dX14_make_91 (inv_A h) (fun H locs hBn => ?_)
                  clear hB; have hB := hBn; clear hBn
                  have hI91 := inv_PIc (t := 20) hB h (inv_A h) (by unfold iCn; omega)
                  refine lv_aload_n hx hb dX14_make_94 rfl (lv_at hl 1 rfl) ?_
                  refine gf_X14_61 F hB dX14_make_95 (inv_A hI91) ?_
                  rw [sgI_PI, if_pos ⟨rfl, rfl⟩]
                  refine lv_if_le (tgt := 103) hx hb dX14_make_98 (by decide) (fun c98 => (by first | exact absurd c98 (by decide) | exact (c98 (by decide)).elim)) (fun c98 => ?_)
                  refine lv_iconst (v := 0) hx hb dX14_make_101 (by decide) ?_
                  exact sg_iret F hB hrt dX14_make_102 (by decide) (by decide) (by first | exact ⟨_, 1, rfl, (by rw [sgI_PI, if_pos ⟨rfl, rfl⟩]), Or.inl ⟨rfl, rfl, (by first | exact fun z => z.1.elim c3 (fun q => q.elim c9 c15) | exact fun z => (sgb_f hb21 c24) z.2.1 | exact fun z => (sgb_f hb30 c33) z.2.2.1 | exact fun z => (sgb_f hb41 c44) z.2.2.2.1 | exact fun z => z.2.2.2.2 ⟨c63, c67⟩), hI91⟩⟩ | exact ⟨_, 2, rfl, (by rw [sgI_PI, if_pos ⟨rfl, rfl⟩]), Or.inr (Or.inl ⟨rfl, rfl, ⟨(by first | exact Or.inl c3 | exact Or.inr (Or.inl c9) | exact Or.inr (Or.inr c15)), sgb_t hb21 c24, sgb_t hb30 c33, sgb_t hb41 c44, (by first | exact fun z => c63 z.1 | exact fun z => z.2 c67)⟩, (by have e16 : (16 : Int32).toInt = 16 := rfl; rw [c83] at z1; omega), hI91⟩)⟩)
              · refine lv_iconst (v := 1) hx hb dX14_make_70 (by decide) ?_
                refine lv_goto (tgt := 91) hx hb dX14_make_71 (by decide) ?_
                refine pf_X14_61 F hB dX14_make_91 (inv_A h) (fun H locs hBn => ?_)
                clear hB; have hB := hBn; clear hBn
                have hI91 := inv_PIc (t := 20) hB h (inv_A h) (by unfold iCn; omega)
                refine lv_aload_n hx hb dX14_make_94 rfl (lv_at hl 1 rfl) ?_
                refine gf_X14_61 F hB dX14_make_95 (inv_A hI91) ?_
                rw [sgI_PI, if_pos ⟨rfl, rfl⟩]
                refine lv_if_le (tgt := 103) hx hb dX14_make_98 (by decide) (fun c98 => (by first | exact absurd c98 (by decide) | exact (c98 (by decide)).elim)) (fun c98 => ?_)
                refine lv_iconst (v := 0) hx hb dX14_make_101 (by decide) ?_
                exact sg_iret F hB hrt dX14_make_102 (by decide) (by decide) (by first | exact ⟨_, 1, rfl, (by rw [sgI_PI, if_pos ⟨rfl, rfl⟩]), Or.inl ⟨rfl, rfl, (by first | exact fun z => z.1.elim c3 (fun q => q.elim c9 c15) | exact fun z => (sgb_f hb21 c24) z.2.1 | exact fun z => (sgb_f hb30 c33) z.2.2.1 | exact fun z => (sgb_f hb41 c44) z.2.2.2.1 | exact fun z => z.2.2.2.2 ⟨c63, c67⟩), hI91⟩⟩ | exact ⟨_, 2, rfl, (by rw [sgI_PI, if_pos ⟨rfl, rfl⟩]), Or.inr (Or.inl ⟨rfl, rfl, ⟨(by first | exact Or.inl c3 | exact Or.inr (Or.inl c9) | exact Or.inr (Or.inr c15)), sgb_t hb21 c24, sgb_t hb30 c33, sgb_t hb41 c44, (by first | exact fun z => c63 z.1 | exact fun z => z.2 c67)⟩, (by have e16 : (16 : Int32).toInt = 16 := rfl; rw [c83] at z1; omega), hI91⟩)⟩)
    · refine lv_iload_n hx hb dX14_make_12 rfl (lv_at hl 1 rfl) ?_
      refine lv_bipush (v := 104) hx hb dX14_make_13 (by decide) ?_
      refine lv_icmp_ne (tgt := 51) hx hb dX14_make_15 (by decide) (fun c15 => ?_) (fun c15 => ?_)
      · refine lv_iconst (v := 0) hx hb dX14_make_51 (by decide) ?_
        refine lv_istore (lv' := [(6, .int _), (0, .ref _), (1, .int _), (2, .int _), (3, .int _), (4, .int _), (5, .int _)]) hx hb dX14_make_52 hl (by decide) rfl (fun ls hl => ?_)
        refine lv_aload_n hx hb dX14_make_54 rfl (lv_at hl 1 rfl) ?_
        refine lv_iload hx hb dX14_make_55 (lv_at hl 0 rfl) ?_
        refine lv_if_eq (tgt := 70) hx hb dX14_make_57 (by decide) (fun c57 => ?_) (fun c57 => (by first | exact absurd c57 (by decide) | exact (c57 (by decide)).elim))
        refine lv_iconst (v := 1) hx hb dX14_make_70 (by decide) ?_
        refine lv_goto (tgt := 91) hx hb dX14_make_71 (by decide) ?_
        refine pf_X14_61 F hB dX14_make_91 (inv_A h) (fun H locs hBn => ?_)
        clear hB; have hB := hBn; clear hBn
        have hI91 := inv_PIc (t := 20) hB h (inv_A h) (by unfold iCn; omega)
        refine lv_aload_n hx hb dX14_make_94 rfl (lv_at hl 1 rfl) ?_
        refine gf_X14_61 F hB dX14_make_95 (inv_A hI91) ?_
        rw [sgI_PI, if_pos ⟨rfl, rfl⟩]
        refine lv_if_le (tgt := 103) hx hb dX14_make_98 (by decide) (fun c98 => (by first | exact absurd c98 (by decide) | exact (c98 (by decide)).elim)) (fun c98 => ?_)
        refine lv_iconst (v := 0) hx hb dX14_make_101 (by decide) ?_
        exact sg_iret F hB hrt dX14_make_102 (by decide) (by decide) (by first | exact ⟨_, 1, rfl, (by rw [sgI_PI, if_pos ⟨rfl, rfl⟩]), Or.inl ⟨rfl, rfl, (by first | exact fun z => z.1.elim c3 (fun q => q.elim c9 c15) | exact fun z => (sgb_f hb21 c24) z.2.1 | exact fun z => (sgb_f hb30 c33) z.2.2.1 | exact fun z => (sgb_f hb41 c44) z.2.2.2.1 | exact fun z => z.2.2.2.2 ⟨c63, c67⟩), hI91⟩⟩ | exact ⟨_, 2, rfl, (by rw [sgI_PI, if_pos ⟨rfl, rfl⟩]), Or.inr (Or.inl ⟨rfl, rfl, ⟨(by first | exact Or.inl c3 | exact Or.inr (Or.inl c9) | exact Or.inr (Or.inr c15)), sgb_t hb21 c24, sgb_t hb30 c33, sgb_t hb41 c44, (by first | exact fun z => c63 z.1 | exact fun z => z.2 c67)⟩, (by have e16 : (16 : Int32).toInt = 16 := rfl; rw [c83] at z1; omega), hI91⟩)⟩)
      · refine lv_iload_n hx hb dX14_make_18 rfl (lv_at hl 2 rfl) ?_
        refine lv_iconst (v := 0) hx hb dX14_make_19 (by decide) ?_
        refine lv_iconst (v := 4) hx hb dX14_make_20 (by decide) ?_
        refine sg_callS F hB (m_in l D cy po 0 4 _) (cwS 3 F.1.2.2.2.2 (mgS (mm_3 _ (List.mem_of_getElem? (i := 21) rfl)) (mm_3 _ (List.mem_of_getElem? (i := 22) rfl)) (mm_3 _ (List.mem_of_getElem? (i := 23) rfl)) (mm_1 _ (List.mem_of_getElem? (i := 19) rfl))) rfl rfl rfl ⟨rfl, by decide, by decide, by decide +kernel⟩ ⟨Nat.le_of_ble_eq_true rfl, Nat.le_of_ble_eq_true rfl⟩) rfl hl.1 rfl (Nat.le_of_ble_eq_true rfl) dX14_make_21 (Nat.le_of_ble_eq_true rfl) (Nat.add_le_add_right (Nat.le_of_ble_eq_true rfl) _)  (fun H locs v σ21 N hBn hX21 hP => ?_)
        clear hB; have hB := hBn; clear hBn
        obtain ⟨b21, rfl, rfl, hb21⟩ := hP
        refine lv_if_eq (tgt := 51) hx hb dX14_make_24 (by decide) (fun c24 => ?_) (fun c24 => ?_)
        · refine lv_iconst (v := 0) hx hb dX14_make_51 (by decide) ?_
          refine lv_istore (lv' := [(6, .int _), (0, .ref _), (1, .int _), (2, .int _), (3, .int _), (4, .int _), (5, .int _)]) hx hb dX14_make_52 hl (by decide) rfl (fun ls hl => ?_)
          refine lv_aload_n hx hb dX14_make_54 rfl (lv_at hl 1 rfl) ?_
          refine lv_iload hx hb dX14_make_55 (lv_at hl 0 rfl) ?_
          refine lv_if_eq (tgt := 70) hx hb dX14_make_57 (by decide) (fun c57 => ?_) (fun c57 => (by first | exact absurd c57 (by decide) | exact (c57 (by decide)).elim))
          refine lv_iconst (v := 1) hx hb dX14_make_70 (by decide) ?_
          refine lv_goto (tgt := 91) hx hb dX14_make_71 (by decide) ?_
          refine pf_X14_61 F hB dX14_make_91 (inv_A h) (fun H locs hBn => ?_)
          clear hB; have hB := hBn; clear hBn
          have hI91 := inv_PIc (t := 20) hB h (inv_A h) (by unfold iCn; omega)
          refine lv_aload_n hx hb dX14_make_94 rfl (lv_at hl 1 rfl) ?_
          refine gf_X14_61 F hB dX14_make_95 (inv_A hI91) ?_
          rw [sgI_PI, if_pos ⟨rfl, rfl⟩]
          refine lv_if_le (tgt := 103) hx hb dX14_make_98 (by decide) (fun c98 => (by first | exact absurd c98 (by decide) | exact (c98 (by decide)).elim)) (fun c98 => ?_)
          refine lv_iconst (v := 0) hx hb dX14_make_101 (by decide) ?_
          exact sg_iret F hB hrt dX14_make_102 (by decide) (by decide) (by first | exact ⟨_, 1, rfl, (by rw [sgI_PI, if_pos ⟨rfl, rfl⟩]), Or.inl ⟨rfl, rfl, (by first | exact fun z => z.1.elim c3 (fun q => q.elim c9 c15) | exact fun z => (sgb_f hb21 c24) z.2.1 | exact fun z => (sgb_f hb30 c33) z.2.2.1 | exact fun z => (sgb_f hb41 c44) z.2.2.2.1 | exact fun z => z.2.2.2.2 ⟨c63, c67⟩), hI91⟩⟩ | exact ⟨_, 2, rfl, (by rw [sgI_PI, if_pos ⟨rfl, rfl⟩]), Or.inr (Or.inl ⟨rfl, rfl, ⟨(by first | exact Or.inl c3 | exact Or.inr (Or.inl c9) | exact Or.inr (Or.inr c15)), sgb_t hb21 c24, sgb_t hb30 c33, sgb_t hb41 c44, (by first | exact fun z => c63 z.1 | exact fun z => z.2 c67)⟩, (by have e16 : (16 : Int32).toInt = 16 := rfl; rw [c83] at z1; omega), hI91⟩)⟩)
        · refine lv_iload_n hx hb dX14_make_27 rfl (lv_at hl 3 rfl) ?_
          refine lv_iconst (v := 1) hx hb dX14_make_28 (by decide) ?_
          refine lv_iconst (v := 5) hx hb dX14_make_29 (by decide) ?_
          refine sg_callS F hB (m_in l D cy pw 1 5 _) (cwS 3 F.1.2.2.2.2 (mgS (mm_3 _ (List.mem_of_getElem? (i := 21) rfl)) (mm_3 _ (List.mem_of_getElem? (i := 22) rfl)) (mm_3 _ (List.mem_of_getElem? (i := 23) rfl)) (mm_1 _ (List.mem_of_getElem? (i := 19) rfl))) rfl rfl rfl ⟨rfl, by decide, by decide, by decide +kernel⟩ ⟨Nat.le_of_ble_eq_true rfl, Nat.le_of_ble_eq_true rfl⟩) rfl hl.1 rfl (Nat.le_of_ble_eq_true rfl) dX14_make_30 (Nat.le_of_ble_eq_true rfl) (Nat.add_le_add_right (Nat.le_of_ble_eq_true rfl) _)  (fun H locs v σ30 N hBn hX30 hP => ?_)
          clear hB; have hB := hBn; clear hBn
          obtain ⟨b30, rfl, rfl, hb30⟩ := hP
          refine lv_if_eq (tgt := 51) hx hb dX14_make_33 (by decide) (fun c33 => ?_) (fun c33 => ?_)
          · refine lv_iconst (v := 0) hx hb dX14_make_51 (by decide) ?_
            refine lv_istore (lv' := [(6, .int _), (0, .ref _), (1, .int _), (2, .int _), (3, .int _), (4, .int _), (5, .int _)]) hx hb dX14_make_52 hl (by decide) rfl (fun ls hl => ?_)
            refine lv_aload_n hx hb dX14_make_54 rfl (lv_at hl 1 rfl) ?_
            refine lv_iload hx hb dX14_make_55 (lv_at hl 0 rfl) ?_
            refine lv_if_eq (tgt := 70) hx hb dX14_make_57 (by decide) (fun c57 => ?_) (fun c57 => (by first | exact absurd c57 (by decide) | exact (c57 (by decide)).elim))
            refine lv_iconst (v := 1) hx hb dX14_make_70 (by decide) ?_
            refine lv_goto (tgt := 91) hx hb dX14_make_71 (by decide) ?_
            refine pf_X14_61 F hB dX14_make_91 (inv_A h) (fun H locs hBn => ?_)
            clear hB; have hB := hBn; clear hBn
            have hI91 := inv_PIc (t := 20) hB h (inv_A h) (by unfold iCn; omega)
            refine lv_aload_n hx hb dX14_make_94 rfl (lv_at hl 1 rfl) ?_
            refine gf_X14_61 F hB dX14_make_95 (inv_A hI91) ?_
            rw [sgI_PI, if_pos ⟨rfl, rfl⟩]
            refine lv_if_le (tgt := 103) hx hb dX14_make_98 (by decide) (fun c98 => (by first | exact absurd c98 (by decide) | exact (c98 (by decide)).elim)) (fun c98 => ?_)
            refine lv_iconst (v := 0) hx hb dX14_make_101 (by decide) ?_
            exact sg_iret F hB hrt dX14_make_102 (by decide) (by decide) (by first | exact ⟨_, 1, rfl, (by rw [sgI_PI, if_pos ⟨rfl, rfl⟩]), Or.inl ⟨rfl, rfl, (by first | exact fun z => z.1.elim c3 (fun q => q.elim c9 c15) | exact fun z => (sgb_f hb21 c24) z.2.1 | exact fun z => (sgb_f hb30 c33) z.2.2.1 | exact fun z => (sgb_f hb41 c44) z.2.2.2.1 | exact fun z => z.2.2.2.2 ⟨c63, c67⟩), hI91⟩⟩ | exact ⟨_, 2, rfl, (by rw [sgI_PI, if_pos ⟨rfl, rfl⟩]), Or.inr (Or.inl ⟨rfl, rfl, ⟨(by first | exact Or.inl c3 | exact Or.inr (Or.inl c9) | exact Or.inr (Or.inr c15)), sgb_t hb21 c24, sgb_t hb30 c33, sgb_t hb41 c44, (by first | exact fun z => c63 z.1 | exact fun z => z.2 c67)⟩, (by have e16 : (16 : Int32).toInt = 16 := rfl; rw [c83] at z1; omega), hI91⟩)⟩)
          · refine lv_iload hx hb dX14_make_36 (lv_at hl 5 rfl) ?_
            refine lv_iconst (v := 0) hx hb dX14_make_38 (by decide) ?_
            refine lv_bipush (v := 99) hx hb dX14_make_39 (by decide) ?_
            refine sg_callS F hB (m_in l D cy ki 0 99 _) (cwS 3 F.1.2.2.2.2 (mgS (mm_3 _ (List.mem_of_getElem? (i := 21) rfl)) (mm_3 _ (List.mem_of_getElem? (i := 22) rfl)) (mm_3 _ (List.mem_of_getElem? (i := 23) rfl)) (mm_1 _ (List.mem_of_getElem? (i := 19) rfl))) rfl rfl rfl ⟨rfl, by decide, by decide, by decide +kernel⟩ ⟨Nat.le_of_ble_eq_true rfl, Nat.le_of_ble_eq_true rfl⟩) rfl hl.1 rfl (Nat.le_of_ble_eq_true rfl) dX14_make_41 (Nat.le_of_ble_eq_true rfl) (Nat.add_le_add_right (Nat.le_of_ble_eq_true rfl) _)  (fun H locs v σ41 N hBn hX41 hP => ?_)
            clear hB; have hB := hBn; clear hBn
            obtain ⟨b41, rfl, rfl, hb41⟩ := hP
            refine lv_if_eq (tgt := 51) hx hb dX14_make_44 (by decide) (fun c44 => ?_) (fun c44 => ?_)
            · refine lv_iconst (v := 0) hx hb dX14_make_51 (by decide) ?_
              refine lv_istore (lv' := [(6, .int _), (0, .ref _), (1, .int _), (2, .int _), (3, .int _), (4, .int _), (5, .int _)]) hx hb dX14_make_52 hl (by decide) rfl (fun ls hl => ?_)
              refine lv_aload_n hx hb dX14_make_54 rfl (lv_at hl 1 rfl) ?_
              refine lv_iload hx hb dX14_make_55 (lv_at hl 0 rfl) ?_
              refine lv_if_eq (tgt := 70) hx hb dX14_make_57 (by decide) (fun c57 => ?_) (fun c57 => (by first | exact absurd c57 (by decide) | exact (c57 (by decide)).elim))
              refine lv_iconst (v := 1) hx hb dX14_make_70 (by decide) ?_
              refine lv_goto (tgt := 91) hx hb dX14_make_71 (by decide) ?_
              refine pf_X14_61 F hB dX14_make_91 (inv_A h) (fun H locs hBn => ?_)
              clear hB; have hB := hBn; clear hBn
              have hI91 := inv_PIc (t := 20) hB h (inv_A h) (by unfold iCn; omega)
              refine lv_aload_n hx hb dX14_make_94 rfl (lv_at hl 1 rfl) ?_
              refine gf_X14_61 F hB dX14_make_95 (inv_A hI91) ?_
              rw [sgI_PI, if_pos ⟨rfl, rfl⟩]
              refine lv_if_le (tgt := 103) hx hb dX14_make_98 (by decide) (fun c98 => (by first | exact absurd c98 (by decide) | exact (c98 (by decide)).elim)) (fun c98 => ?_)
              refine lv_iconst (v := 0) hx hb dX14_make_101 (by decide) ?_
              exact sg_iret F hB hrt dX14_make_102 (by decide) (by decide) (by first | exact ⟨_, 1, rfl, (by rw [sgI_PI, if_pos ⟨rfl, rfl⟩]), Or.inl ⟨rfl, rfl, (by first | exact fun z => z.1.elim c3 (fun q => q.elim c9 c15) | exact fun z => (sgb_f hb21 c24) z.2.1 | exact fun z => (sgb_f hb30 c33) z.2.2.1 | exact fun z => (sgb_f hb41 c44) z.2.2.2.1 | exact fun z => z.2.2.2.2 ⟨c63, c67⟩), hI91⟩⟩ | exact ⟨_, 2, rfl, (by rw [sgI_PI, if_pos ⟨rfl, rfl⟩]), Or.inr (Or.inl ⟨rfl, rfl, ⟨(by first | exact Or.inl c3 | exact Or.inr (Or.inl c9) | exact Or.inr (Or.inr c15)), sgb_t hb21 c24, sgb_t hb30 c33, sgb_t hb41 c44, (by first | exact fun z => c63 z.1 | exact fun z => z.2 c67)⟩, (by have e16 : (16 : Int32).toInt = 16 := rfl; rw [c83] at z1; omega), hI91⟩)⟩)
            · refine lv_iconst (v := 1) hx hb dX14_make_47 (by decide) ?_
              refine lv_goto (tgt := 52) hx hb dX14_make_48 (by decide) ?_
              refine lv_istore (lv' := [(6, .int _), (0, .ref _), (1, .int _), (2, .int _), (3, .int _), (4, .int _), (5, .int _)]) hx hb dX14_make_52 hl (by decide) rfl (fun ls hl => ?_)
              refine lv_aload_n hx hb dX14_make_54 rfl (lv_at hl 1 rfl) ?_
              refine lv_iload hx hb dX14_make_55 (lv_at hl 0 rfl) ?_
              refine lv_if_eq (tgt := 70) hx hb dX14_make_57 (by decide) (fun c57 => (by first | exact absurd c57 (by decide) | exact (c57 (by decide)).elim)) (fun c57 => ?_)
              refine lv_iload_n hx hb dX14_make_60 rfl (lv_at hl 2 rfl) ?_
              refine lv_bipush (v := 108) hx hb dX14_make_61 (by decide) ?_
              refine lv_icmp_ne (tgt := 74) hx hb dX14_make_63 (by decide) (fun c63 => ?_) (fun c63 => ?_)
              · refine lv_aload_n hx hb dX14_make_74 rfl (lv_at hl 1 rfl) ?_
                refine gr_X14_10 F hB dX14_make_75 (inv_A h) (inv_r1 h) ?_
                refine sg_callV (ci := 4) F hB (m_size l D cy (by exact (inv_tD h).1) _) (cwV 0 F.1.2.2.2.2 (mgV (mm_3 _ (List.mem_of_getElem? (i := 18) rfl)) (mm_3 _ (List.mem_of_getElem? (i := 19) rfl)) (mm_3 _ (List.mem_of_getElem? (i := 20) rfl)) (mm_0 _ (List.mem_of_getElem? (i := 35) rfl)) (mm_3 _ (List.mem_of_getElem? (i := 16) rfl))) rfl rfl rfl ⟨rfl, by decide, by decide, by decide +kernel⟩ ⟨Nat.le_of_ble_eq_true rfl, Nat.le_of_ble_eq_true rfl⟩) rfl rfl (by decide) rfl hl.1 rfl (Nat.le_of_ble_eq_true rfl) dX14_make_78 (Nat.le_of_ble_eq_true rfl) (Nat.add_le_add_right (Nat.le_of_ble_eq_true rfl) _) (inv_tD h).1 (fun H locs v σ78 N hBn hX78 hP => ?_)
                clear hB; have hB := hBn; clear hBn
                obtain ⟨rfl, rfl⟩ := hP
                refine lv_bipush (v := 16) hx hb dX14_make_81 (by decide) ?_
                refine lv_icmp_ne (tgt := 90) hx hb dX14_make_83 (by decide) (fun c83 => ?_) (fun c83 => ?_)
                · refine lv_iconst (v := 0) hx hb dX14_make_90 (by decide) ?_
                  refine pf_X14_61 F hB dX14_make_91 (inv_A h) (fun H locs hBn => ?_)
                  clear hB; have hB := hBn; clear hBn
                  have hI91 := inv_PIc (t := 20) hB h (inv_A h) (by unfold iCn; omega)
                  refine lv_aload_n hx hb dX14_make_94 rfl (lv_at hl 1 rfl) ?_
                  refine gf_X14_61 F hB dX14_make_95 (inv_A hI91) ?_
                  rw [sgI_PI, if_pos ⟨rfl, rfl⟩]
                  refine lv_if_le (tgt := 103) hx hb dX14_make_98 (by decide) (fun c98 => ?_) (fun c98 => (by first | exact absurd c98 (by decide) | exact (c98 (by decide)).elim))
                  refine lv_aload_n hx hb dX14_make_103 rfl (lv_at hl 1 rfl) ?_
                  refine gr_X14_10 F hB dX14_make_104 (inv_A hI91) (inv_r1 hI91) ?_
                  refine sg_new (C := RX10) (T := TX10) (N0 := 16) (ci := 15) (ty0 := tyX10) F hB (fun w h => List.mem_cons_of_mem _ (mmu_X10 w h)) tyX10_ok (F.1.2.2.2.2 _ (List.mem_cons_of_mem _ (mm_3 _ (List.mem_of_getElem? (i := 3) rfl)))) (F.1.2.2.2.2 _ (List.mem_cons_of_mem _ (mm_3 _ (List.mem_of_getElem? (i := 4) rfl)))) (F.1.2.2.2.2 _ (List.mem_cons_of_mem _ (mm_3 _ (List.mem_of_getElem? (i := 5) rfl)))) rfl (by decide) (by decide +kernel) (Nat.le_of_ble_eq_true rfl) (Nat.add_le_add_right (Nat.le_of_ble_eq_true rfl) _) dX14_make_107 (fun q107 H N hq107 hs107 hBn => ?_)
                  clear hB; have hB := hBn; clear hBn
                  refine lv_dup hx hb dX14_make_110 rfl ?_
                  refine lv_iload_n hx hb dX14_make_111 rfl (lv_at hl 2 rfl) ?_
                  refine lv_iload_n hx hb dX14_make_112 rfl (lv_at hl 3 rfl) ?_
                  refine lv_iload_n hx hb dX14_make_113 rfl (lv_at hl 4 rfl) ?_
                  refine lv_iload hx hb dX14_make_114 (lv_at hl 5 rfl) ?_
                  refine lv_iload hx hb dX14_make_116 (lv_at hl 6 rfl) ?_
                  refine sg_callI F hB (m_dvI l D cy (show sgT (sgNw _ q107 16 0) q107 = 16 from by rw [sgNw_T, if_pos rfl]) sp po pw ow ki hsp how _) (cwI 5 F.1.2.2.2.2 (mgN (mm_0 _ (List.mem_of_getElem? (i := 0) rfl))) rfl rfl rfl (F.1.2.2.2.2 _ (List.mem_cons_of_mem _ (mm_3 _ (List.mem_of_getElem? (i := 5) rfl)))) (F.1.2.2.2.2 _ (List.mem_cons_of_mem _ (mm_3 _ (List.mem_of_getElem? (i := 7) rfl)))) (F.1.2.2.2.2 _ (List.mem_cons_of_mem _ (mm_3 _ (List.mem_of_getElem? (i := 8) rfl)))) rfl ⟨by decide, by decide, by decide +kernel⟩ ⟨Nat.le_of_ble_eq_true rfl, Nat.le_of_ble_eq_true rfl⟩) rfl hl.1 rfl (Nat.le_of_ble_eq_true rfl) dX14_make_118 (Nat.le_of_ble_eq_true rfl) (Nat.add_le_add_right (Nat.le_of_ble_eq_true rfl) _)  (fun H locs v σ118 N hBn hX118 hP => ?_)
                  clear hB; have hB := hBn; clear hBn
                  obtain ⟨rfl, e9, f9, h9, he, hf, hh, rfl⟩ := hP
                  obtain ⟨hI118, hO118, td118, h7_118, h6_118⟩ := inv_dvN hI91 hq107 (by exact he) (by exact hf) (by exact hh) (by exact sg_eda F hB)
                  have hE118 := dv_iEl hI118 td118
                  have hn16 := m_n16 z1 z3 c83
                  obtain ⟨ra121, za121, zb121⟩ := (inv_LS hI118).1 _ (inv_tD hI118).1 id
                  refine sg_callV (ci := 4) F hB (m_add l D cy (by exact za121) (fun j y h1 h2 => (inv_LS hI118).2.2.1 ra121 j y h1 h2) q107 (iEl_K (l0 := _) (g := gN g n q107 e9) (j := sgSz _ (kD K)) (by exact hE118)) zb121 _) (cwV 1 F.1.2.2.2.2 (mgV (mm_3 _ (List.mem_of_getElem? (i := 9) rfl)) (mm_3 _ (List.mem_of_getElem? (i := 10) rfl)) (mm_3 _ (List.mem_of_getElem? (i := 11) rfl)) (mm_0 _ (List.mem_of_getElem? (i := 35) rfl)) (mm_2 _ (List.mem_of_getElem? (i := 29) rfl))) rfl rfl rfl ⟨rfl, by decide, by decide, by decide +kernel⟩ ⟨Nat.le_of_ble_eq_true rfl, Nat.le_of_ble_eq_true rfl⟩) rfl rfl (by decide) rfl hl.1 rfl (Nat.le_of_ble_eq_true rfl) dX14_make_121 (Nat.le_of_ble_eq_true rfl) (Nat.add_le_add_right (Nat.le_of_ble_eq_true rfl) _) (by exact (inv_tD hI118).1) (fun H locs v σ121 N hBn hX121 hP => ?_)
                  clear hB; have hB := hBn; clear hBn
                  obtain ⟨rfl, hAd121⟩ := hP
                  obtain ⟨hI121, ada121, adb121, adc121, add121, ade121, adf121, adg121, adh121⟩ := inv_ad (n2 := n + 1) hI118 (inv_tD hI118).1 za121 hAd121 (sg_eda F hB) hE118 (by rw [(inv_tD hI118).2, (inv_M hI118).2.1.1]; show _ ≤ 16; omega) (Or.inr ⟨rfl, by rw [(inv_M hI118).2.1.1], Nat.le_succ _, fun σ3 hI => iR_dvN hI118 (if_pos rfl) td118 h7_118 h6_118 hI⟩) (nr7 (inv_tD hI118).2 (by decide))
                  have th121 := (adf121 (kA K) 0 (by rw [inv_A hI118]; decide) (by rw [inv_A hI118]; decide)).trans (((hO118 (kA K) (by rw [inv_A hI91]; decide)).2.2 0).1.trans (show sgI (sgPI σ (kA K) 0 0) (kA K) 0 = 0 from by rw [sgI_PI, if_pos ⟨rfl, rfl⟩]))
                  refine lv_pop hx hb dX14_make_124 rfl ?_
                  refine lv_aload_n hx hb dX14_make_125 rfl (lv_at hl 1 rfl) ?_
                  refine gr_X14_10 F hB dX14_make_126 (inv_A hI121) (inv_r1 hI121) ?_
                  refine sg_callV (ci := 4) F hB (m_size l D cy (by exact (inv_tD hI121).1) _) (cwV 0 F.1.2.2.2.2 (mgV (mm_3 _ (List.mem_of_getElem? (i := 18) rfl)) (mm_3 _ (List.mem_of_getElem? (i := 19) rfl)) (mm_3 _ (List.mem_of_getElem? (i := 20) rfl)) (mm_0 _ (List.mem_of_getElem? (i := 35) rfl)) (mm_3 _ (List.mem_of_getElem? (i := 16) rfl))) rfl rfl rfl ⟨rfl, by decide, by decide, by decide +kernel⟩ ⟨Nat.le_of_ble_eq_true rfl, Nat.le_of_ble_eq_true rfl⟩) rfl rfl (by decide) rfl hl.1 rfl (Nat.le_of_ble_eq_true rfl) dX14_make_129 (Nat.le_of_ble_eq_true rfl) (Nat.add_le_add_right (Nat.le_of_ble_eq_true rfl) _) (inv_tD hI121).1 (fun H locs v σ129 N hBn hX129 hP => ?_)
                  clear hB; have hB := hBn; clear hBn
                  obtain ⟨rfl, rfl⟩ := hP
                  refine lv_iconst (v := 1) hx hb dX14_make_132 (by decide) ?_
                  refine lv_isub hx hb dX14_make_133 ?_
                  exact sg_iret F hB hrt dX14_make_134 (by decide) (by decide) (⟨_, 0, rfl, th121, Or.inr (Or.inr ⟨rfl, m_decN (inv_sz hI121).1 z3, ⟨(by first | exact Or.inl c3 | exact Or.inr (Or.inl c9) | exact Or.inr (Or.inr c15)), sgb_t hb21 c24, sgb_t hb30 c33, sgb_t hb41 c44, (by first | exact fun z => c63 z.1 | exact fun z => z.2 c67)⟩, hn16, _, ⟨(by exact hY), nH_N hH z2 (fun z => by have q : sgT σ q107 = 0 := hq107; rw [z, (inv_dv h (k := 0) z2).2.1] at q; exact absurd q (by decide))⟩, hI121⟩)⟩)
                · refine lv_iconst (v := 2) hx hb dX14_make_86 (by decide) ?_
                  refine lv_goto (tgt := 91) hx hb dX14_make_87 (by decide) ?_
                  refine pf_X14_61 F hB dX14_make_91 (inv_A h) (fun H locs hBn => ?_)
                  clear hB; have hB := hBn; clear hBn
                  have hI91 := inv_PIc (t := 20) hB h (inv_A h) (by unfold iCn; omega)
                  refine lv_aload_n hx hb dX14_make_94 rfl (lv_at hl 1 rfl) ?_
                  refine gf_X14_61 F hB dX14_make_95 (inv_A hI91) ?_
                  rw [sgI_PI, if_pos ⟨rfl, rfl⟩]
                  refine lv_if_le (tgt := 103) hx hb dX14_make_98 (by decide) (fun c98 => (by first | exact absurd c98 (by decide) | exact (c98 (by decide)).elim)) (fun c98 => ?_)
                  refine lv_iconst (v := 0) hx hb dX14_make_101 (by decide) ?_
                  exact sg_iret F hB hrt dX14_make_102 (by decide) (by decide) (by first | exact ⟨_, 1, rfl, (by rw [sgI_PI, if_pos ⟨rfl, rfl⟩]), Or.inl ⟨rfl, rfl, (by first | exact fun z => z.1.elim c3 (fun q => q.elim c9 c15) | exact fun z => (sgb_f hb21 c24) z.2.1 | exact fun z => (sgb_f hb30 c33) z.2.2.1 | exact fun z => (sgb_f hb41 c44) z.2.2.2.1 | exact fun z => z.2.2.2.2 ⟨c63, c67⟩), hI91⟩⟩ | exact ⟨_, 2, rfl, (by rw [sgI_PI, if_pos ⟨rfl, rfl⟩]), Or.inr (Or.inl ⟨rfl, rfl, ⟨(by first | exact Or.inl c3 | exact Or.inr (Or.inl c9) | exact Or.inr (Or.inr c15)), sgb_t hb21 c24, sgb_t hb30 c33, sgb_t hb41 c44, (by first | exact fun z => c63 z.1 | exact fun z => z.2 c67)⟩, (by have e16 : (16 : Int32).toInt = 16 := rfl; rw [c83] at z1; omega), hI91⟩)⟩)
              · refine lv_iload_n hx hb dX14_make_66 rfl (lv_at hl 3 rfl) ?_
                refine lv_if_le (tgt := 74) hx hb dX14_make_67 (by decide) (fun c67 => ?_) (fun c67 => ?_)
                · refine lv_aload_n hx hb dX14_make_74 rfl (lv_at hl 1 rfl) ?_
                  refine gr_X14_10 F hB dX14_make_75 (inv_A h) (inv_r1 h) ?_
                  refine sg_callV (ci := 4) F hB (m_size l D cy (by exact (inv_tD h).1) _) (cwV 0 F.1.2.2.2.2 (mgV (mm_3 _ (List.mem_of_getElem? (i := 18) rfl)) (mm_3 _ (List.mem_of_getElem? (i := 19) rfl)) (mm_3 _ (List.mem_of_getElem? (i := 20) rfl)) (mm_0 _ (List.mem_of_getElem? (i := 35) rfl)) (mm_3 _ (List.mem_of_getElem? (i := 16) rfl))) rfl rfl rfl ⟨rfl, by decide, by decide, by decide +kernel⟩ ⟨Nat.le_of_ble_eq_true rfl, Nat.le_of_ble_eq_true rfl⟩) rfl rfl (by decide) rfl hl.1 rfl (Nat.le_of_ble_eq_true rfl) dX14_make_78 (Nat.le_of_ble_eq_true rfl) (Nat.add_le_add_right (Nat.le_of_ble_eq_true rfl) _) (inv_tD h).1 (fun H locs v σ78 N hBn hX78 hP => ?_)
                  clear hB; have hB := hBn; clear hBn
                  obtain ⟨rfl, rfl⟩ := hP
                  refine lv_bipush (v := 16) hx hb dX14_make_81 (by decide) ?_
                  refine lv_icmp_ne (tgt := 90) hx hb dX14_make_83 (by decide) (fun c83 => ?_) (fun c83 => ?_)
                  · refine lv_iconst (v := 0) hx hb dX14_make_90 (by decide) ?_
                    refine pf_X14_61 F hB dX14_make_91 (inv_A h) (fun H locs hBn => ?_)
                    clear hB; have hB := hBn; clear hBn
                    have hI91 := inv_PIc (t := 20) hB h (inv_A h) (by unfold iCn; omega)
                    refine lv_aload_n hx hb dX14_make_94 rfl (lv_at hl 1 rfl) ?_
                    refine gf_X14_61 F hB dX14_make_95 (inv_A hI91) ?_
                    rw [sgI_PI, if_pos ⟨rfl, rfl⟩]
                    refine lv_if_le (tgt := 103) hx hb dX14_make_98 (by decide) (fun c98 => ?_) (fun c98 => (by first | exact absurd c98 (by decide) | exact (c98 (by decide)).elim))
                    refine lv_aload_n hx hb dX14_make_103 rfl (lv_at hl 1 rfl) ?_
                    refine gr_X14_10 F hB dX14_make_104 (inv_A hI91) (inv_r1 hI91) ?_
                    refine sg_new (C := RX10) (T := TX10) (N0 := 16) (ci := 15) (ty0 := tyX10) F hB (fun w h => List.mem_cons_of_mem _ (mmu_X10 w h)) tyX10_ok (F.1.2.2.2.2 _ (List.mem_cons_of_mem _ (mm_3 _ (List.mem_of_getElem? (i := 3) rfl)))) (F.1.2.2.2.2 _ (List.mem_cons_of_mem _ (mm_3 _ (List.mem_of_getElem? (i := 4) rfl)))) (F.1.2.2.2.2 _ (List.mem_cons_of_mem _ (mm_3 _ (List.mem_of_getElem? (i := 5) rfl)))) rfl (by decide) (by decide +kernel) (Nat.le_of_ble_eq_true rfl) (Nat.add_le_add_right (Nat.le_of_ble_eq_true rfl) _) dX14_make_107 (fun q107 H N hq107 hs107 hBn => ?_)
                    clear hB; have hB := hBn; clear hBn
                    refine lv_dup hx hb dX14_make_110 rfl ?_
                    refine lv_iload_n hx hb dX14_make_111 rfl (lv_at hl 2 rfl) ?_
                    refine lv_iload_n hx hb dX14_make_112 rfl (lv_at hl 3 rfl) ?_
                    refine lv_iload_n hx hb dX14_make_113 rfl (lv_at hl 4 rfl) ?_
                    refine lv_iload hx hb dX14_make_114 (lv_at hl 5 rfl) ?_
                    refine lv_iload hx hb dX14_make_116 (lv_at hl 6 rfl) ?_
                    refine sg_callI F hB (m_dvI l D cy (show sgT (sgNw _ q107 16 0) q107 = 16 from by rw [sgNw_T, if_pos rfl]) sp po pw ow ki hsp how _) (cwI 5 F.1.2.2.2.2 (mgN (mm_0 _ (List.mem_of_getElem? (i := 0) rfl))) rfl rfl rfl (F.1.2.2.2.2 _ (List.mem_cons_of_mem _ (mm_3 _ (List.mem_of_getElem? (i := 5) rfl)))) (F.1.2.2.2.2 _ (List.mem_cons_of_mem _ (mm_3 _ (List.mem_of_getElem? (i := 7) rfl)))) (F.1.2.2.2.2 _ (List.mem_cons_of_mem _ (mm_3 _ (List.mem_of_getElem? (i := 8) rfl)))) rfl ⟨by decide, by decide, by decide +kernel⟩ ⟨Nat.le_of_ble_eq_true rfl, Nat.le_of_ble_eq_true rfl⟩) rfl hl.1 rfl (Nat.le_of_ble_eq_true rfl) dX14_make_118 (Nat.le_of_ble_eq_true rfl) (Nat.add_le_add_right (Nat.le_of_ble_eq_true rfl) _)  (fun H locs v σ118 N hBn hX118 hP => ?_)
                    clear hB; have hB := hBn; clear hBn
                    obtain ⟨rfl, e9, f9, h9, he, hf, hh, rfl⟩ := hP
                    obtain ⟨hI118, hO118, td118, h7_118, h6_118⟩ := inv_dvN hI91 hq107 (by exact he) (by exact hf) (by exact hh) (by exact sg_eda F hB)
                    have hE118 := dv_iEl hI118 td118
                    have hn16 := m_n16 z1 z3 c83
                    obtain ⟨ra121, za121, zb121⟩ := (inv_LS hI118).1 _ (inv_tD hI118).1 id
                    refine sg_callV (ci := 4) F hB (m_add l D cy (by exact za121) (fun j y h1 h2 => (inv_LS hI118).2.2.1 ra121 j y h1 h2) q107 (iEl_K (l0 := _) (g := gN g n q107 e9) (j := sgSz _ (kD K)) (by exact hE118)) zb121 _) (cwV 1 F.1.2.2.2.2 (mgV (mm_3 _ (List.mem_of_getElem? (i := 9) rfl)) (mm_3 _ (List.mem_of_getElem? (i := 10) rfl)) (mm_3 _ (List.mem_of_getElem? (i := 11) rfl)) (mm_0 _ (List.mem_of_getElem? (i := 35) rfl)) (mm_2 _ (List.mem_of_getElem? (i := 29) rfl))) rfl rfl rfl ⟨rfl, by decide, by decide, by decide +kernel⟩ ⟨Nat.le_of_ble_eq_true rfl, Nat.le_of_ble_eq_true rfl⟩) rfl rfl (by decide) rfl hl.1 rfl (Nat.le_of_ble_eq_true rfl) dX14_make_121 (Nat.le_of_ble_eq_true rfl) (Nat.add_le_add_right (Nat.le_of_ble_eq_true rfl) _) (by exact (inv_tD hI118).1) (fun H locs v σ121 N hBn hX121 hP => ?_)
                    clear hB; have hB := hBn; clear hBn
                    obtain ⟨rfl, hAd121⟩ := hP
                    obtain ⟨hI121, ada121, adb121, adc121, add121, ade121, adf121, adg121, adh121⟩ := inv_ad (n2 := n + 1) hI118 (inv_tD hI118).1 za121 hAd121 (sg_eda F hB) hE118 (by rw [(inv_tD hI118).2, (inv_M hI118).2.1.1]; show _ ≤ 16; omega) (Or.inr ⟨rfl, by rw [(inv_M hI118).2.1.1], Nat.le_succ _, fun σ3 hI => iR_dvN hI118 (if_pos rfl) td118 h7_118 h6_118 hI⟩) (nr7 (inv_tD hI118).2 (by decide))
                    have th121 := (adf121 (kA K) 0 (by rw [inv_A hI118]; decide) (by rw [inv_A hI118]; decide)).trans (((hO118 (kA K) (by rw [inv_A hI91]; decide)).2.2 0).1.trans (show sgI (sgPI σ (kA K) 0 0) (kA K) 0 = 0 from by rw [sgI_PI, if_pos ⟨rfl, rfl⟩]))
                    refine lv_pop hx hb dX14_make_124 rfl ?_
                    refine lv_aload_n hx hb dX14_make_125 rfl (lv_at hl 1 rfl) ?_
                    refine gr_X14_10 F hB dX14_make_126 (inv_A hI121) (inv_r1 hI121) ?_
                    refine sg_callV (ci := 4) F hB (m_size l D cy (by exact (inv_tD hI121).1) _) (cwV 0 F.1.2.2.2.2 (mgV (mm_3 _ (List.mem_of_getElem? (i := 18) rfl)) (mm_3 _ (List.mem_of_getElem? (i := 19) rfl)) (mm_3 _ (List.mem_of_getElem? (i := 20) rfl)) (mm_0 _ (List.mem_of_getElem? (i := 35) rfl)) (mm_3 _ (List.mem_of_getElem? (i := 16) rfl))) rfl rfl rfl ⟨rfl, by decide, by decide, by decide +kernel⟩ ⟨Nat.le_of_ble_eq_true rfl, Nat.le_of_ble_eq_true rfl⟩) rfl rfl (by decide) rfl hl.1 rfl (Nat.le_of_ble_eq_true rfl) dX14_make_129 (Nat.le_of_ble_eq_true rfl) (Nat.add_le_add_right (Nat.le_of_ble_eq_true rfl) _) (inv_tD hI121).1 (fun H locs v σ129 N hBn hX129 hP => ?_)
                    clear hB; have hB := hBn; clear hBn
                    obtain ⟨rfl, rfl⟩ := hP
                    refine lv_iconst (v := 1) hx hb dX14_make_132 (by decide) ?_
                    refine lv_isub hx hb dX14_make_133 ?_
                    exact sg_iret F hB hrt dX14_make_134 (by decide) (by decide) (⟨_, 0, rfl, th121, Or.inr (Or.inr ⟨rfl, m_decN (inv_sz hI121).1 z3, ⟨(by first | exact Or.inl c3 | exact Or.inr (Or.inl c9) | exact Or.inr (Or.inr c15)), sgb_t hb21 c24, sgb_t hb30 c33, sgb_t hb41 c44, (by first | exact fun z => c63 z.1 | exact fun z => z.2 c67)⟩, hn16, _, ⟨(by exact hY), nH_N hH z2 (fun z => by have q : sgT σ q107 = 0 := hq107; rw [z, (inv_dv h (k := 0) z2).2.1] at q; exact absurd q (by decide))⟩, hI121⟩)⟩)
                  · refine lv_iconst (v := 2) hx hb dX14_make_86 (by decide) ?_
                    refine lv_goto (tgt := 91) hx hb dX14_make_87 (by decide) ?_
                    refine pf_X14_61 F hB dX14_make_91 (inv_A h) (fun H locs hBn => ?_)
                    clear hB; have hB := hBn; clear hBn
                    have hI91 := inv_PIc (t := 20) hB h (inv_A h) (by unfold iCn; omega)
                    refine lv_aload_n hx hb dX14_make_94 rfl (lv_at hl 1 rfl) ?_
                    refine gf_X14_61 F hB dX14_make_95 (inv_A hI91) ?_
                    rw [sgI_PI, if_pos ⟨rfl, rfl⟩]
                    refine lv_if_le (tgt := 103) hx hb dX14_make_98 (by decide) (fun c98 => (by first | exact absurd c98 (by decide) | exact (c98 (by decide)).elim)) (fun c98 => ?_)
                    refine lv_iconst (v := 0) hx hb dX14_make_101 (by decide) ?_
                    exact sg_iret F hB hrt dX14_make_102 (by decide) (by decide) (by first | exact ⟨_, 1, rfl, (by rw [sgI_PI, if_pos ⟨rfl, rfl⟩]), Or.inl ⟨rfl, rfl, (by first | exact fun z => z.1.elim c3 (fun q => q.elim c9 c15) | exact fun z => (sgb_f hb21 c24) z.2.1 | exact fun z => (sgb_f hb30 c33) z.2.2.1 | exact fun z => (sgb_f hb41 c44) z.2.2.2.1 | exact fun z => z.2.2.2.2 ⟨c63, c67⟩), hI91⟩⟩ | exact ⟨_, 2, rfl, (by rw [sgI_PI, if_pos ⟨rfl, rfl⟩]), Or.inr (Or.inl ⟨rfl, rfl, ⟨(by first | exact Or.inl c3 | exact Or.inr (Or.inl c9) | exact Or.inr (Or.inr c15)), sgb_t hb21 c24, sgb_t hb30 c33, sgb_t hb41 c44, (by first | exact fun z => c63 z.1 | exact fun z => z.2 c67)⟩, (by have e16 : (16 : Int32).toInt = 16 := rfl; rw [c83] at z1; omega), hI91⟩)⟩)
                · refine lv_iconst (v := 1) hx hb dX14_make_70 (by decide) ?_
                  refine lv_goto (tgt := 91) hx hb dX14_make_71 (by decide) ?_
                  refine pf_X14_61 F hB dX14_make_91 (inv_A h) (fun H locs hBn => ?_)
                  clear hB; have hB := hBn; clear hBn
                  have hI91 := inv_PIc (t := 20) hB h (inv_A h) (by unfold iCn; omega)
                  refine lv_aload_n hx hb dX14_make_94 rfl (lv_at hl 1 rfl) ?_
                  refine gf_X14_61 F hB dX14_make_95 (inv_A hI91) ?_
                  rw [sgI_PI, if_pos ⟨rfl, rfl⟩]
                  refine lv_if_le (tgt := 103) hx hb dX14_make_98 (by decide) (fun c98 => (by first | exact absurd c98 (by decide) | exact (c98 (by decide)).elim)) (fun c98 => ?_)
                  refine lv_iconst (v := 0) hx hb dX14_make_101 (by decide) ?_
                  exact sg_iret F hB hrt dX14_make_102 (by decide) (by decide) (by first | exact ⟨_, 1, rfl, (by rw [sgI_PI, if_pos ⟨rfl, rfl⟩]), Or.inl ⟨rfl, rfl, (by first | exact fun z => z.1.elim c3 (fun q => q.elim c9 c15) | exact fun z => (sgb_f hb21 c24) z.2.1 | exact fun z => (sgb_f hb30 c33) z.2.2.1 | exact fun z => (sgb_f hb41 c44) z.2.2.2.1 | exact fun z => z.2.2.2.2 ⟨c63, c67⟩), hI91⟩⟩ | exact ⟨_, 2, rfl, (by rw [sgI_PI, if_pos ⟨rfl, rfl⟩]), Or.inr (Or.inl ⟨rfl, rfl, ⟨(by first | exact Or.inl c3 | exact Or.inr (Or.inl c9) | exact Or.inr (Or.inr c15)), sgb_t hb21 c24, sgb_t hb30 c33, sgb_t hb41 c44, (by first | exact fun z => c63 z.1 | exact fun z => z.2 c67)⟩, (by have e16 : (16 : Int32).toInt = 16 := rfl; rw [c83] at z1; omega), hI91⟩)⟩)
end MM34
