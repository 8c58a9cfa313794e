section CLK12
theorem dX9_firstNewDevice_0 : decode cX9_firstNewDevice 0 = .ok (.aconst_null, 1) := by decide +kernel
theorem dX9_firstNewDevice_1 : decode cX9_firstNewDevice 1 = .ok (.astore_n 1, 1) := by decide +kernel
theorem dX9_firstNewDevice_2 : decode cX9_firstNewDevice 2 = .ok (.iconst 0, 1) := by decide +kernel
theorem dX9_firstNewDevice_3 : decode cX9_firstNewDevice 3 = .ok (.istore_n 2, 1) := by decide +kernel
theorem dX9_firstNewDevice_4 : decode cX9_firstNewDevice 4 = .ok (.iload_n 2, 1) := by decide +kernel
theorem dX9_firstNewDevice_5 : decode cX9_firstNewDevice 5 = .ok (.bipush 16, 2) := by decide +kernel
theorem dX9_firstNewDevice_7 : decode cX9_firstNewDevice 7 = .ok (.if_icmp .ge 73, 3) := by decide +kernel
theorem dX9_firstNewDevice_10 : decode cX9_firstNewDevice 10 = .ok (.aload_n 0, 1) := by decide +kernel
theorem dX9_firstNewDevice_11 : decode cX9_firstNewDevice 11 = .ok (.getfield 11, 3) := by decide +kernel
theorem dX9_firstNewDevice_14 : decode cX9_firstNewDevice 14 = .ok (.iload_n 2, 1) := by decide +kernel
theorem dX9_firstNewDevice_15 : decode cX9_firstNewDevice 15 = .ok (.aaload, 1) := by decide +kernel
theorem dX9_firstNewDevice_16 : decode cX9_firstNewDevice 16 = .ok (.astore_n 3, 1) := by decide +kernel
theorem dX9_firstNewDevice_17 : decode cX9_firstNewDevice 17 = .ok (.aload_n 3, 1) := by decide +kernel
theorem dX9_firstNewDevice_18 : decode cX9_firstNewDevice 18 = .ok (.getfield 74, 3) := by decide +kernel
theorem dX9_firstNewDevice_21 : decode cX9_firstNewDevice 21 = .ok (.bipush 110, 2) := by decide +kernel
theorem dX9_firstNewDevice_23 : decode cX9_firstNewDevice 23 = .ok (.if_icmp .ne 26, 3) := by decide +kernel
theorem dX9_firstNewDevice_26 : decode cX9_firstNewDevice 26 = .ok (.aload_n 3, 1) := by decide +kernel
theorem dX9_firstNewDevice_27 : decode cX9_firstNewDevice 27 = .ok (.getfield 171, 3) := by decide +kernel
theorem dX9_firstNewDevice_30 : decode cX9_firstNewDevice 30 = .ok (.ifnull 19, 3) := by decide +kernel
theorem dX9_firstNewDevice_33 : decode cX9_firstNewDevice 33 = .ok (.aload_n 3, 1) := by decide +kernel
theorem dX9_firstNewDevice_34 : decode cX9_firstNewDevice 34 = .ok (.getfield 171, 3) := by decide +kernel
theorem dX9_firstNewDevice_37 : decode cX9_firstNewDevice 37 = .ok (.getfield 74, 3) := by decide +kernel
theorem dX9_firstNewDevice_40 : decode cX9_firstNewDevice 40 = .ok (.bipush 99, 2) := by decide +kernel
theorem dX9_firstNewDevice_42 : decode cX9_firstNewDevice 42 = .ok (.if_icmp .ne 7, 3) := by decide +kernel
theorem dX9_firstNewDevice_45 : decode cX9_firstNewDevice 45 = .ok (.iconst 1, 1) := by decide +kernel
theorem dX9_firstNewDevice_46 : decode cX9_firstNewDevice 46 = .ok (.goto 4, 3) := by decide +kernel
theorem dX9_firstNewDevice_49 : decode cX9_firstNewDevice 49 = .ok (.iconst 0, 1) := by decide +kernel
theorem dX9_firstNewDevice_50 : decode cX9_firstNewDevice 50 = .ok (.istore 4, 2) := by decide +kernel
theorem dX9_firstNewDevice_52 : decode cX9_firstNewDevice 52 = .ok (.iload 4, 2) := by decide +kernel
theorem dX9_firstNewDevice_54 : decode cX9_firstNewDevice 54 = .ok (.ifCond .eq 20, 3) := by decide +kernel
theorem dX9_firstNewDevice_57 : decode cX9_firstNewDevice 57 = .ok (.aload_n 1, 1) := by decide +kernel
theorem dX9_firstNewDevice_58 : decode cX9_firstNewDevice 58 = .ok (.ifnull 14, 3) := by decide +kernel
theorem dX9_firstNewDevice_61 : decode cX9_firstNewDevice 61 = .ok (.aload_n 3, 1) := by decide +kernel
theorem dX9_firstNewDevice_62 : decode cX9_firstNewDevice 62 = .ok (.getfield 78, 3) := by decide +kernel
theorem dX9_firstNewDevice_65 : decode cX9_firstNewDevice 65 = .ok (.aload_n 1, 1) := by decide +kernel
theorem dX9_firstNewDevice_66 : decode cX9_firstNewDevice 66 = .ok (.getfield 78, 3) := by decide +kernel
theorem dX9_firstNewDevice_69 : decode cX9_firstNewDevice 69 = .ok (.if_icmp .ge 5, 3) := by decide +kernel
theorem dX9_firstNewDevice_72 : decode cX9_firstNewDevice 72 = .ok (.aload_n 3, 1) := by decide +kernel
theorem dX9_firstNewDevice_73 : decode cX9_firstNewDevice 73 = .ok (.astore_n 1, 1) := by decide +kernel
theorem dX9_firstNewDevice_74 : decode cX9_firstNewDevice 74 = .ok (.iinc 2 1, 3) := by decide +kernel
theorem dX9_firstNewDevice_77 : decode cX9_firstNewDevice 77 = .ok (.goto (-73), 3) := by decide +kernel
theorem dX9_firstNewDevice_80 : decode cX9_firstNewDevice 80 = .ok (.aload_n 1, 1) := by decide +kernel
theorem dX9_firstNewDevice_81 : decode cX9_firstNewDevice 81 = .ok (.areturn, 1) := by decide +kernel
set_option maxRecDepth 100000 in
set_option maxHeartbeats 4000000 in
theorem k_fnd (l : Launch) (D : va_G) (cy : Nat → ClassId) {ad τ : List Nat} {Y : CY} {σ : SG} (hV : VL cy ad τ Y σ)  (sz : Nat) : clM l D cy ad τ Y σ sz yX9_firstNewDevice (Cond.code yX9_firstNewDevice cX9_firstNewDevice 5 (some (.object "Hubcascade$Device")) :: vWall) 0 0 [.ref (yX Y)] (fun v s2 => (∃ r1 : Option Nat, v = some (va_rf r1) ∧ (r1 = none ∨ ∃ i, i < 16 ∧ r1 = some (yd Y i) ∧ sgI σ (yd Y i) 7 = 110 ∧ ∃ b, sgR σ (yd Y i) 8 = some b)) ∧ σ = s2) := by
  refine cl_ofW (cc := cX9_firstNewDevice) (maxL := 5) (ret := (some (.object "Hubcascade$Device"))) hV (by decide) rfl (Nat.le_of_ble_eq_true rfl) (lv := [(0, .ref (yX Y))]) rfl (fun p e s m below meth c ls H hrt hnm F hB hl => ?_) sz
  have hx := F.1.1
  have hb := F.1.2.1
  have hown := F.1.2.2.2.1
  generalize hlo : ([] : List Loc) = locs at hB ⊢
  clear hlo
  obtain ⟨LX, LD, Ld, LE, Le, LP9, Lp, Lt, LU, LA, Lz⟩ := hV.2
  have e0 : (0 : Int32).toInt = 0 := rfl
  have e1 : (1 : Int32).toInt = 1 := rfl
  have e16 : (16 : Int32).toInt = 16 := rfl
  have e12 : (12 : Int32).toInt = 12 := rfl
  refine lv_null hx hb dX9_firstNewDevice_0 ?_
  refine lv_astore_nN (lv' := [(1, .null), (0, .ref _)]) hx hb dX9_firstNewDevice_1 rfl hl (by decide) rfl (fun ls hl => ?_)
  refine lv_iconst (v := 0) hx hb dX9_firstNewDevice_2 (by decide) ?_
  refine lv_istore_n (lv' := [(2, .int _), (1, .null), (0, .ref _)]) hx hb dX9_firstNewDevice_3 rfl hl (by decide) rfl (fun ls hl => ?_)
  have key4 : ∃ (i2 : Int32) (r1 : Option Nat), clB D cy ad τ Y s σ H locs ∧ lv_has ls 5 [(2, .int i2), (1, va_rf r1), (0, .ref (yX Y))] ∧ (0 ≤ i2.toInt ∧ i2.toInt ≤ 16) ∧ (r1 = none ∨ ∃ i, i < 16 ∧ r1 = some (yd Y i) ∧ sgI σ (yd Y i) 7 = 110 ∧ ∃ b, sgR σ (yd Y i) 8 = some b) := ⟨_, none, hB, (lv_sub hl [0, 1, 2] rfl), ⟨by decide, by decide⟩, Or.inl rfl⟩
  clear hB hl
  obtain ⟨i2, r1, hB, hl, hi2, hr1⟩ := key4
  obtain ⟨d4, hd4⟩ : ∃ d : Nat, d = 20 - i2.toInt.toNat := ⟨_, rfl⟩
  induction d4 using Nat.strongRecOn generalizing H locs ls i2 r1
  rename_i d4 ih4
  refine lv_iload_n hx hb dX9_firstNewDevice_4 rfl (lv_at hl 0 rfl) ?_
  refine lv_bipush (v := 16) hx hb dX9_firstNewDevice_5 (by decide) ?_
  refine lv_icmp_ge (tgt := 80) hx hb dX9_firstNewDevice_7 (by decide) (fun c7 => ?_) (fun c7 => ?_)
  · refine cl_aldQ hx hb dX9_firstNewDevice_80 rfl (lv_at hl 1 rfl) ?_
    exact cl_aret F hB hrt (Or.inl ⟨_, rfl⟩) (by cases r1 with | none => exact Or.inl rfl | some x => exact Or.inr ⟨_, rfl⟩) dX9_firstNewDevice_81 (⟨⟨r1, rfl, hr1⟩, rfl⟩)
  · refine lv_aload_n hx hb dX9_firstNewDevice_10 rfl (lv_at hl 2 rfl) ?_
    have hn := i_nle c7
    have hj : i2.toInt.toNat < 16 := by omega
    refine gr_X9_11 F hB dX9_firstNewDevice_11 LX.1 LX.2.1 ?_
    refine lv_iload_n hx hb dX9_firstNewDevice_14 rfl (lv_at hl 0 rfl) ?_
    refine sg_aald 4 hx hb F.2.1 hB.1 rfl rfl dX9_firstNewDevice_15 LD.1 (by omega) (by rw [LD.2.1]; omega) (by rw [LD.2.1]; decide) ?_
    rw [show sgR _ _ _ = some _ from LD.2.2 _ hj]
    refine lv_astore_n (lv' := [(3, .ref _), (2, .int _), (1, va_rf _), (0, .ref _)]) hx hb dX9_firstNewDevice_16 rfl hl (by decide) rfl (fun ls hl => ?_)
    refine lv_aload_n hx hb dX9_firstNewDevice_17 rfl (lv_at hl 0 rfl) ?_
    refine gf_X9_74 F hB dX9_firstNewDevice_18 (Ld _ hj).1 ?_
    refine lv_bipush (v := 110) hx hb dX9_firstNewDevice_21 (by decide) ?_
    refine lv_icmp_ne (tgt := 49) hx hb dX9_firstNewDevice_23 (by decide) (fun c23 => ?_) (fun c23 => ?_)
    · refine lv_iconst (v := 0) hx hb dX9_firstNewDevice_49 (by decide) ?_
      refine lv_istore (lv' := [(4, .int _), (3, .ref _), (2, .int _), (1, va_rf _), (0, .ref _)]) hx hb dX9_firstNewDevice_50 hl (by decide) rfl (fun ls hl => ?_)
      refine lv_iload hx hb dX9_firstNewDevice_52 (lv_at hl 0 rfl) ?_
      refine lv_if_eq (tgt := 74) hx hb dX9_firstNewDevice_54 (by decide) (fun c54 => ?_) (fun c54 => (by first | exact absurd c54 (by decide) | exact (c54 (by decide)).elim))
      refine lv_iinc (lv' := [(2, .int _), (4, .int _), (3, .ref _), (1, va_rf _), (0, .ref _)]) hx hb dX9_firstNewDevice_74 hl (k := 2) rfl rfl (by decide) (by first | rfl | exact flt_q | exact flt_q3 | exact flt_q4) (fun ls hl => ?_)
      refine lv_goto (tgt := 4) hx hb dX9_firstNewDevice_77 (by decide) ?_
      have q9 := cl_add1 (x := i2) (by omega) (by omega)
      first | exact ih4 _ (by subst hd4; rw [q9]; omega) _ _ _ _ (some (yd Y i2.toInt.toNat)) hB (lv_sub hl [0, 3, 4] rfl) ⟨by rw [q9]; omega, by rw [q9]; omega⟩ (Or.inr ⟨_, hj, rfl, c23, _, hz27⟩) rfl | exact ih4 _ (by subst hd4; rw [q9]; omega) _ _ _ _ (r1) hB (lv_sub hl [0, 3, 4] rfl) ⟨by rw [q9]; omega, by rw [q9]; omega⟩ (hr1) rfl | exact ih4 _ (by subst hd4; rw [q9]; omega) _ _ _ _ (some b58) hB (lv_sub hl [0, 3, 4] rfl) ⟨by rw [q9]; omega, by rw [q9]; omega⟩ (hr1) rfl | fail "no road"
    · refine lv_aload_n hx hb dX9_firstNewDevice_26 rfl (lv_at hl 0 rfl) ?_
      refine gf_X9_171 F hB dX9_firstNewDevice_27 (Ld _ hj).1 ?_
      refine sg_split (fun hz27 => ?_) (fun b27 hz27 => ?_)
      · skip
        refine lv_ifnullN (tgt := 49) hx hb dX9_firstNewDevice_30 (by decide) ?_
        refine lv_iconst (v := 0) hx hb dX9_firstNewDevice_49 (by decide) ?_
        refine lv_istore (lv' := [(4, .int _), (3, .ref _), (2, .int _), (1, va_rf _), (0, .ref _)]) hx hb dX9_firstNewDevice_50 hl (by decide) rfl (fun ls hl => ?_)
        refine lv_iload hx hb dX9_firstNewDevice_52 (lv_at hl 0 rfl) ?_
        refine lv_if_eq (tgt := 74) hx hb dX9_firstNewDevice_54 (by decide) (fun c54 => ?_) (fun c54 => (by first | exact absurd c54 (by decide) | exact (c54 (by decide)).elim))
        refine lv_iinc (lv' := [(2, .int _), (4, .int _), (3, .ref _), (1, va_rf _), (0, .ref _)]) hx hb dX9_firstNewDevice_74 hl (k := 2) rfl rfl (by decide) (by first | rfl | exact flt_q | exact flt_q3 | exact flt_q4) (fun ls hl => ?_)
        refine lv_goto (tgt := 4) hx hb dX9_firstNewDevice_77 (by decide) ?_
        have q9 := cl_add1 (x := i2) (by omega) (by omega)
        first | exact ih4 _ (by subst hd4; rw [q9]; omega) _ _ _ _ (some (yd Y i2.toInt.toNat)) hB (lv_sub hl [0, 3, 4] rfl) ⟨by rw [q9]; omega, by rw [q9]; omega⟩ (Or.inr ⟨_, hj, rfl, c23, _, hz27⟩) rfl | exact ih4 _ (by subst hd4; rw [q9]; omega) _ _ _ _ (r1) hB (lv_sub hl [0, 3, 4] rfl) ⟨by rw [q9]; omega, by rw [q9]; omega⟩ (hr1) rfl | exact ih4 _ (by subst hd4; rw [q9]; omega) _ _ _ _ (some b58) hB (lv_sub hl [0, 3, 4] rfl) ⟨by rw [q9]; omega, by rw [q9]; omega⟩ (hr1) rfl | fail "no road"
      · skip
        refine lv_ifnull hx hb dX9_firstNewDevice_30 ?_
        refine lv_aload_n hx hb dX9_firstNewDevice_33 rfl (lv_at hl 0 rfl) ?_
        refine gr_X9_171 F hB dX9_firstNewDevice_34 (Ld _ hj).1 hz27 ?_
        refine gf_X9_74 F hB dX9_firstNewDevice_37 (dv_T hB.2 (Ld _ hj).1 hz27) ?_
        refine lv_bipush (v := 99) hx hb dX9_firstNewDevice_40 (by decide) ?_
        refine lv_icmp_ne (tgt := 49) hx hb dX9_firstNewDevice_42 (by decide) (fun c42 => ?_) (fun c42 => ?_)
        · refine lv_iconst (v := 0) hx hb dX9_firstNewDevice_49 (by decide) ?_
          refine lv_istore (lv' := [(4, .int _), (3, .ref _), (2, .int _), (1, va_rf _), (0, .ref _)]) hx hb dX9_firstNewDevice_50 hl (by decide) rfl (fun ls hl => ?_)
          refine lv_iload hx hb dX9_firstNewDevice_52 (lv_at hl 0 rfl) ?_
          refine lv_if_eq (tgt := 74) hx hb dX9_firstNewDevice_54 (by decide) (fun c54 => ?_) (fun c54 => (by first | exact absurd c54 (by decide) | exact (c54 (by decide)).elim))
          refine lv_iinc (lv' := [(2, .int _), (4, .int _), (3, .ref _), (1, va_rf _), (0, .ref _)]) hx hb dX9_firstNewDevice_74 hl (k := 2) rfl rfl (by decide) (by first | rfl | exact flt_q | exact flt_q3 | exact flt_q4) (fun ls hl => ?_)
          refine lv_goto (tgt := 4) hx hb dX9_firstNewDevice_77 (by decide) ?_
          have q9 := cl_add1 (x := i2) (by omega) (by omega)
          first | exact ih4 _ (by subst hd4; rw [q9]; omega) _ _ _ _ (some (yd Y i2.toInt.toNat)) hB (lv_sub hl [0, 3, 4] rfl) ⟨by rw [q9]; omega, by rw [q9]; omega⟩ (Or.inr ⟨_, hj, rfl, c23, _, hz27⟩) rfl | exact ih4 _ (by subst hd4; rw [q9]; omega) _ _ _ _ (r1) hB (lv_sub hl [0, 3, 4] rfl) ⟨by rw [q9]; omega, by rw [q9]; omega⟩ (hr1) rfl | exact ih4 _ (by subst hd4; rw [q9]; omega) _ _ _ _ (some b58) hB (lv_sub hl [0, 3, 4] rfl) ⟨by rw [q9]; omega, by rw [q9]; omega⟩ (hr1) rfl | fail "no road"
        · refine lv_iconst (v := 1) hx hb dX9_firstNewDevice_45 (by decide) ?_
          refine lv_goto (tgt := 50) hx hb dX9_firstNewDevice_46 (by decide) ?_
          refine lv_istore (lv' := [(4, .int _), (3, .ref _), (2, .int _), (1, va_rf _), (0, .ref _)]) hx hb dX9_firstNewDevice_50 hl (by decide) rfl (fun ls hl => ?_)
          refine lv_iload hx hb dX9_firstNewDevice_52 (lv_at hl 0 rfl) ?_
          refine lv_if_eq (tgt := 74) hx hb dX9_firstNewDevice_54 (by decide) (fun c54 => (by first | exact absurd c54 (by decide) | exact (c54 (by decide)).elim)) (fun c54 => ?_)
          refine cl_aldQ hx hb dX9_firstNewDevice_57 rfl (lv_at hl 3 rfl) ?_
          refine sg_split (fun hz58 => ?_) (fun b58 hz58 => ?_)
          · refine lv_ifnullN (tgt := 72) hx hb dX9_firstNewDevice_58 (by decide) ?_
            refine lv_aload_n hx hb dX9_firstNewDevice_72 rfl (lv_at hl 1 rfl) ?_
            refine lv_astore_n (lv' := [(1, .ref _), (4, .int _), (3, .ref _), (2, .int _), (0, .ref _)]) hx hb dX9_firstNewDevice_73 rfl hl (by decide) rfl (fun ls hl => ?_)
            refine lv_iinc (lv' := [(2, .int _), (1, .ref _), (4, .int _), (3, .ref _), (0, .ref _)]) hx hb dX9_firstNewDevice_74 hl (k := 3) rfl rfl (by decide) rfl (fun ls hl => ?_)
            refine lv_goto (tgt := 4) hx hb dX9_firstNewDevice_77 (by decide) ?_
            have q9 := cl_add1 (x := i2) (by omega) (by omega)
            first | exact ih4 _ (by subst hd4; rw [q9]; omega) _ _ _ _ (some (yd Y i2.toInt.toNat)) hB (lv_sub hl [0, 1, 4] rfl) ⟨by rw [q9]; omega, by rw [q9]; omega⟩ (Or.inr ⟨_, hj, rfl, c23, _, hz27⟩) rfl | exact ih4 _ (by subst hd4; rw [q9]; omega) _ _ _ _ (r1) hB (lv_sub hl [0, 1, 4] rfl) ⟨by rw [q9]; omega, by rw [q9]; omega⟩ (hr1) rfl | exact ih4 _ (by subst hd4; rw [q9]; omega) _ _ _ _ (some b58) hB (lv_sub hl [0, 1, 4] rfl) ⟨by rw [q9]; omega, by rw [q9]; omega⟩ (hr1) rfl | fail "no road"
          · refine lv_ifnull hx hb dX9_firstNewDevice_58 ?_
            subst hz58
            have tb58 : sgT σ b58 = 7 := by
              rcases hr1 with w | ⟨i9, w1, w2, -⟩
              · cases w
              · cases w2; exact (Ld _ w1).1
            refine lv_aload_n hx hb dX9_firstNewDevice_61 rfl (lv_at hl 1 rfl) ?_
            refine gf_X9_78 F hB dX9_firstNewDevice_62 (Ld _ hj).1 ?_
            refine lv_aload_n hx hb dX9_firstNewDevice_65 rfl (lv_at hl 3 rfl) ?_
            refine gf_X9_78 F hB dX9_firstNewDevice_66 tb58 ?_
            refine lv_icmp_ge (tgt := 74) hx hb dX9_firstNewDevice_69 (by decide) (fun c69 => ?_) (fun c69 => ?_)
            · refine lv_iinc (lv' := [(2, .int _), (4, .int _), (3, .ref _), (1, .ref _), (0, .ref _)]) hx hb dX9_firstNewDevice_74 hl (k := 2) rfl rfl (by decide) rfl (fun ls hl => ?_)
              refine lv_goto (tgt := 4) hx hb dX9_firstNewDevice_77 (by decide) ?_
              have q9 := cl_add1 (x := i2) (by omega) (by omega)
              first | exact ih4 _ (by subst hd4; rw [q9]; omega) _ _ _ _ (some (yd Y i2.toInt.toNat)) hB (lv_sub hl [0, 3, 4] rfl) ⟨by rw [q9]; omega, by rw [q9]; omega⟩ (Or.inr ⟨_, hj, rfl, c23, _, hz27⟩) rfl | exact ih4 _ (by subst hd4; rw [q9]; omega) _ _ _ _ (r1) hB (lv_sub hl [0, 3, 4] rfl) ⟨by rw [q9]; omega, by rw [q9]; omega⟩ (hr1) rfl | exact ih4 _ (by subst hd4; rw [q9]; omega) _ _ _ _ (some b58) hB (lv_sub hl [0, 3, 4] rfl) ⟨by rw [q9]; omega, by rw [q9]; omega⟩ (hr1) rfl | fail "no road"
            · refine lv_aload_n hx hb dX9_firstNewDevice_72 rfl (lv_at hl 1 rfl) ?_
              refine lv_astore_n (lv' := [(1, .ref _), (4, .int _), (3, .ref _), (2, .int _), (0, .ref _)]) hx hb dX9_firstNewDevice_73 rfl hl (by decide) rfl (fun ls hl => ?_)
              refine lv_iinc (lv' := [(2, .int _), (1, .ref _), (4, .int _), (3, .ref _), (0, .ref _)]) hx hb dX9_firstNewDevice_74 hl (k := 3) rfl rfl (by decide) rfl (fun ls hl => ?_)
              refine lv_goto (tgt := 4) hx hb dX9_firstNewDevice_77 (by decide) ?_
              have q9 := cl_add1 (x := i2) (by omega) (by omega)
              first | exact ih4 _ (by subst hd4; rw [q9]; omega) _ _ _ _ (some (yd Y i2.toInt.toNat)) hB (lv_sub hl [0, 1, 4] rfl) ⟨by rw [q9]; omega, by rw [q9]; omega⟩ (Or.inr ⟨_, hj, rfl, c23, _, hz27⟩) rfl | exact ih4 _ (by subst hd4; rw [q9]; omega) _ _ _ _ (r1) hB (lv_sub hl [0, 1, 4] rfl) ⟨by rw [q9]; omega, by rw [q9]; omega⟩ (hr1) rfl | exact ih4 _ (by subst hd4; rw [q9]; omega) _ _ _ _ (some b58) hB (lv_sub hl [0, 1, 4] rfl) ⟨by rw [q9]; omega, by rw [q9]; omega⟩ (hr1) rfl | fail "no road"

theorem dX9_portPower_0 : decode cX9_portPower 0 = .ok (.aload_n 0, 1) := by decide +kernel
theorem dX9_portPower_1 : decode cX9_portPower 1 = .ok (.getfield 171, 3) := by decide +kernel
theorem dX9_portPower_4 : decode cX9_portPower 4 = .ok (.ifnull 17, 3) := by decide +kernel
theorem dX9_portPower_7 : decode cX9_portPower 7 = .ok (.aload_n 0, 1) := by decide +kernel
theorem dX9_portPower_8 : decode cX9_portPower 8 = .ok (.getfield 171, 3) := by decide +kernel
theorem dX9_portPower_11 : decode cX9_portPower 11 = .ok (.getfield 70, 3) := by decide +kernel
theorem dX9_portPower_14 : decode cX9_portPower 14 = .ok (.ifCond .eq 7, 3) := by decide +kernel
theorem dX9_portPower_17 : decode cX9_portPower 17 = .ok (.iconst 5, 1) := by decide +kernel
theorem dX9_portPower_18 : decode cX9_portPower 18 = .ok (.goto 4, 3) := by decide +kernel
theorem dX9_portPower_21 : decode cX9_portPower 21 = .ok (.iconst 1, 1) := by decide +kernel
theorem dX9_portPower_22 : decode cX9_portPower 22 = .ok (.ireturn, 1) := by decide +kernel
set_option maxRecDepth 100000 in
set_option maxHeartbeats 4000000 in
theorem k_pp (l : Launch) (D : va_G) (cy : Nat → ClassId) {ad τ : List Nat} {Y : CY} {σ : SG} (hV : VL cy ad τ Y σ) {i : Nat} (hi : i < 16) (sz : Nat) : clM l D cy ad τ Y σ sz yX9_portPower (Cond.code yX9_portPower cX9_portPower 1 (some .int) :: vWall) 0 0 [.ref (yd Y i)] (fun v s2 => (∃ b : Int32, v = some (.int b)) ∧ σ = s2) := by
  refine cl_ofW (cc := cX9_portPower) (maxL := 1) (ret := (some .int)) hV (by decide) rfl (Nat.le_of_ble_eq_true rfl) (lv := [(0, .ref (yd Y i))]) rfl (fun p e s m below meth c ls H hrt hnm F hB hl => ?_) sz
  have hx := F.1.1
  have hb := F.1.2.1
  have hown := F.1.2.2.2.1
  obtain ⟨LX, LD, Ld, LE, Le, LP9, Lp, Lt, LU, LA, Lz⟩ := hV.2
  refine lv_aload_n hx hb dX9_portPower_0 rfl (lv_at hl 0 rfl) ?_
  refine gf_X9_171 F hB dX9_portPower_1 (Ld _ hi).1 ?_
  refine sg_split (fun hz1 => ?_) (fun b1 hz1 => ?_)
  · skip
    refine lv_ifnullN (tgt := 21) hx hb dX9_portPower_4 (by decide) ?_
    refine lv_iconst (v := 1) hx hb dX9_portPower_21 (by decide) ?_
    exact cl_iret F hB hrt dX9_portPower_22 (⟨⟨_, rfl⟩, rfl⟩)
  · skip
    refine lv_ifnull hx hb dX9_portPower_4 ?_
    refine lv_aload_n hx hb dX9_portPower_7 rfl (lv_at hl 0 rfl) ?_
    refine gr_X9_171 F hB dX9_portPower_8 (Ld _ hi).1 hz1 ?_
    refine gf_X9_70 F hB dX9_portPower_11 (dv_T hB.2 (Ld _ hi).1 hz1) ?_
    refine lv_if_eq (tgt := 21) hx hb dX9_portPower_14 (by decide) (fun c14 => ?_) (fun c14 => ?_)
    · refine lv_iconst (v := 1) hx hb dX9_portPower_21 (by decide) ?_
      exact cl_iret F hB hrt dX9_portPower_22 (⟨⟨_, rfl⟩, rfl⟩)
    · refine lv_iconst (v := 5) hx hb dX9_portPower_17 (by decide) ?_
      refine lv_goto (tgt := 22) hx hb dX9_portPower_18 (by decide) ?_
      exact cl_iret F hB hrt dX9_portPower_22 (⟨⟨_, rfl⟩, rfl⟩)

theorem dX9_hasTransferWithin_0 : decode cX9_hasTransferWithin 0 = .ok (.iconst 0, 1) := by decide +kernel
theorem dX9_hasTransferWithin_1 : decode cX9_hasTransferWithin 1 = .ok (.istore_n 2, 1) := by decide +kernel
theorem dX9_hasTransferWithin_2 : decode cX9_hasTransferWithin 2 = .ok (.iload_n 2, 1) := by decide +kernel
theorem dX9_hasTransferWithin_3 : decode cX9_hasTransferWithin 3 = .ok (.bipush 12, 2) := by decide +kernel
theorem dX9_hasTransferWithin_5 : decode cX9_hasTransferWithin 5 = .ok (.if_icmp .ge 45, 3) := by decide +kernel
theorem dX9_hasTransferWithin_8 : decode cX9_hasTransferWithin 8 = .ok (.aload_n 0, 1) := by decide +kernel
theorem dX9_hasTransferWithin_9 : decode cX9_hasTransferWithin 9 = .ok (.getfield 24, 3) := by decide +kernel
theorem dX9_hasTransferWithin_12 : decode cX9_hasTransferWithin 12 = .ok (.iload_n 2, 1) := by decide +kernel
theorem dX9_hasTransferWithin_13 : decode cX9_hasTransferWithin 13 = .ok (.aaload, 1) := by decide +kernel
theorem dX9_hasTransferWithin_14 : decode cX9_hasTransferWithin 14 = .ok (.getfield 546, 3) := by decide +kernel
theorem dX9_hasTransferWithin_17 : decode cX9_hasTransferWithin 17 = .ok (.astore_n 3, 1) := by decide +kernel
theorem dX9_hasTransferWithin_18 : decode cX9_hasTransferWithin 18 = .ok (.aload_n 3, 1) := by decide +kernel
theorem dX9_hasTransferWithin_19 : decode cX9_hasTransferWithin 19 = .ok (.ifnull 25, 3) := by decide +kernel
theorem dX9_hasTransferWithin_22 : decode cX9_hasTransferWithin 22 = .ok (.aload_n 0, 1) := by decide +kernel
theorem dX9_hasTransferWithin_23 : decode cX9_hasTransferWithin 23 = .ok (.getfield 24, 3) := by decide +kernel
theorem dX9_hasTransferWithin_26 : decode cX9_hasTransferWithin 26 = .ok (.iload_n 2, 1) := by decide +kernel
theorem dX9_hasTransferWithin_27 : decode cX9_hasTransferWithin 27 = .ok (.aaload, 1) := by decide +kernel
theorem dX9_hasTransferWithin_28 : decode cX9_hasTransferWithin 28 = .ok (.getfield 356, 3) := by decide +kernel
theorem dX9_hasTransferWithin_31 : decode cX9_hasTransferWithin 31 = .ok (.ifCond .le 13, 3) := by decide +kernel
theorem dX9_hasTransferWithin_34 : decode cX9_hasTransferWithin 34 = .ok (.aload_n 3, 1) := by decide +kernel
theorem dX9_hasTransferWithin_35 : decode cX9_hasTransferWithin 35 = .ok (.aload_n 1, 1) := by decide +kernel
theorem dX9_hasTransferWithin_36 : decode cX9_hasTransferWithin 36 = .ok (.invokestatic 246, 3) := by decide +kernel
theorem dX9_hasTransferWithin_39 : decode cX9_hasTransferWithin 39 = .ok (.ifCond .eq 5, 3) := by decide +kernel
theorem dX9_hasTransferWithin_42 : decode cX9_hasTransferWithin 42 = .ok (.iconst 1, 1) := by decide +kernel
theorem dX9_hasTransferWithin_43 : decode cX9_hasTransferWithin 43 = .ok (.ireturn, 1) := by decide +kernel
theorem dX9_hasTransferWithin_44 : decode cX9_hasTransferWithin 44 = .ok (.iinc 2 1, 3) := by decide +kernel
theorem dX9_hasTransferWithin_47 : decode cX9_hasTransferWithin 47 = .ok (.goto (-45), 3) := by decide +kernel
theorem dX9_hasTransferWithin_50 : decode cX9_hasTransferWithin 50 = .ok (.iconst 0, 1) := by decide +kernel
theorem dX9_hasTransferWithin_51 : decode cX9_hasTransferWithin 51 = .ok (.ireturn, 1) := by decide +kernel
set_option maxRecDepth 100000 in
set_option maxHeartbeats 4000000 in
theorem k_htw (l : Launch) (D : va_G) (cy : Nat → ClassId) {ad τ : List Nat} {Y : CY} {σ : SG} (hV : VL cy ad τ Y σ) {i : Nat} (hi : i < 16) (sz : Nat) : clM l D cy ad τ Y σ sz yX9_hasTransferWithin (Cond.code yX9_hasTransferWithin cX9_hasTransferWithin 4 (some .boolean) :: vWall) 1 23 [.ref (yX Y), .ref (yd Y i)] (fun v s2 => (∃ b : Int32, v = some (.int b) ∧ sgF 2 b) ∧ σ = s2) := by
  refine cl_ofW (cc := cX9_hasTransferWithin) (maxL := 4) (ret := (some .boolean)) hV (by decide) rfl (Nat.le_of_ble_eq_true rfl) (lv := [(0, .ref (yX Y)), (1, .ref (yd Y i))]) rfl (fun p e s m below meth c ls H hrt hnm F hB hl => ?_) sz
  have hx := F.1.1
  have hb := F.1.2.1
  have hown := F.1.2.2.2.1
  generalize hlo : ([] : List Loc) = locs at hB ⊢
  clear hlo
  obtain ⟨LX, LD, Ld, LE, Le, LP9, Lp, Lt, LU, LA, Lz⟩ := hV.2
  have e0 : (0 : Int32).toInt = 0 := rfl
  have e1 : (1 : Int32).toInt = 1 := rfl
  have e16 : (16 : Int32).toInt = 16 := rfl
  have e12 : (12 : Int32).toInt = 12 := rfl
  refine lv_iconst (v := 0) hx hb dX9_hasTransferWithin_0 (by decide) ?_
  refine lv_istore_n (lv' := [(2, .int _), (0, .ref _), (1, .ref _)]) hx hb dX9_hasTransferWithin_1 rfl hl (by decide) rfl (fun ls hl => ?_)
  have key2 : ∃ i2 : Int32, clB D cy ad τ Y s σ H locs ∧ lv_has ls 4 [(2, .int i2), (1, .ref (yd Y i)), (0, .ref (yX Y))] ∧ (0 ≤ i2.toInt ∧ i2.toInt ≤ 12) ∧ 0 ≤ i2.toInt := ⟨_, hB, (lv_sub hl [0, 2, 1] rfl), ⟨by decide, by decide⟩, by decide⟩
  clear hB hl
  obtain ⟨i2, hB, hl, hi, hv⟩ := key2
  obtain ⟨d2, hd2⟩ : ∃ d : Nat, d = 20 - i2.toInt.toNat := ⟨_, rfl⟩
  induction d2 using Nat.strongRecOn generalizing H locs ls i2
  rename_i d2 ih2
  refine lv_iload_n hx hb dX9_hasTransferWithin_2 rfl (lv_at hl 0 rfl) ?_
  refine lv_bipush (v := 12) hx hb dX9_hasTransferWithin_3 (by decide) ?_
  refine lv_icmp_ge (tgt := 50) hx hb dX9_hasTransferWithin_5 (by decide) (fun c5 => ?_) (fun c5 => ?_)
  · refine lv_iconst (v := 0) hx hb dX9_hasTransferWithin_50 (by decide) ?_
    exact cl_zret F hB hrt dX9_hasTransferWithin_51 rfl (⟨⟨_, rfl, ⟨by decide, by decide⟩⟩, rfl⟩)
  · refine lv_aload_n hx hb dX9_hasTransferWithin_8 rfl (lv_at hl 2 rfl) ?_
    have hn := i_nle c5
    have hj : i2.toInt.toNat < 12 := by omega
    refine gr_X9_24 F hB dX9_hasTransferWithin_9 LX.1 LX.2.2.1 ?_
    refine lv_iload_n hx hb dX9_hasTransferWithin_12 rfl (lv_at hl 0 rfl) ?_
    refine sg_aald 6 hx hb F.2.1 hB.1 rfl rfl dX9_hasTransferWithin_13 LP9.1 (by omega) (by rw [LP9.2.1]; omega) (by rw [LP9.2.1]; decide) ?_
    rw [show sgR _ _ _ = some _ from LP9.2.2 _ hj]
    refine gf_X9_546 F hB dX9_hasTransferWithin_14 (Lp _ hj).1 ?_
    refine sg_split (fun hz14 => ?_) (fun b14 hz14 => ?_)
    · skip
      refine lv_astore_nN (lv' := [(3, .null), (2, .int _), (1, .ref _), (0, .ref _)]) hx hb dX9_hasTransferWithin_17 rfl hl (by decide) rfl (fun ls hl => ?_)
      refine lv_aload_nN hx hb dX9_hasTransferWithin_18 rfl (lv_at hl 0 rfl) ?_
      refine lv_ifnullN (tgt := 44) hx hb dX9_hasTransferWithin_19 (by decide) ?_
      refine lv_iinc (lv' := [(2, .int _), (3, .null), (1, .ref _), (0, .ref _)]) hx hb dX9_hasTransferWithin_44 hl (k := 1) rfl rfl (by decide) rfl (fun ls hl => ?_)
      refine lv_goto (tgt := 2) hx hb dX9_hasTransferWithin_47 (by decide) ?_
      have q9 := cl_add1 (x := i2) (by omega) (by omega)
      exact ih2 _ (by subst hd2; rw [q9]; omega) _ _ _ _ hB (lv_sub hl [0, 2, 3] rfl) ⟨by rw [q9]; omega, by rw [q9]; omega⟩ (by rw [q9]; omega) rfl
    · skip
      refine lv_astore_n (lv' := [(3, .ref _), (2, .int _), (1, .ref _), (0, .ref _)]) hx hb dX9_hasTransferWithin_17 rfl hl (by decide) rfl (fun ls hl => ?_)
      refine lv_aload_n hx hb dX9_hasTransferWithin_18 rfl (lv_at hl 0 rfl) ?_
      refine lv_ifnull hx hb dX9_hasTransferWithin_19 ?_
      refine lv_aload_n hx hb dX9_hasTransferWithin_22 rfl (lv_at hl 3 rfl) ?_
      refine gr_X9_24 F hB dX9_hasTransferWithin_23 LX.1 LX.2.2.1 ?_
      refine lv_iload_n hx hb dX9_hasTransferWithin_26 rfl (lv_at hl 1 rfl) ?_
      refine sg_aald 6 hx hb F.2.1 hB.1 rfl rfl dX9_hasTransferWithin_27 LP9.1 (by omega) (by rw [LP9.2.1]; omega) (by rw [LP9.2.1]; decide) ?_
      rw [show sgR _ _ _ = some _ from LP9.2.2 _ hj]
      refine gf_X9_356 F hB dX9_hasTransferWithin_28 (Lp _ hj).1 ?_
      refine lv_if_le (tgt := 44) hx hb dX9_hasTransferWithin_31 (by decide) (fun c31 => ?_) (fun c31 => ?_)
      · refine lv_iinc (lv' := [(2, .int _), (3, .ref _), (1, .ref _), (0, .ref _)]) hx hb dX9_hasTransferWithin_44 hl (k := 1) rfl rfl (by decide) rfl (fun ls hl => ?_)
        refine lv_goto (tgt := 2) hx hb dX9_hasTransferWithin_47 (by decide) ?_
        have q9 := cl_add1 (x := i2) (by omega) (by omega)
        exact ih2 _ (by subst hd2; rw [q9]; omega) _ _ _ _ hB (lv_sub hl [0, 2, 3] rfl) ⟨by rw [q9]; omega, by rw [q9]; omega⟩ (by rw [q9]; omega) rfl
      · refine lv_aload_n hx hb dX9_hasTransferWithin_34 rfl (lv_at hl 0 rfl) ?_
        refine lv_aload_n hx hb dX9_hasTransferWithin_35 rfl (lv_at hl 2 rfl) ?_
        refine cl_callS F hB (k_below l D cy hB.2 (pi_dv hB.2 hj hz14) _) (cwS 2 F.1.2.2.2.2 (vgS (vm_5 _ (List.mem_of_getElem? (i := 32) rfl)) (vm_5 _ (List.mem_of_getElem? (i := 33) rfl)) (vm_4 _ (List.mem_of_getElem? (i := 20) rfl)) (vm_5 _ (List.mem_of_getElem? (i := 6) rfl))) rfl rfl rfl ⟨rfl, by decide, by decide, by decide +kernel⟩ ⟨Nat.le_of_ble_eq_true rfl, Nat.le_of_ble_eq_true rfl⟩) rfl hl.1 rfl (Nat.le_of_ble_eq_true rfl) dX9_hasTransferWithin_36 ⟨Nat.le_of_ble_eq_true rfl, Nat.le_of_ble_eq_true rfl⟩ (fun H locs v σ36 hB hP => ?_)
        obtain ⟨⟨b36, rfl, hb36⟩, rfl⟩ := hP
        refine lv_if_eq (tgt := 44) hx hb dX9_hasTransferWithin_39 (by decide) (fun c39 => ?_) (fun c39 => ?_)
        · refine lv_iinc (lv' := [(2, .int _), (3, .ref _), (1, .ref _), (0, .ref _)]) hx hb dX9_hasTransferWithin_44 hl (k := 1) rfl rfl (by decide) rfl (fun ls hl => ?_)
          refine lv_goto (tgt := 2) hx hb dX9_hasTransferWithin_47 (by decide) ?_
          have q9 := cl_add1 (x := i2) (by omega) (by omega)
          exact ih2 _ (by subst hd2; rw [q9]; omega) _ _ _ _ hB (lv_sub hl [0, 2, 3] rfl) ⟨by rw [q9]; omega, by rw [q9]; omega⟩ (by rw [q9]; omega) rfl
        · refine lv_iconst (v := 1) hx hb dX9_hasTransferWithin_42 (by decide) ?_
          exact cl_zret F hB hrt dX9_hasTransferWithin_43 rfl (⟨⟨_, rfl, ⟨by decide, by decide⟩⟩, rfl⟩)

theorem dX9_look_0 : decode cX9_look 0 = .ok (.aload_n 0, 1) := by decide +kernel
theorem dX9_look_1 : decode cX9_look 1 = .ok (.invokevirtual 199, 3) := by decide +kernel
theorem dX9_look_4 : decode cX9_look 4 = .ok (.astore_n 1, 1) := by decide +kernel
theorem dX9_look_5 : decode cX9_look 5 = .ok (.aload_n 1, 1) := by decide +kernel
theorem dX9_look_6 : decode cX9_look 6 = .ok (.ifnonnull 13, 3) := by decide +kernel
theorem dX9_look_9 : decode cX9_look 9 = .ok (.new 203, 3) := by decide +kernel
theorem dX9_look_19 : decode cX9_look 19 = .ok (.aload_n 0, 1) := by decide +kernel
theorem dX9_look_20 : decode cX9_look 20 = .ok (.aload_n 1, 1) := by decide +kernel
theorem dX9_look_21 : decode cX9_look 21 = .ok (.invokevirtual 208, 3) := by decide +kernel
theorem dX9_look_24 : decode cX9_look 24 = .ok (.ifCond .ne 15, 3) := by decide +kernel
theorem dX9_look_27 : decode cX9_look 27 = .ok (.aload_n 0, 1) := by decide +kernel
theorem dX9_look_28 : decode cX9_look 28 = .ok (.aload_n 1, 1) := by decide +kernel
theorem dX9_look_29 : decode cX9_look 29 = .ok (.bipush 120, 2) := by decide +kernel
theorem dX9_look_31 : decode cX9_look 31 = .ok (.invokevirtual 211, 3) := by decide +kernel
theorem dX9_look_34 : decode cX9_look 34 = .ok (.aload_n 1, 1) := by decide +kernel
theorem dX9_look_35 : decode cX9_look 35 = .ok (.getfield 121, 3) := by decide +kernel
theorem dX9_look_38 : decode cX9_look 38 = .ok (.ireturn, 1) := by decide +kernel
theorem dX9_look_39 : decode cX9_look 39 = .ok (.aload_n 1, 1) := by decide +kernel
theorem dX9_look_40 : decode cX9_look 40 = .ok (.aload_n 0, 1) := by decide +kernel
theorem dX9_look_41 : decode cX9_look 41 = .ok (.invokevirtual 215, 3) := by decide +kernel
theorem dX9_look_44 : decode cX9_look 44 = .ok (.putfield 196, 3) := by decide +kernel
theorem dX9_look_47 : decode cX9_look 47 = .ok (.aload_n 1, 1) := by decide +kernel
theorem dX9_look_48 : decode cX9_look 48 = .ok (.getfield 70, 3) := by decide +kernel
theorem dX9_look_51 : decode cX9_look 51 = .ok (.ifCond .ne 23, 3) := by decide +kernel
theorem dX9_look_54 : decode cX9_look 54 = .ok (.aload_n 1, 1) := by decide +kernel
theorem dX9_look_55 : decode cX9_look 55 = .ok (.getfield 112, 3) := by decide +kernel
theorem dX9_look_58 : decode cX9_look 58 = .ok (.aload_n 1, 1) := by decide +kernel
theorem dX9_look_59 : decode cX9_look 59 = .ok (.invokestatic 218, 3) := by decide +kernel
theorem dX9_look_62 : decode cX9_look 62 = .ok (.if_icmp .le 12, 3) := by decide +kernel
theorem dX9_look_65 : decode cX9_look 65 = .ok (.aload_n 1, 1) := by decide +kernel
theorem dX9_look_66 : decode cX9_look 66 = .ok (.bipush 112, 2) := by decide +kernel
theorem dX9_look_68 : decode cX9_look 68 = .ok (.putfield 74, 3) := by decide +kernel
theorem dX9_look_71 : decode cX9_look 71 = .ok (.goto 31, 3) := by decide +kernel
theorem dX9_look_74 : decode cX9_look 74 = .ok (.aload_n 1, 1) := by decide +kernel
theorem dX9_look_75 : decode cX9_look 75 = .ok (.bipush 99, 2) := by decide +kernel
theorem dX9_look_77 : decode cX9_look 77 = .ok (.putfield 74, 3) := by decide +kernel
theorem dX9_look_80 : decode cX9_look 80 = .ok (.aload_n 1, 1) := by decide +kernel
theorem dX9_look_81 : decode cX9_look 81 = .ok (.aload_n 0, 1) := by decide +kernel
theorem dX9_look_82 : decode cX9_look 82 = .ok (.aload_n 1, 1) := by decide +kernel
theorem dX9_look_83 : decode cX9_look 83 = .ok (.getfield 118, 3) := by decide +kernel
theorem dX9_look_86 : decode cX9_look 86 = .ok (.bipush 10, 2) := by decide +kernel
theorem dX9_look_88 : decode cX9_look 88 = .ok (.idiv, 1) := by decide +kernel
theorem dX9_look_89 : decode cX9_look 89 = .ok (.aload_n 1, 1) := by decide +kernel
theorem dX9_look_90 : decode cX9_look 90 = .ok (.getfield 118, 3) := by decide +kernel
theorem dX9_look_93 : decode cX9_look 93 = .ok (.bipush 10, 2) := by decide +kernel
theorem dX9_look_95 : decode cX9_look 95 = .ok (.irem, 1) := by decide +kernel
theorem dX9_look_96 : decode cX9_look 96 = .ok (.invokevirtual 222, 3) := by decide +kernel
theorem dX9_look_99 : decode cX9_look 99 = .ok (.putfield 226, 3) := by decide +kernel
theorem dX9_look_102 : decode cX9_look 102 = .ok (.aload_n 1, 1) := by decide +kernel
theorem dX9_look_103 : decode cX9_look 103 = .ok (.getfield 121, 3) := by decide +kernel
theorem dX9_look_106 : decode cX9_look 106 = .ok (.ireturn, 1) := by decide +kernel
set_option maxRecDepth 100000 in
set_option maxHeartbeats 4000000 in
theorem k_look (l : Launch) (D : va_G) (cy : Nat → ClassId) {ad τ : List Nat} {Y : CY} {σ : SG} (hst : l.stackTraces = false) (hs : vi_s1 vSG τ) (hV : VL cy ad τ Y σ) {B : Int} (hI : SI Y σ B)  (sz : Nat) : clX l D cy ad τ Y σ sz yX9_look (Cond.code yX9_look cX9_look 2 (some .int) :: vWall) 6 123 1 [.ref (yX Y)] (fun v s2 => (∃ x : Int32, v = some (.int x)) ∧ SI Y s2 B) ["java/util/NoSuchElementException"] := by
  refine cl_ofX (cc := cX9_look) (maxL := 2) (ret := (some .int)) hV (by decide) rfl (Nat.le_of_ble_eq_true rfl) (lv := [(0, .ref (yX Y))]) rfl (fun p e s m below meth c ls H hrt F hT hout hB hl => ?_) sz
  have hx := F.1.1
  have hb := F.1.2.1
  have hown := F.1.2.2.2.1
  generalize hlo : ([] : List Loc) = locs at hB ⊢
  clear hlo
  obtain ⟨LX, LD, Ld, LE, Le, LP9, Lp, Lt, LU, LA, Lz⟩ := hV.2
  have e0 : (0 : Int32).toInt = 0 := rfl
  have e1 : (1 : Int32).toInt = 1 := rfl
  have e16 : (16 : Int32).toInt = 16 := rfl
  have e12 : (12 : Int32).toInt = 12 := rfl
  refine lv_aload_n hx hb dX9_look_0 rfl (lv_at hl 0 rfl) ?_
  refine cl_callV (ci := 14) F hB (k_fnd l D cy hB.2  _) (cwV 0 F.1.2.2.2.2 (vgV (vm_6 _ (List.mem_of_getElem? (i := 32) rfl)) (vm_6 _ (List.mem_of_getElem? (i := 33) rfl)) (vm_6 _ (List.mem_of_getElem? (i := 34) rfl)) (vm_4 _ (List.mem_of_getElem? (i := 20) rfl)) (vm_6 _ (List.mem_of_getElem? (i := 13) rfl))) rfl rfl rfl ⟨rfl, by decide, by decide, by decide +kernel⟩ ⟨Nat.le_of_ble_eq_true rfl, Nat.le_of_ble_eq_true rfl⟩) rfl rfl (by decide) rfl hl.1 rfl (Nat.le_of_ble_eq_true rfl) dX9_look_1 ⟨Nat.le_of_ble_eq_true rfl, Nat.le_of_ble_eq_true rfl⟩ LX.1 (fun H locs v σ1 hB hP => ?_)
  obtain ⟨⟨r1, rfl, hr1⟩, rfl⟩ := hP
  refine cl_astQ (lv' := [(1, va_rf _), (0, .ref _)]) hx hb dX9_look_4 rfl hl (by decide) rfl (fun ls hl => ?_)
  refine cl_aldQ hx hb dX9_look_5 rfl (lv_at hl 0 rfl) ?_
  refine sg_split (fun hz6 => ?_) (fun b6 hz6 => ?_)
  · refine lv_ifnonnullN hx hb dX9_look_6 ?_
    exact cl_thr (NC := 1) (vi_throwN (WS := _ :: vWall) (text := "no new device can be reached") (ik := 203) (is := 205) F.1.1 F.1.2.1 hst F.1.2.2.2.2 F.1.2.2.2.1 (by decide) (by decide) hT (by decide) (List.mem_cons_of_mem _ (vm_6 _ (List.mem_of_getElem? (i := 30) rfl))) (List.mem_cons_of_mem _ (vm_6 _ (List.mem_of_getElem? (i := 31) rfl))) (fun w h => List.mem_cons_of_mem _ (vmx_5 w h)) (by decide +kernel) (by decide +kernel) (by decide) F.1.2.2.1 (by decide +kernel) (by decide +kernel) (by decide +kernel) (by decide +kernel) (by decide +kernel) hout F.2.2.2 (Nat.le_of_ble_eq_true rfl) (Nat.le_of_ble_eq_true rfl) ⟨Nat.le_refl _, Nat.le_refl _⟩ (Nat.le_refl _) (fun _ h => h)) hB vi_kept_rf (Nat.le_of_ble_eq_true rfl) (by decide) hl.1
  · refine lv_ifnonnull (tgt := 19) hx hb dX9_look_6 (by decide) ?_
    subst hz6
    obtain ⟨i9, hi9, er9, hs9, b9, hh9⟩ := hr1.resolve_left (fun z => by cases z)
    cases er9
    have tg := (Ld _ hi9).1
    have hn9 : i9 ≠ 0 := fun z => by rw [z, hI.1.2.2.1.2.1] at hh9; cases hh9
    refine lv_aload_n hx hb dX9_look_19 rfl (lv_at hl 1 rfl) ?_
    refine lv_aload_n hx hb dX9_look_20 rfl (lv_at hl 0 rfl) ?_
    refine cl_vi (n := 0) (NC := 1) (av := [.ref (yX Y), .ref (yd Y i9)]) hB (vi_crV F.1 (m_Hubcascade_answersControl_0 l D cy hst) (cwV 1 F.1.2.2.2.2 (vgV (vm_6 _ (List.mem_of_getElem? (i := 35) rfl)) (vm_6 _ (List.mem_of_getElem? (i := 36) rfl)) (vm_6 _ (List.mem_of_getElem? (i := 37) rfl)) (vm_4 _ (List.mem_of_getElem? (i := 20) rfl)) (vm_6 _ (List.mem_of_getElem? (i := 14) rfl))) rfl rfl rfl ⟨rfl, by decide, by decide, by decide +kernel⟩ ⟨Nat.le_of_ble_eq_true rfl, Nat.le_of_ble_eq_true rfl⟩) rfl ⟨_, _, _, _, _, _, rfl, rfl, rfl, rfl⟩ F.2.1 F.2.2.1 hs (fun _ _ _ _ => True.intro) (fun q hq => Or.inr hq) ⟨Nat.le_refl _, Nat.le_refl _⟩) hl.1 rfl (by intro j9 a9 x9 g1 g2; exact match j9, g1, g2 with | 0, g1, g2 => by cases g1; cases g2; exact okr (cl_kd (kd := 0) hB.2.1 LX.1 (by decide) (by decide +kernel)) | 1, g1, g2 => by cases g1; cases g2; exact okr (cl_kd (kd := 4) hB.2.1 tg (by decide) (by decide +kernel)) | n + 2, g1, g2 => by cases g1) (fun f hf => by cases hf) (Nat.le_of_ble_eq_true rfl) (by decide +kernel) (by decide) dX9_look_21 rfl (fun alt ha21 H locs v σ21 w21 hB hk21 ht21 hs21 hA21 => ?_)
    obtain ⟨z21, rfl⟩ := vi_ints (by decide) ha21 hA21
    have hV21 := hB.2
    have hI21 := SI_kept hV hV21 hk21 (by decide +kernel) hI
    have hst21 : sgI σ21 (yd Y i9) 7 = 110 := (kp_I (ci := 6) (t := 1) (k := 7) hV.1 hV21.1 hk21 tg (by decide) rfl (by decide) (fun d _ => M_no (by decide +kernel) d)).trans hs9
    refine lv_if_ne (tgt := 39) hx hb dX9_look_24 (by decide) (fun c24 => ?_) (fun c24 => ?_)
    · refine lv_aload_n hx hb dX9_look_39 rfl (lv_at hl 0 rfl) ?_
      refine lv_aload_n hx hb dX9_look_40 rfl (lv_at hl 1 rfl) ?_
      refine cl_callV (ci := 14) F hB (k_free l D cy hB.2  _) (cwV 0 F.1.2.2.2.2 (vgV (vm_7 _ (List.mem_of_getElem? (i := 1) rfl)) (vm_7 _ (List.mem_of_getElem? (i := 2) rfl)) (vm_7 _ (List.mem_of_getElem? (i := 3) rfl)) (vm_4 _ (List.mem_of_getElem? (i := 20) rfl)) (vm_6 _ (List.mem_of_getElem? (i := 19) rfl))) rfl rfl rfl ⟨rfl, by decide, by decide, by decide +kernel⟩ ⟨Nat.le_of_ble_eq_true rfl, Nat.le_of_ble_eq_true rfl⟩) rfl rfl (by decide) rfl hl.1 rfl (Nat.le_of_ble_eq_true rfl) dX9_look_41 ⟨Nat.le_of_ble_eq_true rfl, Nat.le_of_ble_eq_true rfl⟩ hB.2.2.1.1 (fun H locs v σ41 hB hP => ?_)
      obtain ⟨⟨z41, rfl, hz41, hf41, hu41⟩, rfl⟩ := hP
      have hlt41 := SI_free hB.2.2 hI21.1 hi9 hn9 hst21 hz41.2 hu41
      refine pf_X9_196 F hB dX9_look_44 (hB.2.2.2.2.1 _ hi9).1 (fun H locs hBn => ?_)
      clear hB; have hB := hBn; clear hBn
      refine lv_aload_n hx hb dX9_look_47 rfl (lv_at hl 0 rfl) ?_
      refine gf_X9_70 F hB dX9_look_48 (hB.2.2.2.2.1 _ hi9).1 ?_
      refine lv_if_ne (tgt := 74) hx hb dX9_look_51 (by decide) (fun c51 => ?_) (fun c51 => ?_)
      · refine lv_aload_n hx hb dX9_look_74 rfl (lv_at hl 0 rfl) ?_
        refine lv_bipush (v := 99) hx hb dX9_look_75 (by decide) ?_
        refine pf_X9_74 F hB dX9_look_77 (hB.2.2.2.2.1 _ hi9).1 ⟨by decide, by decide⟩ (fun H locs hBn => ?_)
        clear hB; have hB := hBn; clear hBn
        have hI9 := si_of hB.2 (SI_look hV21 hI21 hi9 hn9 hst21 (by decide) (by decide) (hf41 hlt41))
        have hV9 := hB.2
        refine lv_aload_n hx hb dX9_look_80 rfl (lv_at hl 0 rfl) ?_
        refine lv_aload_n hx hb dX9_look_81 rfl (lv_at hl 1 rfl) ?_
        refine lv_aload_n hx hb dX9_look_82 rfl (lv_at hl 0 rfl) ?_
        refine gf_X9_118 F hB dX9_look_83 (hB.2.2.2.2.1 _ hi9).1 ?_
        refine lv_bipush (v := 10) hx hb dX9_look_86 (by decide) ?_
        refine lv_idiv hx hb dX9_look_88 (by decide) ?_
        refine lv_aload_n hx hb dX9_look_89 rfl (lv_at hl 0 rfl) ?_
        refine gf_X9_118 F hB dX9_look_90 (hB.2.2.2.2.1 _ hi9).1 ?_
        refine lv_bipush (v := 10) hx hb dX9_look_93 (by decide) ?_
        refine lv_irem hx hb dX9_look_95 (by decide) ?_
        refine cl_vi (n := 0) (NC := 1) (av := [.ref (yX Y), .int _, .int _]) hB (vi_crV F.1 (m_Hubcascade_fittingDriver_0 l D cy hst) (cwV 2 F.1.2.2.2.2 (vgV (vm_7 _ (List.mem_of_getElem? (i := 6) rfl)) (vm_7 _ (List.mem_of_getElem? (i := 7) rfl)) (vm_7 _ (List.mem_of_getElem? (i := 8) rfl)) (vm_4 _ (List.mem_of_getElem? (i := 20) rfl)) (vm_6 _ (List.mem_of_getElem? (i := 26) rfl))) rfl rfl rfl ⟨rfl, by decide, by decide, by decide +kernel⟩ ⟨Nat.le_of_ble_eq_true rfl, Nat.le_of_ble_eq_true rfl⟩) rfl ⟨_, _, _, _, _, _, rfl, rfl, rfl, rfl⟩ F.2.1 F.2.2.1 hs (fun _ _ _ _ => True.intro) (fun q hq => Or.inr hq) ⟨Nat.le_refl _, Nat.le_refl _⟩) hl.1 rfl (by intro j9 a9 x9 g1 g2; exact match j9, g1, g2 with | 0, g1, g2 => by cases g1; cases g2; exact okr (cl_kd (kd := 0) hB.2.1 hB.2.2.1.1 (by decide) (by decide +kernel)) | 1, g1, g2 => by cases g1; cases g2; exact ⟨_, rfl, cl_full _⟩ | 2, g1, g2 => by cases g1; cases g2; exact ⟨_, rfl, cl_full _⟩ | n + 3, g1, g2 => by cases g1) (fun f hf => by cases hf) (Nat.le_of_ble_eq_true rfl) (by decide +kernel) (by decide) dX9_look_96 rfl (fun alt ha96 H locs v σ96 w96 hB hk96 ht96 hs96 hA96 => ?_)
        obtain ⟨z96, rfl⟩ := vi_ints (by decide) ha96 hA96
        have hI9 := SI_kept hV9 hB.2 hk96 (by decide +kernel) hI9
        have hV9 := hB.2
        refine pf_X9_226 F hB dX9_look_99 (hB.2.2.2.2.1 _ hi9).1 (fun H locs hBn => ?_)
        clear hB; have hB := hBn; clear hBn
        have hI9 := si_of hB.2 (SI_PI (k := 14) hV9 hI9 (t := 7) (hB.2.2.2.2.1 _ hi9).1 rfl (by decide))
        have hV9 := hB.2
        refine lv_aload_n hx hb dX9_look_102 rfl (lv_at hl 0 rfl) ?_
        refine gf_X9_121 F hB dX9_look_103 (hB.2.2.2.2.1 _ hi9).1 ?_
        exact cl_iretX (Nat.le_of_ble_eq_true rfl) F hB hrt dX9_look_106 (by first | exact ⟨⟨_, rfl⟩, hI31⟩ | exact ⟨⟨_, rfl⟩, hI9⟩ | fail "no road")
      · refine lv_aload_n hx hb dX9_look_54 rfl (lv_at hl 0 rfl) ?_
        refine gf_X9_112 F hB dX9_look_55 (hB.2.2.2.2.1 _ hi9).1 ?_
        refine lv_aload_n hx hb dX9_look_58 rfl (lv_at hl 0 rfl) ?_
        refine cl_callS F hB (k_pp l D cy hB.2 hi9 _) (cwS 1 F.1.2.2.2.2 (vgS (vm_7 _ (List.mem_of_getElem? (i := 4) rfl)) (vm_7 _ (List.mem_of_getElem? (i := 5) rfl)) (vm_4 _ (List.mem_of_getElem? (i := 20) rfl)) (vm_6 _ (List.mem_of_getElem? (i := 23) rfl))) rfl rfl rfl ⟨rfl, by decide, by decide, by decide +kernel⟩ ⟨Nat.le_of_ble_eq_true rfl, Nat.le_of_ble_eq_true rfl⟩) rfl hl.1 rfl (Nat.le_of_ble_eq_true rfl) dX9_look_59 ⟨Nat.le_of_ble_eq_true rfl, Nat.le_of_ble_eq_true rfl⟩ (fun H locs v σ59 hB hP => ?_)
        obtain ⟨⟨b59, rfl⟩, rfl⟩ := hP
        refine lv_icmp_le (tgt := 74) hx hb dX9_look_62 (by decide) (fun c62 => ?_) (fun c62 => ?_)
        · refine lv_aload_n hx hb dX9_look_74 rfl (lv_at hl 0 rfl) ?_
          refine lv_bipush (v := 99) hx hb dX9_look_75 (by decide) ?_
          refine pf_X9_74 F hB dX9_look_77 (hB.2.2.2.2.1 _ hi9).1 ⟨by decide, by decide⟩ (fun H locs hBn => ?_)
          clear hB; have hB := hBn; clear hBn
          have hI9 := si_of hB.2 (SI_look hV21 hI21 hi9 hn9 hst21 (by decide) (by decide) (hf41 hlt41))
          have hV9 := hB.2
          refine lv_aload_n hx hb dX9_look_80 rfl (lv_at hl 0 rfl) ?_
          refine lv_aload_n hx hb dX9_look_81 rfl (lv_at hl 1 rfl) ?_
          refine lv_aload_n hx hb dX9_look_82 rfl (lv_at hl 0 rfl) ?_
          refine gf_X9_118 F hB dX9_look_83 (hB.2.2.2.2.1 _ hi9).1 ?_
          refine lv_bipush (v := 10) hx hb dX9_look_86 (by decide) ?_
          refine lv_idiv hx hb dX9_look_88 (by decide) ?_
          refine lv_aload_n hx hb dX9_look_89 rfl (lv_at hl 0 rfl) ?_
          refine gf_X9_118 F hB dX9_look_90 (hB.2.2.2.2.1 _ hi9).1 ?_
          refine lv_bipush (v := 10) hx hb dX9_look_93 (by decide) ?_
          refine lv_irem hx hb dX9_look_95 (by decide) ?_
          refine cl_vi (n := 0) (NC := 1) (av := [.ref (yX Y), .int _, .int _]) hB (vi_crV F.1 (m_Hubcascade_fittingDriver_0 l D cy hst) (cwV 2 F.1.2.2.2.2 (vgV (vm_7 _ (List.mem_of_getElem? (i := 6) rfl)) (vm_7 _ (List.mem_of_getElem? (i := 7) rfl)) (vm_7 _ (List.mem_of_getElem? (i := 8) rfl)) (vm_4 _ (List.mem_of_getElem? (i := 20) rfl)) (vm_6 _ (List.mem_of_getElem? (i := 26) rfl))) rfl rfl rfl ⟨rfl, by decide, by decide, by decide +kernel⟩ ⟨Nat.le_of_ble_eq_true rfl, Nat.le_of_ble_eq_true rfl⟩) rfl ⟨_, _, _, _, _, _, rfl, rfl, rfl, rfl⟩ F.2.1 F.2.2.1 hs (fun _ _ _ _ => True.intro) (fun q hq => Or.inr hq) ⟨Nat.le_refl _, Nat.le_refl _⟩) hl.1 rfl (by intro j9 a9 x9 g1 g2; exact match j9, g1, g2 with | 0, g1, g2 => by cases g1; cases g2; exact okr (cl_kd (kd := 0) hB.2.1 hB.2.2.1.1 (by decide) (by decide +kernel)) | 1, g1, g2 => by cases g1; cases g2; exact ⟨_, rfl, cl_full _⟩ | 2, g1, g2 => by cases g1; cases g2; exact ⟨_, rfl, cl_full _⟩ | n + 3, g1, g2 => by cases g1) (fun f hf => by cases hf) (Nat.le_of_ble_eq_true rfl) (by decide +kernel) (by decide) dX9_look_96 rfl (fun alt ha96 H locs v σ96 w96 hB hk96 ht96 hs96 hA96 => ?_)
          obtain ⟨z96, rfl⟩ := vi_ints (by decide) ha96 hA96
          have hI9 := SI_kept hV9 hB.2 hk96 (by decide +kernel) hI9
          have hV9 := hB.2
          refine pf_X9_226 F hB dX9_look_99 (hB.2.2.2.2.1 _ hi9).1 (fun H locs hBn => ?_)
          clear hB; have hB := hBn; clear hBn
          have hI9 := si_of hB.2 (SI_PI (k := 14) hV9 hI9 (t := 7) (hB.2.2.2.2.1 _ hi9).1 rfl (by decide))
          have hV9 := hB.2
          refine lv_aload_n hx hb dX9_look_102 rfl (lv_at hl 0 rfl) ?_
          refine gf_X9_121 F hB dX9_look_103 (hB.2.2.2.2.1 _ hi9).1 ?_
          exact cl_iretX (Nat.le_of_ble_eq_true rfl) F hB hrt dX9_look_106 (by first | exact ⟨⟨_, rfl⟩, hI31⟩ | exact ⟨⟨_, rfl⟩, hI9⟩ | fail "no road")
        · refine lv_aload_n hx hb dX9_look_65 rfl (lv_at hl 0 rfl) ?_
          refine lv_bipush (v := 112) hx hb dX9_look_66 (by decide) ?_
          refine pf_X9_74 F hB dX9_look_68 (hB.2.2.2.2.1 _ hi9).1 ⟨by decide, by decide⟩ (fun H locs hBn => ?_)
          clear hB; have hB := hBn; clear hBn
          have hI9 := si_of hB.2 (SI_look hV21 hI21 hi9 hn9 hst21 (by decide) (by decide) (hf41 hlt41))
          have hV9 := hB.2
          refine lv_goto (tgt := 102) hx hb dX9_look_71 (by decide) ?_
          refine lv_aload_n hx hb dX9_look_102 rfl (lv_at hl 0 rfl) ?_
          refine gf_X9_121 F hB dX9_look_103 (hB.2.2.2.2.1 _ hi9).1 ?_
          exact cl_iretX (Nat.le_of_ble_eq_true rfl) F hB hrt dX9_look_106 (by first | exact ⟨⟨_, rfl⟩, hI31⟩ | exact ⟨⟨_, rfl⟩, hI9⟩ | fail "no road")
    · refine lv_aload_n hx hb dX9_look_27 rfl (lv_at hl 1 rfl) ?_
      refine lv_aload_n hx hb dX9_look_28 rfl (lv_at hl 0 rfl) ?_
      refine lv_bipush (v := 120) hx hb dX9_look_29 (by decide) ?_
      refine cl_callV (ci := 14) F hB (k_dis l D cy hst hs hB.2 hI21 hi9 (by rw [hst21]; decide) 120 (show sgF 1 120 from ⟨by decide, by decide⟩) (by decide) (by decide) _) (cwV 2 F.1.2.2.2.2 (vgV (vm_6 _ (List.mem_of_getElem? (i := 38) rfl)) (vm_6 _ (List.mem_of_getElem? (i := 39) rfl)) (vm_7 _ (List.mem_of_getElem? (i := 0) rfl)) (vm_4 _ (List.mem_of_getElem? (i := 20) rfl)) (vm_6 _ (List.mem_of_getElem? (i := 17) rfl))) rfl rfl rfl ⟨rfl, by decide, by decide, by decide +kernel⟩ ⟨Nat.le_of_ble_eq_true rfl, Nat.le_of_ble_eq_true rfl⟩) rfl rfl (by decide) rfl hl.1 rfl (Nat.le_of_ble_eq_true rfl) dX9_look_31 ⟨Nat.le_of_ble_eq_true rfl, Nat.le_of_ble_eq_true rfl⟩ hB.2.2.1.1 (fun H locs v σ31 hB hP => ?_)
      obtain ⟨rfl, hI31⟩ := hP
      refine lv_aload_n hx hb dX9_look_34 rfl (lv_at hl 0 rfl) ?_
      refine gf_X9_121 F hB dX9_look_35 (hB.2.2.2.2.1 _ hi9).1 ?_
      exact cl_iretX (Nat.le_of_ble_eq_true rfl) F hB hrt dX9_look_38 (by first | exact ⟨⟨_, rfl⟩, hI31⟩ | exact ⟨⟨_, rfl⟩, hI9⟩ | fail "no road")

theorem dX9_sleep_0 : decode cX9_sleep 0 = .ok (.aload_n 0, 1) := by decide +kernel
theorem dX9_sleep_1 : decode cX9_sleep 1 = .ok (.iload_n 1, 1) := by decide +kernel
theorem dX9_sleep_2 : decode cX9_sleep 2 = .ok (.invokevirtual 185, 3) := by decide +kernel
theorem dX9_sleep_5 : decode cX9_sleep 5 = .ok (.astore_n 2, 1) := by decide +kernel
theorem dX9_sleep_6 : decode cX9_sleep 6 = .ok (.aload_n 2, 1) := by decide +kernel
theorem dX9_sleep_7 : decode cX9_sleep 7 = .ok (.getfield 74, 3) := by decide +kernel
theorem dX9_sleep_10 : decode cX9_sleep 10 = .ok (.bipush 99, 2) := by decide +kernel
theorem dX9_sleep_12 : decode cX9_sleep 12 = .ok (.if_icmp .ne 11, 3) := by decide +kernel
theorem dX9_sleep_15 : decode cX9_sleep 15 = .ok (.aload_n 0, 1) := by decide +kernel
theorem dX9_sleep_16 : decode cX9_sleep 16 = .ok (.aload_n 2, 1) := by decide +kernel
theorem dX9_sleep_17 : decode cX9_sleep 17 = .ok (.invokevirtual 241, 3) := by decide +kernel
theorem dX9_sleep_20 : decode cX9_sleep 20 = .ok (.ifCond .eq 13, 3) := by decide +kernel
theorem dX9_sleep_23 : decode cX9_sleep 23 = .ok (.new 139, 3) := by decide +kernel
theorem dX9_sleep_33 : decode cX9_sleep 33 = .ok (.iconst 0, 1) := by decide +kernel
theorem dX9_sleep_34 : decode cX9_sleep 34 = .ok (.istore_n 3, 1) := by decide +kernel
theorem dX9_sleep_35 : decode cX9_sleep 35 = .ok (.iconst 0, 1) := by decide +kernel
theorem dX9_sleep_36 : decode cX9_sleep 36 = .ok (.istore 4, 2) := by decide +kernel
theorem dX9_sleep_38 : decode cX9_sleep 38 = .ok (.iload 4, 2) := by decide +kernel
theorem dX9_sleep_40 : decode cX9_sleep 40 = .ok (.bipush 16, 2) := by decide +kernel
theorem dX9_sleep_42 : decode cX9_sleep 42 = .ok (.if_icmp .ge 47, 3) := by decide +kernel
theorem dX9_sleep_45 : decode cX9_sleep 45 = .ok (.aload_n 0, 1) := by decide +kernel
theorem dX9_sleep_46 : decode cX9_sleep 46 = .ok (.getfield 11, 3) := by decide +kernel
theorem dX9_sleep_49 : decode cX9_sleep 49 = .ok (.iload 4, 2) := by decide +kernel
theorem dX9_sleep_51 : decode cX9_sleep 51 = .ok (.aaload, 1) := by decide +kernel
theorem dX9_sleep_52 : decode cX9_sleep 52 = .ok (.astore 5, 2) := by decide +kernel
theorem dX9_sleep_54 : decode cX9_sleep 54 = .ok (.aload 5, 2) := by decide +kernel
theorem dX9_sleep_56 : decode cX9_sleep 56 = .ok (.getfield 74, 3) := by decide +kernel
theorem dX9_sleep_59 : decode cX9_sleep 59 = .ok (.bipush 99, 2) := by decide +kernel
theorem dX9_sleep_61 : decode cX9_sleep 61 = .ok (.if_icmp .ne 22, 3) := by decide +kernel
theorem dX9_sleep_64 : decode cX9_sleep 64 = .ok (.aload 5, 2) := by decide +kernel
theorem dX9_sleep_66 : decode cX9_sleep 66 = .ok (.aload_n 2, 1) := by decide +kernel
theorem dX9_sleep_67 : decode cX9_sleep 67 = .ok (.invokestatic 246, 3) := by decide +kernel
theorem dX9_sleep_70 : decode cX9_sleep 70 = .ok (.ifCond .eq 13, 3) := by decide +kernel
theorem dX9_sleep_73 : decode cX9_sleep 73 = .ok (.aload 5, 2) := by decide +kernel
theorem dX9_sleep_75 : decode cX9_sleep 75 = .ok (.bipush 122, 2) := by decide +kernel
theorem dX9_sleep_77 : decode cX9_sleep 77 = .ok (.putfield 74, 3) := by decide +kernel
theorem dX9_sleep_80 : decode cX9_sleep 80 = .ok (.iinc 3 1, 3) := by decide +kernel
theorem dX9_sleep_83 : decode cX9_sleep 83 = .ok (.iinc 4 1, 3) := by decide +kernel
theorem dX9_sleep_86 : decode cX9_sleep 86 = .ok (.goto (-48), 3) := by decide +kernel
theorem dX9_sleep_89 : decode cX9_sleep 89 = .ok (.iload_n 3, 1) := by decide +kernel
theorem dX9_sleep_90 : decode cX9_sleep 90 = .ok (.ireturn, 1) := by decide +kernel
set_option maxRecDepth 100000 in
set_option maxHeartbeats 4000000 in
theorem k_sleep (l : Launch) (D : va_G) (cy : Nat → ClassId) {ad τ : List Nat} {Y : CY} {σ : SG} (hst : l.stackTraces = false) (hs : vi_s1 vSG τ) (hV : VL cy ad τ Y σ) {B : Int} (hI : SI Y σ B) (x1 : Int32) (sz : Nat) : clX l D cy ad τ Y σ sz yX9_sleep (Cond.code yX9_sleep cX9_sleep 6 (some .int) :: vWall) 8 132 3 [.ref (yX Y), .int x1] (fun v s2 => (∃ x : Int32, v = some (.int x)) ∧ SI Y s2 B) ["java/lang/UnsupportedOperationException", "java/lang/IndexOutOfBoundsException"] := by
  refine cl_ofX (cc := cX9_sleep) (maxL := 6) (ret := (some .int)) hV (by decide) rfl (Nat.le_of_ble_eq_true rfl) (lv := [(0, .ref (yX Y)), (1, .int x1)]) rfl (fun p e s m below meth c ls H hrt F hT hout hB hl => ?_) sz
  have hx := F.1.1
  have hb := F.1.2.1
  have hown := F.1.2.2.2.1
  generalize hlo : ([] : List Loc) = locs at hB ⊢
  clear hlo
  obtain ⟨LX, LD, Ld, LE, Le, LP9, Lp, Lt, LU, LA, Lz⟩ := hV.2
  have e0 : (0 : Int32).toInt = 0 := rfl
  have e1 : (1 : Int32).toInt = 1 := rfl
  have e16 : (16 : Int32).toInt = 16 := rfl
  have e12 : (12 : Int32).toInt = 12 := rfl
  refine lv_aload_n hx hb dX9_sleep_0 rfl (lv_at hl 0 rfl) ?_
  refine lv_iload_n hx hb dX9_sleep_1 rfl (lv_at hl 1 rfl) ?_
  refine cl_callXV (ci := 14) F hT hout hB vi_kept_rf (k_devB l D cy hst hB.2 _ _) (cwV 1 F.1.2.2.2.2 (vgV (vm_6 _ (List.mem_of_getElem? (i := 0) rfl)) (vm_6 _ (List.mem_of_getElem? (i := 1) rfl)) (vm_6 _ (List.mem_of_getElem? (i := 2) rfl)) (vm_4 _ (List.mem_of_getElem? (i := 20) rfl)) (vm_5 _ (List.mem_of_getElem? (i := 5) rfl))) rfl rfl rfl ⟨rfl, by decide, by decide, by decide +kernel⟩ ⟨Nat.le_of_ble_eq_true rfl, Nat.le_of_ble_eq_true rfl⟩) rfl rfl (by decide) rfl hl.1 rfl (Nat.le_of_ble_eq_true rfl) dX9_sleep_2 ⟨Nat.le_of_ble_eq_true rfl, Nat.le_of_ble_eq_true rfl⟩ (by decide) (Nat.le_of_ble_eq_true rfl) LX.1 (fun H locs v σ2 hB hP => ?_)
  obtain ⟨⟨i2, hi2, hn2, hc2, rfl⟩, rfl⟩ := hP
  refine lv_astore_n (lv' := [(2, .ref _), (0, .ref _), (1, .int _)]) hx hb dX9_sleep_5 rfl hl (by decide) rfl (fun ls hl => ?_)
  refine lv_aload_n hx hb dX9_sleep_6 rfl (lv_at hl 0 rfl) ?_
  refine gf_X9_74 F hB dX9_sleep_7 (Ld _ hi2).1 ?_
  refine lv_bipush (v := 99) hx hb dX9_sleep_10 (by decide) ?_
  refine lv_icmp_ne (tgt := 23) hx hb dX9_sleep_12 (by decide) (fun c12 => ?_) (fun c12 => ?_)
  · exact cl_thr (NC := 3) (vi_throwS (WS := _ :: vWall) (text := "it can\'t be put asleep") (ik := 139) (is := 244) (ic := 143) (X := "java/lang/UnsupportedOperationException") F.1.1 F.1.2.1 hst F.1.2.2.2.2 F.1.2.2.2.1 (by decide) (by decide) hT (by decide) (List.mem_cons_of_mem _ (vm_4 _ (List.mem_of_getElem? (i := 27) rfl))) (List.mem_cons_of_mem _ (vm_4 _ (List.mem_of_getElem? (i := 28) rfl))) (fun w h => List.mem_cons_of_mem _ (vmx_1 w h)) (by decide +kernel) (by decide +kernel) (by decide) F.1.2.2.1 (by decide +kernel) (by decide +kernel) (by decide +kernel) (by decide +kernel) (by decide +kernel) hout F.2.2.2 (Nat.le_of_ble_eq_true rfl) (Nat.le_of_ble_eq_true rfl) ⟨Nat.le_refl _, Nat.le_refl _⟩ (Nat.le_refl _) (fun _ h => h)) hB vi_kept_rf (Nat.le_of_ble_eq_true rfl) (by decide) hl.1
  · refine lv_aload_n hx hb dX9_sleep_15 rfl (lv_at hl 1 rfl) ?_
    refine lv_aload_n hx hb dX9_sleep_16 rfl (lv_at hl 0 rfl) ?_
    refine cl_callV (ci := 14) F hB (k_htw l D cy hB.2 hi2 _) (cwV 1 F.1.2.2.2.2 (vgV (vm_7 _ (List.mem_of_getElem? (i := 18) rfl)) (vm_7 _ (List.mem_of_getElem? (i := 19) rfl)) (vm_7 _ (List.mem_of_getElem? (i := 20) rfl)) (vm_4 _ (List.mem_of_getElem? (i := 20) rfl)) (vm_7 _ (List.mem_of_getElem? (i := 16) rfl))) rfl rfl rfl ⟨rfl, by decide, by decide, by decide +kernel⟩ ⟨Nat.le_of_ble_eq_true rfl, Nat.le_of_ble_eq_true rfl⟩) rfl rfl (by decide) rfl hl.1 rfl (Nat.le_of_ble_eq_true rfl) dX9_sleep_17 ⟨Nat.le_of_ble_eq_true rfl, Nat.le_of_ble_eq_true rfl⟩ LX.1 (fun H locs v σ17 hB hP => ?_)
    obtain ⟨⟨b17, rfl, hb17⟩, rfl⟩ := hP
    refine lv_if_eq (tgt := 33) hx hb dX9_sleep_20 (by decide) (fun c20 => ?_) (fun c20 => ?_)
    · refine lv_iconst (v := 0) hx hb dX9_sleep_33 (by decide) ?_
      refine lv_istore_n (lv' := [(3, .int _), (2, .ref _), (0, .ref _), (1, .int _)]) hx hb dX9_sleep_34 rfl hl (by decide) rfl (fun ls hl => ?_)
      refine lv_iconst (v := 0) hx hb dX9_sleep_35 (by decide) ?_
      refine lv_istore (lv' := [(4, .int _), (3, .int _), (2, .ref _), (0, .ref _), (1, .int _)]) hx hb dX9_sleep_36 hl (by decide) rfl (fun ls hl => ?_)
      have key38 : ∃ (i4 x3 : Int32) (σ3 : SG), clB D cy ad τ Y s σ3 H locs ∧ lv_has ls 6 [(4, .int i4), (3, .int x3), (2, .ref (yd Y i2)), (1, .int x1), (0, .ref (yX Y))] ∧ (0 ≤ i4.toInt ∧ i4.toInt ≤ 16) ∧ SI Y σ3 B := ⟨_, _, _, hB, (lv_sub hl [0, 1, 2, 4, 3] rfl), ⟨by decide, by decide⟩, hI⟩
      clear hB hl
      obtain ⟨i4, x3, σ3, hB, hl, hi4, hI3⟩ := key38
      obtain ⟨d38, hd38⟩ : ∃ d : Nat, d = 20 - i4.toInt.toNat := ⟨_, rfl⟩
      induction d38 using Nat.strongRecOn generalizing H locs ls i4 x3 σ3
      rename_i d38 ih38
      have hV3 := hB.2
      obtain ⟨LX3, LD3, Ld3, LE3, Le3, LP93, Lp3, Lt3, LU3, LA3, Lz3⟩ := hV3.2
      have hI9 := hI3
      have hV9 := hV3
      refine lv_iload hx hb dX9_sleep_38 (lv_at hl 0 rfl) ?_
      refine lv_bipush (v := 16) hx hb dX9_sleep_40 (by decide) ?_
      refine lv_icmp_ge (tgt := 89) hx hb dX9_sleep_42 (by decide) (fun c42 => ?_) (fun c42 => ?_)
      · refine lv_iload_n hx hb dX9_sleep_89 rfl (lv_at hl 1 rfl) ?_
        exact cl_iretX (Nat.le_of_ble_eq_true rfl) F hB hrt dX9_sleep_90 (⟨⟨_, rfl⟩, hI3⟩)
      · refine lv_aload_n hx hb dX9_sleep_45 rfl (lv_at hl 4 rfl) ?_
        have hn3 := i_nle c42
        have hj3 : i4.toInt.toNat < 16 := by omega
        refine gr_X9_11 F hB dX9_sleep_46 LX3.1 LX3.2.1 ?_
        refine lv_iload hx hb dX9_sleep_49 (lv_at hl 0 rfl) ?_
        refine sg_aald 4 hx hb F.2.1 hB.1 rfl rfl dX9_sleep_51 LD3.1 (by omega) (by rw [LD3.2.1]; omega) (by rw [LD3.2.1]; decide) ?_
        rw [show sgR _ _ _ = some _ from LD3.2.2 _ hj3]
        refine lv_astore (lv' := [(5, .ref _), (4, .int _), (3, .int _), (2, .ref _), (1, .int _), (0, .ref _)]) hx hb dX9_sleep_52 hl (by decide) rfl (fun ls hl => ?_)
        refine lv_aload hx hb dX9_sleep_54 (lv_at hl 0 rfl) ?_
        refine gf_X9_74 F hB dX9_sleep_56 (Ld3 _ hj3).1 ?_
        refine lv_bipush (v := 99) hx hb dX9_sleep_59 (by decide) ?_
        refine lv_icmp_ne (tgt := 83) hx hb dX9_sleep_61 (by decide) (fun c61 => ?_) (fun c61 => ?_)
        · refine lv_iinc (lv' := [(4, .int _), (5, .ref _), (3, .int _), (2, .ref _), (1, .int _), (0, .ref _)]) hx hb dX9_sleep_83 hl (k := 1) rfl rfl (by decide) rfl (fun ls hl => ?_)
          refine lv_goto (tgt := 38) hx hb dX9_sleep_86 (by decide) ?_
          have q9 := cl_add1 (x := i4) (by omega) (by omega)
          exact ih38 _ (by subst hd38; rw [q9]; omega) _ _ _ _ _ _ hB (lv_sub hl [0, 2, 3, 4, 5] rfl) ⟨by rw [q9]; omega, by rw [q9]; omega⟩ hI9 rfl
        · refine lv_aload hx hb dX9_sleep_64 (lv_at hl 0 rfl) ?_
          refine lv_aload_n hx hb dX9_sleep_66 rfl (lv_at hl 3 rfl) ?_
          refine cl_callS F hB (k_below l D cy hB.2 (Ld3 _ hj3).1 _) (cwS 2 F.1.2.2.2.2 (vgS (vm_5 _ (List.mem_of_getElem? (i := 32) rfl)) (vm_5 _ (List.mem_of_getElem? (i := 33) rfl)) (vm_4 _ (List.mem_of_getElem? (i := 20) rfl)) (vm_5 _ (List.mem_of_getElem? (i := 6) rfl))) rfl rfl rfl ⟨rfl, by decide, by decide, by decide +kernel⟩ ⟨Nat.le_of_ble_eq_true rfl, Nat.le_of_ble_eq_true rfl⟩) rfl hl.1 rfl (Nat.le_of_ble_eq_true rfl) dX9_sleep_67 ⟨Nat.le_of_ble_eq_true rfl, Nat.le_of_ble_eq_true rfl⟩ (fun H locs v σ67 hB hP => ?_)
          obtain ⟨⟨b67, rfl, hb67⟩, rfl⟩ := hP
          refine lv_if_eq (tgt := 83) hx hb dX9_sleep_70 (by decide) (fun c70 => ?_) (fun c70 => ?_)
          · refine lv_iinc (lv' := [(4, .int _), (5, .ref _), (3, .int _), (2, .ref _), (1, .int _), (0, .ref _)]) hx hb dX9_sleep_83 hl (k := 1) rfl rfl (by decide) rfl (fun ls hl => ?_)
            refine lv_goto (tgt := 38) hx hb dX9_sleep_86 (by decide) ?_
            have q9 := cl_add1 (x := i4) (by omega) (by omega)
            exact ih38 _ (by subst hd38; rw [q9]; omega) _ _ _ _ _ _ hB (lv_sub hl [0, 2, 3, 4, 5] rfl) ⟨by rw [q9]; omega, by rw [q9]; omega⟩ hI9 rfl
          · refine lv_aload hx hb dX9_sleep_73 (lv_at hl 0 rfl) ?_
            refine lv_bipush (v := 122) hx hb dX9_sleep_75 (by decide) ?_
            refine pf_X9_74 F hB dX9_sleep_77 (Ld3 _ hj3).1 ⟨by decide, by decide⟩ (fun H locs hBn => ?_)
            clear hB; have hB := hBn; clear hBn
            have hI9 := si_of hB.2 (SI_st hV9 hI9 hj3 (by rw [c61]; decide) (by decide) (by decide))
            have hV9 := hB.2
            refine lv_iinc (lv' := [(3, .int _), (5, .ref _), (4, .int _), (2, .ref _), (1, .int _), (0, .ref _)]) hx hb dX9_sleep_80 hl (k := 2) rfl rfl (by decide) rfl (fun ls hl => ?_)
            refine lv_iinc (lv' := [(4, .int _), (3, .int _), (5, .ref _), (2, .ref _), (1, .int _), (0, .ref _)]) hx hb dX9_sleep_83 hl (k := 2) rfl rfl (by decide) rfl (fun ls hl => ?_)
            refine lv_goto (tgt := 38) hx hb dX9_sleep_86 (by decide) ?_
            have q9 := cl_add1 (x := i4) (by omega) (by omega)
            exact ih38 _ (by subst hd38; rw [q9]; omega) _ _ _ _ _ _ hB (lv_sub hl [0, 1, 3, 4, 5] rfl) ⟨by rw [q9]; omega, by rw [q9]; omega⟩ hI9 rfl
    · exact cl_thr (NC := 3) (vi_throwS (WS := _ :: vWall) (text := "it can\'t be put asleep") (ik := 139) (is := 244) (ic := 143) (X := "java/lang/UnsupportedOperationException") F.1.1 F.1.2.1 hst F.1.2.2.2.2 F.1.2.2.2.1 (by decide) (by decide) hT (by decide) (List.mem_cons_of_mem _ (vm_4 _ (List.mem_of_getElem? (i := 27) rfl))) (List.mem_cons_of_mem _ (vm_4 _ (List.mem_of_getElem? (i := 28) rfl))) (fun w h => List.mem_cons_of_mem _ (vmx_1 w h)) (by decide +kernel) (by decide +kernel) (by decide) F.1.2.2.1 (by decide +kernel) (by decide +kernel) (by decide +kernel) (by decide +kernel) (by decide +kernel) hout F.2.2.2 (Nat.le_of_ble_eq_true rfl) (Nat.le_of_ble_eq_true rfl) ⟨Nat.le_refl _, Nat.le_refl _⟩ (Nat.le_refl _) (fun _ h => h)) hB vi_kept_rf (Nat.le_of_ble_eq_true rfl) (by decide) hl.1

theorem dX9_wake_0 : decode cX9_wake 0 = .ok (.aload_n 0, 1) := by decide +kernel
theorem dX9_wake_1 : decode cX9_wake 1 = .ok (.iload_n 1, 1) := by decide +kernel
theorem dX9_wake_2 : decode cX9_wake 2 = .ok (.invokevirtual 124, 3) := by decide +kernel
theorem dX9_wake_5 : decode cX9_wake 5 = .ok (.astore_n 2, 1) := by decide +kernel
theorem dX9_wake_6 : decode cX9_wake 6 = .ok (.aload_n 2, 1) := by decide +kernel
theorem dX9_wake_7 : decode cX9_wake 7 = .ok (.getfield 74, 3) := by decide +kernel
theorem dX9_wake_10 : decode cX9_wake 10 = .ok (.bipush 122, 2) := by decide +kernel
theorem dX9_wake_12 : decode cX9_wake 12 = .ok (.if_icmp .eq 13, 3) := by decide +kernel
theorem dX9_wake_15 : decode cX9_wake 15 = .ok (.new 139, 3) := by decide +kernel
theorem dX9_wake_25 : decode cX9_wake 25 = .ok (.iconst 0, 1) := by decide +kernel
theorem dX9_wake_26 : decode cX9_wake 26 = .ok (.istore_n 3, 1) := by decide +kernel
theorem dX9_wake_27 : decode cX9_wake 27 = .ok (.aload_n 2, 1) := by decide +kernel
theorem dX9_wake_28 : decode cX9_wake 28 = .ok (.astore 4, 2) := by decide +kernel
theorem dX9_wake_30 : decode cX9_wake 30 = .ok (.iconst 0, 1) := by decide +kernel
theorem dX9_wake_31 : decode cX9_wake 31 = .ok (.istore 5, 2) := by decide +kernel
theorem dX9_wake_33 : decode cX9_wake 33 = .ok (.iload 5, 2) := by decide +kernel
theorem dX9_wake_35 : decode cX9_wake 35 = .ok (.bipush 16, 2) := by decide +kernel
theorem dX9_wake_37 : decode cX9_wake 37 = .ok (.if_icmp .ge 41, 3) := by decide +kernel
theorem dX9_wake_40 : decode cX9_wake 40 = .ok (.aload 4, 2) := by decide +kernel
theorem dX9_wake_42 : decode cX9_wake 42 = .ok (.ifnull 36, 3) := by decide +kernel
theorem dX9_wake_45 : decode cX9_wake 45 = .ok (.aload 4, 2) := by decide +kernel
theorem dX9_wake_47 : decode cX9_wake 47 = .ok (.getfield 74, 3) := by decide +kernel
theorem dX9_wake_50 : decode cX9_wake 50 = .ok (.bipush 122, 2) := by decide +kernel
theorem dX9_wake_52 : decode cX9_wake 52 = .ok (.if_icmp .ne 13, 3) := by decide +kernel
theorem dX9_wake_55 : decode cX9_wake 55 = .ok (.aload 4, 2) := by decide +kernel
theorem dX9_wake_57 : decode cX9_wake 57 = .ok (.bipush 99, 2) := by decide +kernel
theorem dX9_wake_59 : decode cX9_wake 59 = .ok (.putfield 74, 3) := by decide +kernel
theorem dX9_wake_62 : decode cX9_wake 62 = .ok (.iinc 3 1, 3) := by decide +kernel
theorem dX9_wake_65 : decode cX9_wake 65 = .ok (.aload 4, 2) := by decide +kernel
theorem dX9_wake_67 : decode cX9_wake 67 = .ok (.getfield 171, 3) := by decide +kernel
theorem dX9_wake_70 : decode cX9_wake 70 = .ok (.astore 4, 2) := by decide +kernel
theorem dX9_wake_72 : decode cX9_wake 72 = .ok (.iinc 5 1, 3) := by decide +kernel
theorem dX9_wake_75 : decode cX9_wake 75 = .ok (.goto (-42), 3) := by decide +kernel
theorem dX9_wake_78 : decode cX9_wake 78 = .ok (.aload_n 2, 1) := by decide +kernel
theorem dX9_wake_79 : decode cX9_wake 79 = .ok (.aload_n 0, 1) := by decide +kernel
theorem dX9_wake_80 : decode cX9_wake 80 = .ok (.getfield 252, 3) := by decide +kernel
theorem dX9_wake_83 : decode cX9_wake 83 = .ok (.iload_n 3, 1) := by decide +kernel
theorem dX9_wake_84 : decode cX9_wake 84 = .ok (.iadd, 1) := by decide +kernel
theorem dX9_wake_85 : decode cX9_wake 85 = .ok (.putfield 255, 3) := by decide +kernel
theorem dX9_wake_88 : decode cX9_wake 88 = .ok (.iload_n 3, 1) := by decide +kernel
theorem dX9_wake_89 : decode cX9_wake 89 = .ok (.ireturn, 1) := by decide +kernel
set_option maxRecDepth 100000 in
set_option maxHeartbeats 4000000 in
theorem k_wake (l : Launch) (D : va_G) (cy : Nat → ClassId) {ad τ : List Nat} {Y : CY} {σ : SG} (hst : l.stackTraces = false) (hs : vi_s1 vSG τ) (hV : VL cy ad τ Y σ) {B : Int} (hI : SI Y σ B) (x1 : Int32) (sz : Nat) : clX l D cy ad τ Y σ sz yX9_wake (Cond.code yX9_wake cX9_wake 6 (some .int) :: vWall) 7 111 2 [.ref (yX Y), .int x1] (fun v s2 => (∃ x : Int32, v = some (.int x)) ∧ SI Y s2 B) ["java/lang/UnsupportedOperationException", "java/lang/IndexOutOfBoundsException"] := by
  refine cl_ofX (cc := cX9_wake) (maxL := 6) (ret := (some .int)) hV (by decide) rfl (Nat.le_of_ble_eq_true rfl) (lv := [(0, .ref (yX Y)), (1, .int x1)]) rfl (fun p e s m below meth c ls H hrt F hT hout hB hl => ?_) sz
  have hx := F.1.1
  have hb := F.1.2.1
  have hown := F.1.2.2.2.1
  generalize hlo : ([] : List Loc) = locs at hB ⊢
  clear hlo
  obtain ⟨LX, LD, Ld, LE, Le, LP9, Lp, Lt, LU, LA, Lz⟩ := hV.2
  have e0 : (0 : Int32).toInt = 0 := rfl
  have e1 : (1 : Int32).toInt = 1 := rfl
  have e16 : (16 : Int32).toInt = 16 := rfl
  have e12 : (12 : Int32).toInt = 12 := rfl
  refine lv_aload_n hx hb dX9_wake_0 rfl (lv_at hl 0 rfl) ?_
  refine lv_iload_n hx hb dX9_wake_1 rfl (lv_at hl 1 rfl) ?_
  refine cl_callXV (ci := 14) F hT hout hB vi_kept_rf (k_devAt l D cy hst hB.2 _ _) (cwV 1 F.1.2.2.2.2 (vgV (vm_4 _ (List.mem_of_getElem? (i := 29) rfl)) (vm_4 _ (List.mem_of_getElem? (i := 30) rfl)) (vm_4 _ (List.mem_of_getElem? (i := 31) rfl)) (vm_4 _ (List.mem_of_getElem? (i := 20) rfl)) (vm_4 _ (List.mem_of_getElem? (i := 23) rfl))) rfl rfl rfl ⟨rfl, by decide, by decide, by decide +kernel⟩ ⟨Nat.le_of_ble_eq_true rfl, Nat.le_of_ble_eq_true rfl⟩) rfl rfl (by decide) rfl hl.1 rfl (Nat.le_of_ble_eq_true rfl) dX9_wake_2 ⟨Nat.le_of_ble_eq_true rfl, Nat.le_of_ble_eq_true rfl⟩ (by decide) (Nat.le_of_ble_eq_true rfl) LX.1 (fun H locs v σ2 hB hP => ?_)
  obtain ⟨⟨i2, hi2, ex2, hc2, rfl⟩, rfl⟩ := hP
  refine lv_astore_n (lv' := [(2, .ref _), (0, .ref _), (1, .int _)]) hx hb dX9_wake_5 rfl hl (by decide) rfl (fun ls hl => ?_)
  refine lv_aload_n hx hb dX9_wake_6 rfl (lv_at hl 0 rfl) ?_
  refine gf_X9_74 F hB dX9_wake_7 (Ld _ hi2).1 ?_
  refine lv_bipush (v := 122) hx hb dX9_wake_10 (by decide) ?_
  refine lv_icmp_eq (tgt := 25) hx hb dX9_wake_12 (by decide) (fun c12 => ?_) (fun c12 => ?_)
  · refine lv_iconst (v := 0) hx hb dX9_wake_25 (by decide) ?_
    refine lv_istore_n (lv' := [(3, .int _), (2, .ref _), (0, .ref _), (1, .int _)]) hx hb dX9_wake_26 rfl hl (by decide) rfl (fun ls hl => ?_)
    refine lv_aload_n hx hb dX9_wake_27 rfl (lv_at hl 1 rfl) ?_
    refine lv_astore (lv' := [(4, .ref _), (3, .int _), (2, .ref _), (0, .ref _), (1, .int _)]) hx hb dX9_wake_28 hl (by decide) rfl (fun ls hl => ?_)
    refine lv_iconst (v := 0) hx hb dX9_wake_30 (by decide) ?_
    refine lv_istore (lv' := [(5, .int _), (4, .ref _), (3, .int _), (2, .ref _), (0, .ref _), (1, .int _)]) hx hb dX9_wake_31 hl (by decide) rfl (fun ls hl => ?_)
    have key33 : ∃ (i5 x3 : Int32) (r4 : Option Nat) (σ3 : SG), clB D cy ad τ Y s σ3 H locs ∧ lv_has ls 6 [(5, .int i5), (4, va_rf r4), (3, .int x3), (2, .ref (yd Y i2)), (1, .int x1), (0, .ref (yX Y))] ∧ (0 ≤ i5.toInt ∧ i5.toInt ≤ 16) ∧ SI Y σ3 B ∧ (r4 = none ∨ ∃ m, m < 16 ∧ r4 = some (yd Y m)) := ⟨_, _, some (yd Y i2), _, hB, (lv_sub hl [0, 1, 2, 3, 5, 4] rfl), ⟨by decide, by decide⟩, hI, Or.inr ⟨_, hi2, rfl⟩⟩
    clear hB hl
    obtain ⟨i5, x3, r4, σ3, hB, hl, hi5, hI3, hr4⟩ := key33
    obtain ⟨d33, hd33⟩ : ∃ d : Nat, d = 20 - i5.toInt.toNat := ⟨_, rfl⟩
    induction d33 using Nat.strongRecOn generalizing H locs ls i5 x3 r4 σ3
    rename_i d33 ih33
    have hV3 := hB.2
    obtain ⟨LX3, LD3, Ld3, LE3, Le3, LP93, Lp3, Lt3, LU3, LA3, Lz3⟩ := hV3.2
    have hI9 := hI3
    have hV9 := hV3
    refine lv_iload hx hb dX9_wake_33 (lv_at hl 0 rfl) ?_
    refine lv_bipush (v := 16) hx hb dX9_wake_35 (by decide) ?_
    refine lv_icmp_ge (tgt := 78) hx hb dX9_wake_37 (by decide) (fun c37 => ?_) (fun c37 => ?_)
    · refine lv_aload_n hx hb dX9_wake_78 rfl (lv_at hl 3 rfl) ?_
      refine lv_aload_n hx hb dX9_wake_79 rfl (lv_at hl 5 rfl) ?_
      refine gf_X9_252 F hB dX9_wake_80 LX3.1 ?_
      refine lv_iload_n hx hb dX9_wake_83 rfl (lv_at hl 2 rfl) ?_
      refine lv_iadd hx hb dX9_wake_84 ?_
      refine pf_X9_255 F hB dX9_wake_85 (Ld3 _ hi2).1 (fun H locs hBn => ?_)
      clear hB; have hB := hBn; clear hBn
      have hI9 := si_of hB.2 (SI_PI (k := 16) hV9 hI9 (t := 7) (Ld3 _ hi2).1 rfl (by decide))
      have hV9 := hB.2
      refine lv_iload_n hx hb dX9_wake_88 rfl (lv_at hl 2 rfl) ?_
      exact cl_iretX (Nat.le_of_ble_eq_true rfl) F hB hrt dX9_wake_89 (⟨⟨_, rfl⟩, hI9⟩)
    · refine cl_aldQ4 hx hb dX9_wake_40 (lv_at hl 1 rfl) ?_
      refine sg_split (fun hz42 => ?_) (fun b42 hz42 => ?_)
      · refine lv_ifnullN (tgt := 78) hx hb dX9_wake_42 (by decide) ?_
        refine lv_aload_n hx hb dX9_wake_78 rfl (lv_at hl 3 rfl) ?_
        refine lv_aload_n hx hb dX9_wake_79 rfl (lv_at hl 5 rfl) ?_
        refine gf_X9_252 F hB dX9_wake_80 LX3.1 ?_
        refine lv_iload_n hx hb dX9_wake_83 rfl (lv_at hl 2 rfl) ?_
        refine lv_iadd hx hb dX9_wake_84 ?_
        refine pf_X9_255 F hB dX9_wake_85 (Ld3 _ hi2).1 (fun H locs hBn => ?_)
        clear hB; have hB := hBn; clear hBn
        have hI9 := si_of hB.2 (SI_PI (k := 16) hV9 hI9 (t := 7) (Ld3 _ hi2).1 rfl (by decide))
        have hV9 := hB.2
        refine lv_iload_n hx hb dX9_wake_88 rfl (lv_at hl 2 rfl) ?_
        exact cl_iretX (Nat.le_of_ble_eq_true rfl) F hB hrt dX9_wake_89 (⟨⟨_, rfl⟩, hI9⟩)
      · refine lv_ifnull hx hb dX9_wake_42 ?_
        subst hz42
        obtain ⟨m42, hm42, em42⟩ := hr4.resolve_left (fun z => by cases z)
        cases em42
        refine lv_aload hx hb dX9_wake_45 (lv_at hl 1 rfl) ?_
        refine gf_X9_74 F hB dX9_wake_47 (Ld3 _ hm42).1 ?_
        refine lv_bipush (v := 122) hx hb dX9_wake_50 (by decide) ?_
        refine lv_icmp_ne (tgt := 65) hx hb dX9_wake_52 (by decide) (fun c52 => ?_) (fun c52 => ?_)
        · refine lv_aload hx hb dX9_wake_65 (lv_at hl 1 rfl) ?_
          refine gf_X9_171 F hB dX9_wake_67 (Ld3 _ hm42).1 ?_
          refine sg_split (fun hz67 => ?_) (fun b67 hz67 => ?_)
          · skip
            refine lv_astoreN (lv' := [(4, .null), (5, .int _), (3, .int _), (2, .ref _), (1, .int _), (0, .ref _)]) hx hb dX9_wake_70 hl (by decide) rfl (fun ls hl => ?_)
            refine lv_iinc (lv' := [(5, .int _), (4, .null), (3, .int _), (2, .ref _), (1, .int _), (0, .ref _)]) hx hb dX9_wake_72 hl (k := 1) rfl rfl (by decide) rfl (fun ls hl => ?_)
            refine lv_goto (tgt := 33) hx hb dX9_wake_75 (by decide) ?_
            have q9 := cl_add1 (x := i5) (by have := i_nle c37; omega) (by omega)
            have h37 := i_nle c37
            first | exact ih33 _ (by subst hd33; rw [q9]; omega) _ _ _ _ _ (some b67) _ hB (lv_sub hl [0, 1, 2, 3, 4, 5] rfl) ⟨by rw [q9]; omega, by rw [q9]; omega⟩ hI9 (hubS hI9.1 hm42 hz67) rfl | exact ih33 _ (by subst hd33; rw [q9]; omega) _ _ _ _ _ (none) _ hB (lv_sub hl [0, 1, 2, 3, 4, 5] rfl) ⟨by rw [q9]; omega, by rw [q9]; omega⟩ hI9 (Or.inl rfl) rfl | fail "no road"
          · skip
            refine lv_astore (lv' := [(4, .ref _), (5, .int _), (3, .int _), (2, .ref _), (1, .int _), (0, .ref _)]) hx hb dX9_wake_70 hl (by decide) rfl (fun ls hl => ?_)
            refine lv_iinc (lv' := [(5, .int _), (4, .ref _), (3, .int _), (2, .ref _), (1, .int _), (0, .ref _)]) hx hb dX9_wake_72 hl (k := 1) rfl rfl (by decide) rfl (fun ls hl => ?_)
            refine lv_goto (tgt := 33) hx hb dX9_wake_75 (by decide) ?_
            have q9 := cl_add1 (x := i5) (by have := i_nle c37; omega) (by omega)
            have h37 := i_nle c37
            first | exact ih33 _ (by subst hd33; rw [q9]; omega) _ _ _ _ _ (some b67) _ hB (lv_sub hl [0, 1, 2, 3, 4, 5] rfl) ⟨by rw [q9]; omega, by rw [q9]; omega⟩ hI9 (hubS hI9.1 hm42 hz67) rfl | exact ih33 _ (by subst hd33; rw [q9]; omega) _ _ _ _ _ (none) _ hB (lv_sub hl [0, 1, 2, 3, 4, 5] rfl) ⟨by rw [q9]; omega, by rw [q9]; omega⟩ hI9 (Or.inl rfl) rfl | fail "no road"
        · refine lv_aload hx hb dX9_wake_55 (lv_at hl 1 rfl) ?_
          refine lv_bipush (v := 99) hx hb dX9_wake_57 (by decide) ?_
          refine pf_X9_74 F hB dX9_wake_59 (Ld3 _ hm42).1 ⟨by decide, by decide⟩ (fun H locs hBn => ?_)
          clear hB; have hB := hBn; clear hBn
          have hI9 := si_of hB.2 (SI_st hV9 hI9 hm42 (by rw [c52]; decide) (by decide) (by decide))
          have hV9 := hB.2
          refine lv_iinc (lv' := [(3, .int _), (5, .int _), (4, .ref _), (2, .ref _), (1, .int _), (0, .ref _)]) hx hb dX9_wake_62 hl (k := 2) rfl rfl (by decide) rfl (fun ls hl => ?_)
          refine lv_aload hx hb dX9_wake_65 (lv_at hl 2 rfl) ?_
          refine gf_X9_171 F hB dX9_wake_67 (Ld3 _ hm42).1 ?_
          refine sg_split (fun hz67 => ?_) (fun b67 hz67 => ?_)
          · skip
            refine lv_astoreN (lv' := [(4, .null), (3, .int _), (5, .int _), (2, .ref _), (1, .int _), (0, .ref _)]) hx hb dX9_wake_70 hl (by decide) rfl (fun ls hl => ?_)
            refine lv_iinc (lv' := [(5, .int _), (4, .null), (3, .int _), (2, .ref _), (1, .int _), (0, .ref _)]) hx hb dX9_wake_72 hl (k := 2) rfl rfl (by decide) rfl (fun ls hl => ?_)
            refine lv_goto (tgt := 33) hx hb dX9_wake_75 (by decide) ?_
            have q9 := cl_add1 (x := i5) (by have := i_nle c37; omega) (by omega)
            have h37 := i_nle c37
            first | exact ih33 _ (by subst hd33; rw [q9]; omega) _ _ _ _ _ (some b67) _ hB (lv_sub hl [0, 1, 2, 3, 4, 5] rfl) ⟨by rw [q9]; omega, by rw [q9]; omega⟩ hI9 (hubS hI9.1 hm42 hz67) rfl | exact ih33 _ (by subst hd33; rw [q9]; omega) _ _ _ _ _ (none) _ hB (lv_sub hl [0, 1, 2, 3, 4, 5] rfl) ⟨by rw [q9]; omega, by rw [q9]; omega⟩ hI9 (Or.inl rfl) rfl | fail "no road"
          · skip
            refine lv_astore (lv' := [(4, .ref _), (3, .int _), (5, .int _), (2, .ref _), (1, .int _), (0, .ref _)]) hx hb dX9_wake_70 hl (by decide) rfl (fun ls hl => ?_)
            refine lv_iinc (lv' := [(5, .int _), (4, .ref _), (3, .int _), (2, .ref _), (1, .int _), (0, .ref _)]) hx hb dX9_wake_72 hl (k := 2) rfl rfl (by decide) rfl (fun ls hl => ?_)
            refine lv_goto (tgt := 33) hx hb dX9_wake_75 (by decide) ?_
            have q9 := cl_add1 (x := i5) (by have := i_nle c37; omega) (by omega)
            have h37 := i_nle c37
            first | exact ih33 _ (by subst hd33; rw [q9]; omega) _ _ _ _ _ (some b67) _ hB (lv_sub hl [0, 1, 2, 3, 4, 5] rfl) ⟨by rw [q9]; omega, by rw [q9]; omega⟩ hI9 (hubS hI9.1 hm42 hz67) rfl | exact ih33 _ (by subst hd33; rw [q9]; omega) _ _ _ _ _ (none) _ hB (lv_sub hl [0, 1, 2, 3, 4, 5] rfl) ⟨by rw [q9]; omega, by rw [q9]; omega⟩ hI9 (Or.inl rfl) rfl | fail "no road"
  · exact cl_thr (NC := 2) (vi_throwS (WS := _ :: vWall) (text := "it is not asleep") (ik := 139) (is := 250) (ic := 143) (X := "java/lang/UnsupportedOperationException") F.1.1 F.1.2.1 hst F.1.2.2.2.2 F.1.2.2.2.1 (by decide) (by decide) hT (by decide) (List.mem_cons_of_mem _ (vm_4 _ (List.mem_of_getElem? (i := 27) rfl))) (List.mem_cons_of_mem _ (vm_4 _ (List.mem_of_getElem? (i := 28) rfl))) (fun w h => List.mem_cons_of_mem _ (vmx_1 w h)) (by decide +kernel) (by decide +kernel) (by decide) F.1.2.2.1 (by decide +kernel) (by decide +kernel) (by decide +kernel) (by decide +kernel) (by decide +kernel) hout F.2.2.2 (Nat.le_of_ble_eq_true rfl) (Nat.le_of_ble_eq_true rfl) ⟨Nat.le_refl _, Nat.le_refl _⟩ (Nat.le_refl _) (fun _ h => h)) hB vi_kept_rf (Nat.le_of_ble_eq_true rfl) (by decide) hl.1

theorem dX9_ask_0 : decode cX9_ask 0 = .ok (.aload_n 0, 1) := by decide +kernel
theorem dX9_ask_1 : decode cX9_ask 1 = .ok (.iload_n 1, 1) := by decide +kernel
theorem dX9_ask_2 : decode cX9_ask 2 = .ok (.invokevirtual 334, 3) := by decide +kernel
theorem dX9_ask_5 : decode cX9_ask 5 = .ok (.astore_n 3, 1) := by decide +kernel
theorem dX9_ask_6 : decode cX9_ask 6 = .ok (.iload_n 2, 1) := by decide +kernel
theorem dX9_ask_7 : decode cX9_ask 7 = .ok (.iconst 1, 1) := by decide +kernel
theorem dX9_ask_8 : decode cX9_ask 8 = .ok (.bipush 16, 2) := by decide +kernel
theorem dX9_ask_10 : decode cX9_ask 10 = .ok (.invokestatic 88, 3) := by decide +kernel
theorem dX9_ask_13 : decode cX9_ask 13 = .ok (.ifCond .ne 14, 3) := by decide +kernel
theorem dX9_ask_16 : decode cX9_ask 16 = .ok (.new 92, 3) := by decide +kernel
theorem dX9_ask_27 : decode cX9_ask 27 = .ok (.aload_n 3, 1) := by decide +kernel
theorem dX9_ask_28 : decode cX9_ask 28 = .ok (.getfield 350, 3) := by decide +kernel
theorem dX9_ask_31 : decode cX9_ask 31 = .ok (.astore 4, 2) := by decide +kernel
theorem dX9_ask_33 : decode cX9_ask 33 = .ok (.aload 4, 2) := by decide +kernel
theorem dX9_ask_35 : decode cX9_ask 35 = .ok (.ifnull 11, 3) := by decide +kernel
theorem dX9_ask_38 : decode cX9_ask 38 = .ok (.aload 4, 2) := by decide +kernel
theorem dX9_ask_40 : decode cX9_ask 40 = .ok (.getfield 144, 3) := by decide +kernel
theorem dX9_ask_43 : decode cX9_ask 43 = .ok (.ifCond .ne 14, 3) := by decide +kernel
theorem dX9_ask_46 : decode cX9_ask 46 = .ok (.new 139, 3) := by decide +kernel
theorem dX9_ask_57 : decode cX9_ask 57 = .ok (.aload_n 3, 1) := by decide +kernel
theorem dX9_ask_58 : decode cX9_ask 58 = .ok (.getfield 356, 3) := by decide +kernel
theorem dX9_ask_61 : decode cX9_ask 61 = .ok (.iconst 4, 1) := by decide +kernel
theorem dX9_ask_62 : decode cX9_ask 62 = .ok (.if_icmp .lt 14, 3) := by decide +kernel
theorem dX9_ask_65 : decode cX9_ask 65 = .ok (.new 101, 3) := by decide +kernel
theorem dX9_ask_76 : decode cX9_ask 76 = .ok (.aload_n 3, 1) := by decide +kernel
theorem dX9_ask_77 : decode cX9_ask 77 = .ok (.iload_n 2, 1) := by decide +kernel
theorem dX9_ask_78 : decode cX9_ask 78 = .ok (.invokevirtual 361, 3) := by decide +kernel
theorem dX9_ask_81 : decode cX9_ask 81 = .ok (.pop, 1) := by decide +kernel
theorem dX9_ask_82 : decode cX9_ask 82 = .ok (.aload_n 3, 1) := by decide +kernel
theorem dX9_ask_83 : decode cX9_ask 83 = .ok (.getfield 356, 3) := by decide +kernel
theorem dX9_ask_86 : decode cX9_ask 86 = .ok (.ireturn, 1) := by decide +kernel
set_option maxRecDepth 100000 in
set_option maxHeartbeats 4000000 in
theorem k_ask (l : Launch) (D : va_G) (cy : Nat → ClassId) {ad τ : List Nat} {Y : CY} {σ : SG} (hst : l.stackTraces = false) (hs : vi_s1 vSG τ) (hV : VL cy ad τ Y σ) {B : Int} (hI : SI Y σ B) (x1 x2 : Int32) (sz : Nat) : clX l D cy ad τ Y σ sz yX9_ask (Cond.code yX9_ask cX9_ask 5 (some .int) :: vWall) 7 111 2 [.ref (yX Y), .int x1, .int x2] (fun v s2 => (∃ x : Int32, v = some (.int x)) ∧ SI Y s2 B) ["java/lang/IllegalArgumentException", "java/lang/UnsupportedOperationException", "java/lang/IllegalStateException", "java/util/NoSuchElementException"] := by
  refine cl_ofX (cc := cX9_ask) (maxL := 5) (ret := (some .int)) hV (by decide) rfl (Nat.le_of_ble_eq_true rfl) (lv := [(0, .ref (yX Y)), (1, .int x1), (2, .int x2)]) rfl (fun p e s m below meth c ls H hrt F hT hout hB hl => ?_) sz
  have hx := F.1.1
  have hb := F.1.2.1
  have hown := F.1.2.2.2.1
  generalize hlo : ([] : List Loc) = locs at hB ⊢
  clear hlo
  obtain ⟨LX, LD, Ld, LE, Le, LP9, Lp, Lt, LU, LA, Lz⟩ := hV.2
  have e0 : (0 : Int32).toInt = 0 := rfl
  have e1 : (1 : Int32).toInt = 1 := rfl
  have e16 : (16 : Int32).toInt = 16 := rfl
  have e12 : (12 : Int32).toInt = 12 := rfl
  have e4 : (4 : Int32).toInt = 4 := rfl
  have e8 : (8 : Int32).toInt = 8 := rfl
  refine lv_aload_n hx hb dX9_ask_0 rfl (lv_at hl 0 rfl) ?_
  refine lv_iload_n hx hb dX9_ask_1 rfl (lv_at hl 1 rfl) ?_
  refine cl_callXV (ci := 14) F hT hout hB vi_kept_rf (k_opP l D cy hst hB.2 _ _) (cwV 1 F.1.2.2.2.2 (vgV (vm_8 _ (List.mem_of_getElem? (i := 16) rfl)) (vm_8 _ (List.mem_of_getElem? (i := 17) rfl)) (vm_8 _ (List.mem_of_getElem? (i := 18) rfl)) (vm_4 _ (List.mem_of_getElem? (i := 20) rfl)) (vm_8 _ (List.mem_of_getElem? (i := 15) rfl))) rfl rfl rfl ⟨rfl, by decide, by decide, by decide +kernel⟩ ⟨Nat.le_of_ble_eq_true rfl, Nat.le_of_ble_eq_true rfl⟩) rfl rfl (by decide) rfl hl.1 rfl (Nat.le_of_ble_eq_true rfl) dX9_ask_2 ⟨Nat.le_of_ble_eq_true rfl, Nat.le_of_ble_eq_true rfl⟩ (by decide) (Nat.le_of_ble_eq_true rfl) LX.1 (fun H locs v σ2 hB hP => ?_)
  obtain ⟨⟨j2, hj2, rfl, d2, hd2⟩, rfl⟩ := hP
  obtain ⟨e2, he2, -⟩ := siP_e hI.2.1 hj2 hd2
  have tp := (Lp _ hj2).1
  have te := pi_en hV hj2 he2
  refine lv_astore_n (lv' := [(3, .ref _), (0, .ref _), (1, .int _), (2, .int _)]) hx hb dX9_ask_5 rfl hl (by decide) rfl (fun ls hl => ?_)
  refine lv_iload_n hx hb dX9_ask_6 rfl (lv_at hl 3 rfl) ?_
  refine lv_iconst (v := 1) hx hb dX9_ask_7 (by decide) ?_
  refine lv_bipush (v := 16) hx hb dX9_ask_8 (by decide) ?_
  refine cl_callS F hB (k_within l D cy hB.2 _ _ _ _) (cwS 3 F.1.2.2.2.2 (vgS (vm_4 _ (List.mem_of_getElem? (i := 21) rfl)) (vm_4 _ (List.mem_of_getElem? (i := 22) rfl)) (vm_4 _ (List.mem_of_getElem? (i := 20) rfl)) (vm_4 _ (List.mem_of_getElem? (i := 12) rfl))) rfl rfl rfl ⟨rfl, by decide, by decide, by decide +kernel⟩ ⟨Nat.le_of_ble_eq_true rfl, Nat.le_of_ble_eq_true rfl⟩) rfl hl.1 rfl (Nat.le_of_ble_eq_true rfl) dX9_ask_10 ⟨Nat.le_of_ble_eq_true rfl, Nat.le_of_ble_eq_true rfl⟩ (fun H locs v σ10 hB hP => ?_)
  obtain ⟨⟨b10, rfl, hb10⟩, rfl⟩ := hP
  refine lv_if_ne (tgt := 27) hx hb dX9_ask_13 (by decide) (fun c13 => ?_) (fun c13 => ?_)
  · refine lv_aload_n hx hb dX9_ask_27 rfl (lv_at hl 0 rfl) ?_
    refine gr_X9_350 F hB dX9_ask_28 tp he2 ?_
    refine lv_astore (lv' := [(4, .ref _), (3, .ref _), (0, .ref _), (1, .int _), (2, .int _)]) hx hb dX9_ask_31 hl (by decide) rfl (fun ls hl => ?_)
    refine lv_aload hx hb dX9_ask_33 (lv_at hl 0 rfl) ?_
    refine lv_ifnull hx hb dX9_ask_35 ?_
    refine lv_aload hx hb dX9_ask_38 (lv_at hl 0 rfl) ?_
    refine gf_X9_144 F hB dX9_ask_40 te ?_
    refine lv_if_ne (tgt := 57) hx hb dX9_ask_43 (by decide) (fun c43 => ?_) (fun c43 => ?_)
    · refine lv_aload_n hx hb dX9_ask_57 rfl (lv_at hl 1 rfl) ?_
      refine gf_X9_356 F hB dX9_ask_58 tp ?_
      refine lv_iconst (v := 4) hx hb dX9_ask_61 (by decide) ?_
      refine lv_icmp_lt (tgt := 76) hx hb dX9_ask_62 (by decide) (fun c62 => ?_) (fun c62 => ?_)
      · refine lv_aload_n hx hb dX9_ask_76 rfl (lv_at hl 1 rfl) ?_
        refine lv_iload_n hx hb dX9_ask_77 rfl (lv_at hl 4 rfl) ?_
        refine cl_callN (ci := 10) F hB (k_addT l D cy hB.2 hj2 _ (by have := i_lt c62; omega) _) ⟨va_cnB 1 F.1.2.2.2.2 (vgN (vm_2 _ (List.mem_of_getElem? (i := 27) rfl))) rfl rfl rfl (F.2.2.1.1 _ nf_146) (F.1.2.2.2.2 _ (List.mem_cons_of_mem _ (vm_2 _ (List.mem_of_getElem? (i := 22) rfl)))) ⟨by decide, by decide, by decide +kernel⟩ ⟨Nat.le_of_ble_eq_true rfl, Nat.le_of_ble_eq_true rfl⟩, F.1.2.2.2.2 _ (List.mem_cons_of_mem _ (vm_8 _ (List.mem_of_getElem? (i := 22) rfl))), F.1.2.2.2.2 _ (List.mem_cons_of_mem _ (vm_8 _ (List.mem_of_getElem? (i := 23) rfl)))⟩ rfl rfl (by decide) rfl hl.1 rfl (Nat.le_of_ble_eq_true rfl) dX9_ask_78 ⟨Nat.le_of_ble_eq_true rfl, Nat.le_of_ble_eq_true rfl⟩ tp (fun H locs v σ78 hB hP => ?_)
        obtain ⟨rfl, rfl⟩ := hP
        refine lv_pop hx hb dX9_ask_81 rfl ?_
        refine lv_aload_n hx hb dX9_ask_82 rfl (lv_at hl 1 rfl) ?_
        refine gf_X9_356 F hB dX9_ask_83 tp ?_
        exact cl_iretX (Nat.le_of_ble_eq_true rfl) F hB hrt dX9_ask_86 (⟨⟨_, rfl⟩, SI_add hV hI hj2 he2 (fun z => absurd z c43) (by have := i_lt c62; omega) rfl⟩)
      · exact cl_thr (NC := 2) (vi_throwSW (WS := _ :: vWall) (text := "4 transfers wait") (ik := 101) (is := 359) (ic := 105) (X := "java/lang/IllegalStateException") F.1.1 F.1.2.1 hst F.1.2.2.2.2 F.1.2.2.2.1 (by decide) (by decide) hT (by decide) (List.mem_cons_of_mem _ (vm_4 _ (List.mem_of_getElem? (i := 16) rfl))) (List.mem_cons_of_mem _ (vm_4 _ (List.mem_of_getElem? (i := 17) rfl))) (fun w h => List.mem_cons_of_mem _ (vmx_3 w h)) (by decide +kernel) (by decide +kernel) (by decide) F.1.2.2.1 (by decide +kernel) (by decide +kernel) (by decide +kernel) (by decide +kernel) (by decide +kernel) hout F.2.2.2 (Nat.le_of_ble_eq_true rfl) (Nat.le_of_ble_eq_true rfl) ⟨Nat.le_refl _, Nat.le_refl _⟩ (Nat.le_refl _) (fun _ h => h)) hB vi_kept_rf (Nat.le_of_ble_eq_true rfl) (by decide) hl.1
    · exact cl_thr (NC := 2) (vi_throwSW (WS := _ :: vWall) (text := "it goes out of the host") (ik := 139) (is := 372) (ic := 143) (X := "java/lang/UnsupportedOperationException") F.1.1 F.1.2.1 hst F.1.2.2.2.2 F.1.2.2.2.1 (by decide) (by decide) hT (by decide) (List.mem_cons_of_mem _ (vm_4 _ (List.mem_of_getElem? (i := 27) rfl))) (List.mem_cons_of_mem _ (vm_4 _ (List.mem_of_getElem? (i := 28) rfl))) (fun w h => List.mem_cons_of_mem _ (vmx_1 w h)) (by decide +kernel) (by decide +kernel) (by decide) F.1.2.2.1 (by decide +kernel) (by decide +kernel) (by decide +kernel) (by decide +kernel) (by decide +kernel) hout F.2.2.2 (Nat.le_of_ble_eq_true rfl) (Nat.le_of_ble_eq_true rfl) ⟨Nat.le_refl _, Nat.le_refl _⟩ (Nat.le_refl _) (fun _ h => h)) hB vi_kept_rf (Nat.le_of_ble_eq_true rfl) (by decide) hl.1
  · exact cl_thr (NC := 2) (vi_throwSW (WS := _ :: vWall) (text := "not so many can be asked for") (ik := 92) (is := 370) (ic := 96) (X := "java/lang/IllegalArgumentException") F.1.1 F.1.2.1 hst F.1.2.2.2.2 F.1.2.2.2.1 (by decide) (by decide) hT (by decide) (List.mem_cons_of_mem _ (vm_4 _ (List.mem_of_getElem? (i := 14) rfl))) (List.mem_cons_of_mem _ (vm_4 _ (List.mem_of_getElem? (i := 15) rfl))) (fun w h => List.mem_cons_of_mem _ (vmx_2 w h)) (by decide +kernel) (by decide +kernel) (by decide) F.1.2.2.1 (by decide +kernel) (by decide +kernel) (by decide +kernel) (by decide +kernel) (by decide +kernel) hout F.2.2.2 (Nat.le_of_ble_eq_true rfl) (Nat.le_of_ble_eq_true rfl) ⟨Nat.le_refl _, Nat.le_refl _⟩ (Nat.le_refl _) (fun _ h => h)) hB vi_kept_rf (Nat.le_of_ble_eq_true rfl) (by decide) hl.1

theorem dX9_cancel_0 : decode cX9_cancel 0 = .ok (.aload_n 0, 1) := by decide +kernel
theorem dX9_cancel_1 : decode cX9_cancel 1 = .ok (.iload_n 1, 1) := by decide +kernel
theorem dX9_cancel_2 : decode cX9_cancel 2 = .ok (.invokevirtual 334, 3) := by decide +kernel
theorem dX9_cancel_5 : decode cX9_cancel 5 = .ok (.astore_n 2, 1) := by decide +kernel
theorem dX9_cancel_6 : decode cX9_cancel 6 = .ok (.aload_n 2, 1) := by decide +kernel
theorem dX9_cancel_7 : decode cX9_cancel 7 = .ok (.getfield 356, 3) := by decide +kernel
theorem dX9_cancel_10 : decode cX9_cancel 10 = .ok (.ifCond .ne 14, 3) := by decide +kernel
theorem dX9_cancel_13 : decode cX9_cancel 13 = .ok (.new 139, 3) := by decide +kernel
theorem dX9_cancel_24 : decode cX9_cancel 24 = .ok (.aload_n 2, 1) := by decide +kernel
theorem dX9_cancel_25 : decode cX9_cancel 25 = .ok (.iconst 0, 1) := by decide +kernel
theorem dX9_cancel_26 : decode cX9_cancel 26 = .ok (.invokevirtual 374, 3) := by decide +kernel
theorem dX9_cancel_29 : decode cX9_cancel 29 = .ok (.getfield 388, 3) := by decide +kernel
theorem dX9_cancel_32 : decode cX9_cancel 32 = .ok (.istore_n 3, 1) := by decide +kernel
theorem dX9_cancel_33 : decode cX9_cancel 33 = .ok (.aload_n 0, 1) := by decide +kernel
theorem dX9_cancel_34 : decode cX9_cancel 34 = .ok (.aload_n 2, 1) := by decide +kernel
theorem dX9_cancel_35 : decode cX9_cancel 35 = .ok (.bipush 120, 2) := by decide +kernel
theorem dX9_cancel_37 : decode cX9_cancel 37 = .ok (.invokevirtual 391, 3) := by decide +kernel
theorem dX9_cancel_40 : decode cX9_cancel 40 = .ok (.iload_n 3, 1) := by decide +kernel
theorem dX9_cancel_41 : decode cX9_cancel 41 = .ok (.ireturn, 1) := by decide +kernel
set_option maxRecDepth 100000 in
set_option maxHeartbeats 4000000 in
theorem k_canc (l : Launch) (D : va_G) (cy : Nat → ClassId) {ad τ : List Nat} {Y : CY} {σ : SG} (hst : l.stackTraces = false) (hs : vi_s1 vSG τ) (hV : VL cy ad τ Y σ) {B : Int} (hI : SI Y σ B) (x1 : Int32) (sz : Nat) : clX l D cy ad τ Y σ sz yX9_cancel (Cond.code yX9_cancel cX9_cancel 4 (some .int) :: vWall) 7 111 2 [.ref (yX Y), .int x1] (fun v s2 => (∃ x : Int32, v = some (.int x)) ∧ SI Y s2 B) ["java/lang/UnsupportedOperationException", "java/util/NoSuchElementException"] := by
  refine cl_ofX (cc := cX9_cancel) (maxL := 4) (ret := (some .int)) hV (by decide) rfl (Nat.le_of_ble_eq_true rfl) (lv := [(0, .ref (yX Y)), (1, .int x1)]) rfl (fun p e s m below meth c ls H hrt F hT hout hB hl => ?_) sz
  have hx := F.1.1
  have hb := F.1.2.1
  have hown := F.1.2.2.2.1
  generalize hlo : ([] : List Loc) = locs at hB ⊢
  clear hlo
  obtain ⟨LX, LD, Ld, LE, Le, LP9, Lp, Lt, LU, LA, Lz⟩ := hV.2
  have e0 : (0 : Int32).toInt = 0 := rfl
  have e1 : (1 : Int32).toInt = 1 := rfl
  have e16 : (16 : Int32).toInt = 16 := rfl
  have e12 : (12 : Int32).toInt = 12 := rfl
  have e4 : (4 : Int32).toInt = 4 := rfl
  have e8 : (8 : Int32).toInt = 8 := rfl
  refine lv_aload_n hx hb dX9_cancel_0 rfl (lv_at hl 0 rfl) ?_
  refine lv_iload_n hx hb dX9_cancel_1 rfl (lv_at hl 1 rfl) ?_
  refine cl_callXV (ci := 14) F hT hout hB vi_kept_rf (k_opP l D cy hst hB.2 _ _) (cwV 1 F.1.2.2.2.2 (vgV (vm_8 _ (List.mem_of_getElem? (i := 16) rfl)) (vm_8 _ (List.mem_of_getElem? (i := 17) rfl)) (vm_8 _ (List.mem_of_getElem? (i := 18) rfl)) (vm_4 _ (List.mem_of_getElem? (i := 20) rfl)) (vm_8 _ (List.mem_of_getElem? (i := 15) rfl))) rfl rfl rfl ⟨rfl, by decide, by decide, by decide +kernel⟩ ⟨Nat.le_of_ble_eq_true rfl, Nat.le_of_ble_eq_true rfl⟩) rfl rfl (by decide) rfl hl.1 rfl (Nat.le_of_ble_eq_true rfl) dX9_cancel_2 ⟨Nat.le_of_ble_eq_true rfl, Nat.le_of_ble_eq_true rfl⟩ (by decide) (Nat.le_of_ble_eq_true rfl) LX.1 (fun H locs v σ2 hB hP => ?_)
  obtain ⟨⟨j2, hj2, rfl, d2, hd2⟩, rfl⟩ := hP
  obtain ⟨e2, he2, -⟩ := siP_e hI.2.1 hj2 hd2
  have tp := (Lp _ hj2).1
  have te := pi_en hV hj2 he2
  refine lv_astore_n (lv' := [(2, .ref _), (0, .ref _), (1, .int _)]) hx hb dX9_cancel_5 rfl hl (by decide) rfl (fun ls hl => ?_)
  refine lv_aload_n hx hb dX9_cancel_6 rfl (lv_at hl 0 rfl) ?_
  refine gf_X9_356 F hB dX9_cancel_7 tp ?_
  refine lv_if_ne (tgt := 24) hx hb dX9_cancel_10 (by decide) (fun c10 => ?_) (fun c10 => ?_)
  · refine lv_aload_n hx hb dX9_cancel_24 rfl (lv_at hl 0 rfl) ?_
    refine lv_iconst (v := 0) hx hb dX9_cancel_25 (by decide) ?_
    refine cl_callN (ci := 10) F hB (k_trAt l D cy hB.2 hj2 _ _) ⟨va_cnB 1 F.1.2.2.2.2 (vgN (vm_2 _ (List.mem_of_getElem? (i := 25) rfl))) rfl rfl rfl (F.2.2.1.1 _ nf_129) (F.1.2.2.2.2 _ (List.mem_cons_of_mem _ (vm_2 _ (List.mem_of_getElem? (i := 22) rfl)))) ⟨by decide, by decide, by decide +kernel⟩ ⟨Nat.le_of_ble_eq_true rfl, Nat.le_of_ble_eq_true rfl⟩, F.1.2.2.2.2 _ (List.mem_cons_of_mem _ (vm_2 _ (List.mem_of_getElem? (i := 30) rfl))), F.1.2.2.2.2 _ (List.mem_cons_of_mem _ (vm_2 _ (List.mem_of_getElem? (i := 31) rfl)))⟩ rfl rfl (by decide) rfl hl.1 rfl (Nat.le_of_ble_eq_true rfl) dX9_cancel_26 ⟨Nat.le_of_ble_eq_true rfl, Nat.le_of_ble_eq_true rfl⟩ tp (fun H locs v σ26 hB hP => ?_)
    obtain ⟨rfl, rfl⟩ := hP
    have h3 := c_and3 (sgI σ (yp Y j2) 12 + 0)
    refine gf_X9_388 F hB dX9_cancel_29 ((Lt _ hj2).2.2 _ (by omega)).2 ?_
    refine lv_istore_n (lv' := [(3, .int _), (2, .ref _), (0, .ref _), (1, .int _)]) hx hb dX9_cancel_32 rfl hl (by decide) rfl (fun ls hl => ?_)
    refine lv_aload_n hx hb dX9_cancel_33 rfl (lv_at hl 2 rfl) ?_
    refine lv_aload_n hx hb dX9_cancel_34 rfl (lv_at hl 1 rfl) ?_
    refine lv_bipush (v := 120) hx hb dX9_cancel_35 (by decide) ?_
    have c0 := VT_in (ci := 10) (k := 13) (t := 0) (lo := 0) (hi := 4) hV.1 tp (by decide) rfl (by decide) (by decide +kernel)
    have c1 : 1 ≤ (sgI σ (yp Y j2) 13).toInt := by
      have : (sgI σ (yp Y j2) 13).toInt ≠ 0 := fun z => c10 (i_eq.mpr (by rw [e0]; exact z))
      omega
    refine cl_callV (ci := 14) F hB (k_end l D cy hst hs hB.2 hj2 120 (show sgF 1 120 from ⟨by decide, by decide⟩) c1 _) (cwV 2 F.1.2.2.2.2 (vgV (vm_5 _ (List.mem_of_getElem? (i := 26) rfl)) (vm_5 _ (List.mem_of_getElem? (i := 27) rfl)) (vm_5 _ (List.mem_of_getElem? (i := 28) rfl)) (vm_4 _ (List.mem_of_getElem? (i := 20) rfl)) (vm_5 _ (List.mem_of_getElem? (i := 18) rfl))) rfl rfl rfl ⟨rfl, by decide, by decide, by decide +kernel⟩ ⟨Nat.le_of_ble_eq_true rfl, Nat.le_of_ble_eq_true rfl⟩) rfl rfl (by decide) rfl hl.1 rfl (Nat.le_of_ble_eq_true rfl) dX9_cancel_37 ⟨Nat.le_of_ble_eq_true rfl, Nat.le_of_ble_eq_true rfl⟩ LX.1 (fun H locs v σ37 hB hP => ?_)
    obtain ⟨rfl, σ9, hV9, hk9, rfl⟩ := hP
    have hI9 := SI_drop hV9 (SI_kept hV hV9 hk9 (by decide +kernel) hI) hj2 (by rw [kp_I (ci := 10) (t := 0) (k := 13) hV.1 hV9.1 hk9 tp (by decide) rfl (by decide) (fun d _ => M_no (by decide +kernel) d)]; exact c1)
    refine lv_iload_n hx hb dX9_cancel_40 rfl (lv_at hl 0 rfl) ?_
    exact cl_iretX (Nat.le_of_ble_eq_true rfl) F hB hrt dX9_cancel_41 (⟨⟨_, rfl⟩, hI9⟩)
  · exact cl_thr (NC := 2) (vi_throwSW (WS := _ :: vWall) (text := "there is no transfer") (ik := 139) (is := 386) (ic := 143) (X := "java/lang/UnsupportedOperationException") F.1.1 F.1.2.1 hst F.1.2.2.2.2 F.1.2.2.2.1 (by decide) (by decide) hT (by decide) (List.mem_cons_of_mem _ (vm_4 _ (List.mem_of_getElem? (i := 27) rfl))) (List.mem_cons_of_mem _ (vm_4 _ (List.mem_of_getElem? (i := 28) rfl))) (fun w h => List.mem_cons_of_mem _ (vmx_1 w h)) (by decide +kernel) (by decide +kernel) (by decide) F.1.2.2.1 (by decide +kernel) (by decide +kernel) (by decide +kernel) (by decide +kernel) (by decide +kernel) hout F.2.2.2 (Nat.le_of_ble_eq_true rfl) (Nat.le_of_ble_eq_true rfl) ⟨Nat.le_refl _, Nat.le_refl _⟩ (Nat.le_refl _) (fun _ h => h)) hB vi_kept_rf (Nat.le_of_ble_eq_true rfl) (by decide) hl.1

theorem dX0_at_0 : decode cX0_at 0 = .ok (.aload_n 0, 1) := by decide +kernel
theorem dX0_at_1 : decode cX0_at 1 = .ok (.getfield 9, 3) := by decide +kernel
theorem dX0_at_4 : decode cX0_at 4 = .ok (.aload_n 0, 1) := by decide +kernel
theorem dX0_at_5 : decode cX0_at 5 = .ok (.getfield 15, 3) := by decide +kernel
theorem dX0_at_8 : decode cX0_at 8 = .ok (.iload_n 1, 1) := by decide +kernel
theorem dX0_at_9 : decode cX0_at 9 = .ok (.iadd, 1) := by decide +kernel
theorem dX0_at_10 : decode cX0_at 10 = .ok (.bipush 31, 2) := by decide +kernel
theorem dX0_at_12 : decode cX0_at 12 = .ok (.iand, 1) := by decide +kernel
theorem dX0_at_13 : decode cX0_at 13 = .ok (.iaload, 1) := by decide +kernel
theorem dX0_at_14 : decode cX0_at 14 = .ok (.ireturn, 1) := by decide +kernel
set_option maxRecDepth 100000 in
set_option maxHeartbeats 4000000 in
theorem k_at (l : Launch) (D : va_G) (cy : Nat → ClassId) {ad τ : List Nat} {Y : CY} {σ : SG} (hV : VL cy ad τ Y σ) {a : Nat} (ht : sgT σ a = 6) (x : Int32) (sz : Nat) : clM l D cy ad τ Y σ sz yX0_at (Cond.code yX0_at cX0_at 2 (some .int) :: vWall) 0 0 [.ref a, .int x] (fun v s2 => (∃ b : Int32, v = some (.int b)) ∧ σ = s2) := by
  refine cl_ofW (cc := cX0_at) (maxL := 2) (ret := (some .int)) hV (by decide) rfl (Nat.le_of_ble_eq_true rfl) (lv := [(0, .ref a), (1, .int x)]) rfl (fun p e s m below meth c ls H hrt hnm F hB hl => ?_) sz
  have hx := F.1.1
  have hb := F.1.2.1
  have hown := F.1.2.2.2.1
  obtain ⟨c0, hc0, tc0, qc0⟩ := VT_nn (ci := 5) (k := 0) (kd := 10) hV.1 ht (by decide) rfl (by decide +kernel)
  have h31 := c_and31 (sgI σ a 1 + x)
  have nN : sgN σ c0 = 32 := (kd_N hV.1 qc0).2
  refine lv_aload_n hx hb dX0_at_0 rfl (lv_at hl 0 rfl) ?_
  refine gr_X0_9 F hB dX0_at_1 ht hc0 ?_
  refine lv_aload_n hx hb dX0_at_4 rfl (lv_at hl 0 rfl) ?_
  refine gf_X0_15 F hB dX0_at_5 ht ?_
  refine lv_iload_n hx hb dX0_at_8 rfl (lv_at hl 1 rfl) ?_
  refine lv_iadd hx hb dX0_at_9 ?_
  refine lv_bipush (v := 31) hx hb dX0_at_10 (by decide) ?_
  refine lv_iand hx hb dX0_at_12 ?_
  refine sg_iald hx hb F.2.1 hB.1 dX0_at_13 (tc0.trans (by decide)) (by omega) (by rw [nN]; omega) (by rw [nN]; decide) ?_
  exact cl_iret F hB hrt dX0_at_14 (⟨⟨_, rfl⟩, rfl⟩)

theorem dX0_drop_0 : decode cX0_drop 0 = .ok (.iload_n 1, 1) := by decide +kernel
theorem dX0_drop_1 : decode cX0_drop 1 = .ok (.aload_n 0, 1) := by decide +kernel
theorem dX0_drop_2 : decode cX0_drop 2 = .ok (.getfield 19, 3) := by decide +kernel
theorem dX0_drop_5 : decode cX0_drop 5 = .ok (.invokestatic 25, 3) := by decide +kernel
theorem dX0_drop_8 : decode cX0_drop 8 = .ok (.istore_n 2, 1) := by decide +kernel
theorem dX0_drop_9 : decode cX0_drop 9 = .ok (.aload_n 0, 1) := by decide +kernel
theorem dX0_drop_10 : decode cX0_drop 10 = .ok (.aload_n 0, 1) := by decide +kernel
theorem dX0_drop_11 : decode cX0_drop 11 = .ok (.getfield 15, 3) := by decide +kernel
theorem dX0_drop_14 : decode cX0_drop 14 = .ok (.iload_n 2, 1) := by decide +kernel
theorem dX0_drop_15 : decode cX0_drop 15 = .ok (.iadd, 1) := by decide +kernel
theorem dX0_drop_16 : decode cX0_drop 16 = .ok (.bipush 31, 2) := by decide +kernel
theorem dX0_drop_18 : decode cX0_drop 18 = .ok (.iand, 1) := by decide +kernel
theorem dX0_drop_19 : decode cX0_drop 19 = .ok (.putfield 15, 3) := by decide +kernel
theorem dX0_drop_22 : decode cX0_drop 22 = .ok (.aload_n 0, 1) := by decide +kernel
theorem dX0_drop_23 : decode cX0_drop 23 = .ok (.dup, 1) := by decide +kernel
theorem dX0_drop_24 : decode cX0_drop 24 = .ok (.getfield 19, 3) := by decide +kernel
theorem dX0_drop_27 : decode cX0_drop 27 = .ok (.iload_n 2, 1) := by decide +kernel
theorem dX0_drop_28 : decode cX0_drop 28 = .ok (.isub, 1) := by decide +kernel
theorem dX0_drop_29 : decode cX0_drop 29 = .ok (.putfield 19, 3) := by decide +kernel
theorem dX0_drop_32 : decode cX0_drop 32 = .ok (.return_, 1) := by decide +kernel
set_option maxRecDepth 100000 in
set_option maxHeartbeats 4000000 in
theorem k_rdr (l : Launch) (D : va_G) (cy : Nat → ClassId) {ad τ : List Nat} {Y : CY} {σ : SG} (hV : VL cy ad τ Y σ)  (sz : Nat) : clM l D cy ad τ Y σ sz yX0_drop (Cond.code yX0_drop cX0_drop 3 none :: vWall) 1 13 [.ref (ya Y), .int (sgI σ (ya Y) 2)] (fun v s2 => v = none ∧ ∃ x y : Int32, sgPI (sgPI σ (ya Y) 1 x) (ya Y) 2 y = s2) := by
  refine cl_ofW (cc := cX0_drop) (maxL := 3) (ret := none) hV (by decide) rfl (Nat.le_of_ble_eq_true rfl) (lv := [(0, .ref (ya Y)), (1, .int (sgI σ (ya Y) 2))]) rfl (fun p e s m below meth c ls H hrt hnm F hB hl => ?_) sz
  have hx := F.1.1
  have hb := F.1.2.1
  have hown := F.1.2.2.2.1
  have ht := (ty_T hV).1
  have hz := ty_sz hV
  have e0 : (0 : Int32).toInt = 0 := rfl
  refine lv_iload_n hx hb dX0_drop_0 rfl (lv_at hl 1 rfl) ?_
  refine lv_aload_n hx hb dX0_drop_1 rfl (lv_at hl 0 rfl) ?_
  refine gf_X0_19 F hB dX0_drop_2 ht ?_
  refine va_mmin hx hb (F.1.2.2.1.trans hl.1.symm) hown (F.1.2.2.2.2 _ (List.mem_cons_of_mem _ (vm_0 _ (List.mem_of_getElem? (i := 12) rfl)))) (F.1.2.2.2.2 _ (List.mem_cons_of_mem _ (vm_0 _ (List.mem_of_getElem? (i := 13) rfl)))) (F.1.2.2.2.2 _ (List.mem_cons_of_mem _ (vm_0 _ (List.mem_of_getElem? (i := 14) rfl)))) (F.1.2.2.2.2 _ (List.mem_cons_of_mem _ (vm_0 _ (List.mem_of_getElem? (i := 15) rfl)))) (Nat.le_of_ble_eq_true rfl) (Nat.le_of_ble_eq_true rfl) (Nat.le_of_ble_eq_true rfl) (Nat.le_of_ble_eq_true rfl) dX0_drop_5 ?_
  refine lv_istore_n (lv' := [(2, .int _), (0, .ref _), (1, .int _)]) hx hb dX0_drop_8 rfl hl (by decide) rfl (fun ls hl => ?_)
  refine lv_aload_n hx hb dX0_drop_9 rfl (lv_at hl 1 rfl) ?_
  refine lv_aload_n hx hb dX0_drop_10 rfl (lv_at hl 1 rfl) ?_
  refine gf_X0_15 F hB dX0_drop_11 ht ?_
  refine lv_iload_n hx hb dX0_drop_14 rfl (lv_at hl 0 rfl) ?_
  refine lv_iadd hx hb dX0_drop_15 ?_
  refine lv_bipush (v := 31) hx hb dX0_drop_16 (by decide) ?_
  refine lv_iand hx hb dX0_drop_18 ?_
  refine pf_X0_15 F hB dX0_drop_19 ht (fun H locs hBn => ?_)
  clear hB; have hB := hBn; clear hBn
  refine lv_aload_n hx hb dX0_drop_22 rfl (lv_at hl 1 rfl) ?_
  refine lv_dup hx hb dX0_drop_23 rfl ?_
  refine gf_X0_19 F hB dX0_drop_24 ht ?_
  rw [c_nk (by decide)]
  refine lv_iload_n hx hb dX0_drop_27 rfl (lv_at hl 0 rfl) ?_
  refine lv_isub hx hb dX0_drop_28 ?_
  refine pf_X0_19 F hB dX0_drop_29 ht (by rw [show ∀ z : Int32, (if z < z then z else z) = z from fun z => by split <;> rfl, Int32.sub_self, e0]; decide) (fun H locs hBn => ?_)
  clear hB; have hB := hBn; clear hBn
  exact cl_vret F hB hrt dX0_drop_32 (⟨rfl, _, _, rfl⟩)

theorem dX9_send_0 : decode cX9_send 0 = .ok (.aload_n 0, 1) := by decide +kernel
theorem dX9_send_1 : decode cX9_send 1 = .ok (.iload_n 1, 1) := by decide +kernel
theorem dX9_send_2 : decode cX9_send 2 = .ok (.invokevirtual 334, 3) := by decide +kernel
theorem dX9_send_5 : decode cX9_send 5 = .ok (.astore_n 2, 1) := by decide +kernel
theorem dX9_send_6 : decode cX9_send 6 = .ok (.aload_n 2, 1) := by decide +kernel
theorem dX9_send_7 : decode cX9_send 7 = .ok (.getfield 350, 3) := by decide +kernel
theorem dX9_send_10 : decode cX9_send 10 = .ok (.astore_n 3, 1) := by decide +kernel
theorem dX9_send_11 : decode cX9_send 11 = .ok (.aload_n 3, 1) := by decide +kernel
theorem dX9_send_12 : decode cX9_send 12 = .ok (.ifnull 20, 3) := by decide +kernel
theorem dX9_send_15 : decode cX9_send 15 = .ok (.aload_n 3, 1) := by decide +kernel
theorem dX9_send_16 : decode cX9_send 16 = .ok (.getfield 144, 3) := by decide +kernel
theorem dX9_send_19 : decode cX9_send 19 = .ok (.ifCond .ne 13, 3) := by decide +kernel
theorem dX9_send_22 : decode cX9_send 22 = .ok (.aload_n 0, 1) := by decide +kernel
theorem dX9_send_23 : decode cX9_send 23 = .ok (.getfield 35, 3) := by decide +kernel
theorem dX9_send_26 : decode cX9_send 26 = .ok (.getfield 266, 3) := by decide +kernel
theorem dX9_send_29 : decode cX9_send 29 = .ok (.ifCond .ne 14, 3) := by decide +kernel
theorem dX9_send_32 : decode cX9_send 32 = .ok (.new 139, 3) := by decide +kernel
theorem dX9_send_43 : decode cX9_send 43 = .ok (.aload_n 2, 1) := by decide +kernel
theorem dX9_send_44 : decode cX9_send 44 = .ok (.getfield 356, 3) := by decide +kernel
theorem dX9_send_47 : decode cX9_send 47 = .ok (.iconst 4, 1) := by decide +kernel
theorem dX9_send_48 : decode cX9_send 48 = .ok (.if_icmp .lt 14, 3) := by decide +kernel
theorem dX9_send_51 : decode cX9_send 51 = .ok (.new 101, 3) := by decide +kernel
theorem dX9_send_62 : decode cX9_send 62 = .ok (.aload_n 2, 1) := by decide +kernel
theorem dX9_send_63 : decode cX9_send 63 = .ok (.aload_n 0, 1) := by decide +kernel
theorem dX9_send_64 : decode cX9_send 64 = .ok (.getfield 35, 3) := by decide +kernel
theorem dX9_send_67 : decode cX9_send 67 = .ok (.getfield 266, 3) := by decide +kernel
theorem dX9_send_70 : decode cX9_send 70 = .ok (.invokevirtual 361, 3) := by decide +kernel
theorem dX9_send_73 : decode cX9_send 73 = .ok (.astore 4, 2) := by decide +kernel
theorem dX9_send_75 : decode cX9_send 75 = .ok (.iconst 0, 1) := by decide +kernel
theorem dX9_send_76 : decode cX9_send 76 = .ok (.istore 5, 2) := by decide +kernel
theorem dX9_send_78 : decode cX9_send 78 = .ok (.iload 5, 2) := by decide +kernel
theorem dX9_send_80 : decode cX9_send 80 = .ok (.aload_n 0, 1) := by decide +kernel
theorem dX9_send_81 : decode cX9_send 81 = .ok (.getfield 35, 3) := by decide +kernel
theorem dX9_send_84 : decode cX9_send 84 = .ok (.getfield 266, 3) := by decide +kernel
theorem dX9_send_87 : decode cX9_send 87 = .ok (.if_icmp .ge 29, 3) := by decide +kernel
theorem dX9_send_90 : decode cX9_send 90 = .ok (.aload 4, 2) := by decide +kernel
theorem dX9_send_92 : decode cX9_send 92 = .ok (.getfield 365, 3) := by decide +kernel
theorem dX9_send_95 : decode cX9_send 95 = .ok (.iload 5, 2) := by decide +kernel
theorem dX9_send_97 : decode cX9_send 97 = .ok (.bipush 15, 2) := by decide +kernel
theorem dX9_send_99 : decode cX9_send 99 = .ok (.iand, 1) := by decide +kernel
theorem dX9_send_100 : decode cX9_send 100 = .ok (.aload_n 0, 1) := by decide +kernel
theorem dX9_send_101 : decode cX9_send 101 = .ok (.getfield 35, 3) := by decide +kernel
theorem dX9_send_104 : decode cX9_send 104 = .ok (.iload 5, 2) := by decide +kernel
theorem dX9_send_106 : decode cX9_send 106 = .ok (.invokevirtual 278, 3) := by decide +kernel
theorem dX9_send_109 : decode cX9_send 109 = .ok (.iastore, 1) := by decide +kernel
theorem dX9_send_110 : decode cX9_send 110 = .ok (.iinc 5 1, 3) := by decide +kernel
theorem dX9_send_113 : decode cX9_send 113 = .ok (.goto (-35), 3) := by decide +kernel
theorem dX9_send_116 : decode cX9_send 116 = .ok (.aload_n 0, 1) := by decide +kernel
theorem dX9_send_117 : decode cX9_send 117 = .ok (.getfield 35, 3) := by decide +kernel
theorem dX9_send_120 : decode cX9_send 120 = .ok (.aload_n 0, 1) := by decide +kernel
theorem dX9_send_121 : decode cX9_send 121 = .ok (.getfield 35, 3) := by decide +kernel
theorem dX9_send_124 : decode cX9_send 124 = .ok (.getfield 266, 3) := by decide +kernel
theorem dX9_send_127 : decode cX9_send 127 = .ok (.invokevirtual 274, 3) := by decide +kernel
theorem dX9_send_130 : decode cX9_send 130 = .ok (.aload_n 2, 1) := by decide +kernel
theorem dX9_send_131 : decode cX9_send 131 = .ok (.getfield 356, 3) := by decide +kernel
theorem dX9_send_134 : decode cX9_send 134 = .ok (.ireturn, 1) := by decide +kernel
set_option maxRecDepth 100000 in
set_option maxHeartbeats 4000000 in
theorem k_send (l : Launch) (D : va_G) (cy : Nat → ClassId) {ad τ : List Nat} {Y : CY} {σ : SG} (hst : l.stackTraces = false) (hs : vi_s1 vSG τ) (hV : VL cy ad τ Y σ) {B : Int} (hI : SI Y σ B) (x1 : Int32) (sz : Nat) : clX l D cy ad τ Y σ sz yX9_send (Cond.code yX9_send cX9_send 6 (some .int) :: vWall) 7 111 2 [.ref (yX Y), .int x1] (fun v s2 => (∃ x : Int32, v = some (.int x)) ∧ SI Y s2 B) ["java/lang/UnsupportedOperationException", "java/lang/IllegalStateException", "java/util/NoSuchElementException"] := by
  refine cl_ofX (cc := cX9_send) (maxL := 6) (ret := (some .int)) hV (by decide) rfl (Nat.le_of_ble_eq_true rfl) (lv := [(0, .ref (yX Y)), (1, .int x1)]) rfl (fun p e s m below meth c ls H hrt F hT hout hB hl => ?_) sz
  have hx := F.1.1
  have hb := F.1.2.1
  have hown := F.1.2.2.2.1
  generalize hlo : ([] : List Loc) = locs at hB ⊢
  clear hlo
  obtain ⟨LX, LD, Ld, LE, Le, LP9, Lp, Lt, LU, LA, Lz⟩ := hV.2
  have e0 : (0 : Int32).toInt = 0 := rfl
  have e1 : (1 : Int32).toInt = 1 := rfl
  have e16 : (16 : Int32).toInt = 16 := rfl
  have e12 : (12 : Int32).toInt = 12 := rfl
  have e4 : (4 : Int32).toInt = 4 := rfl
  have e8 : (8 : Int32).toInt = 8 := rfl
  refine lv_aload_n hx hb dX9_send_0 rfl (lv_at hl 0 rfl) ?_
  refine lv_iload_n hx hb dX9_send_1 rfl (lv_at hl 1 rfl) ?_
  refine cl_callXV (ci := 14) F hT hout hB vi_kept_rf (k_opP l D cy hst hB.2 _ _) (cwV 1 F.1.2.2.2.2 (vgV (vm_8 _ (List.mem_of_getElem? (i := 16) rfl)) (vm_8 _ (List.mem_of_getElem? (i := 17) rfl)) (vm_8 _ (List.mem_of_getElem? (i := 18) rfl)) (vm_4 _ (List.mem_of_getElem? (i := 20) rfl)) (vm_8 _ (List.mem_of_getElem? (i := 15) rfl))) rfl rfl rfl ⟨rfl, by decide, by decide, by decide +kernel⟩ ⟨Nat.le_of_ble_eq_true rfl, Nat.le_of_ble_eq_true rfl⟩) rfl rfl (by decide) rfl hl.1 rfl (Nat.le_of_ble_eq_true rfl) dX9_send_2 ⟨Nat.le_of_ble_eq_true rfl, Nat.le_of_ble_eq_true rfl⟩ (by decide) (Nat.le_of_ble_eq_true rfl) LX.1 (fun H locs v σ2 hB hP => ?_)
  obtain ⟨⟨j2, hj2, rfl, d2, hd2⟩, rfl⟩ := hP
  obtain ⟨e2, he2, -⟩ := siP_e hI.2.1 hj2 hd2
  have tp := (Lp _ hj2).1
  have te := pi_en hV hj2 he2
  refine lv_astore_n (lv' := [(2, .ref _), (0, .ref _), (1, .int _)]) hx hb dX9_send_5 rfl hl (by decide) rfl (fun ls hl => ?_)
  refine lv_aload_n hx hb dX9_send_6 rfl (lv_at hl 0 rfl) ?_
  refine gr_X9_350 F hB dX9_send_7 tp he2 ?_
  refine lv_astore_n (lv' := [(3, .ref _), (2, .ref _), (0, .ref _), (1, .int _)]) hx hb dX9_send_10 rfl hl (by decide) rfl (fun ls hl => ?_)
  refine lv_aload_n hx hb dX9_send_11 rfl (lv_at hl 0 rfl) ?_
  refine lv_ifnull hx hb dX9_send_12 ?_
  refine lv_aload_n hx hb dX9_send_15 rfl (lv_at hl 0 rfl) ?_
  refine gf_X9_144 F hB dX9_send_16 te ?_
  refine lv_if_ne (tgt := 32) hx hb dX9_send_19 (by decide) (fun c19 => ?_) (fun c19 => ?_)
  · exact cl_thr (NC := 2) (vi_throwSW (WS := _ :: vWall) (text := "it goes into the host, or nothing is typed") (ik := 139) (is := 354) (ic := 143) (X := "java/lang/UnsupportedOperationException") F.1.1 F.1.2.1 hst F.1.2.2.2.2 F.1.2.2.2.1 (by decide) (by decide) hT (by decide) (List.mem_cons_of_mem _ (vm_4 _ (List.mem_of_getElem? (i := 27) rfl))) (List.mem_cons_of_mem _ (vm_4 _ (List.mem_of_getElem? (i := 28) rfl))) (fun w h => List.mem_cons_of_mem _ (vmx_1 w h)) (by decide +kernel) (by decide +kernel) (by decide) F.1.2.2.1 (by decide +kernel) (by decide +kernel) (by decide +kernel) (by decide +kernel) (by decide +kernel) hout F.2.2.2 (Nat.le_of_ble_eq_true rfl) (Nat.le_of_ble_eq_true rfl) ⟨Nat.le_refl _, Nat.le_refl _⟩ (Nat.le_refl _) (fun _ h => h)) hB vi_kept_rf (Nat.le_of_ble_eq_true rfl) (by decide) hl.1
  · refine lv_aload_n hx hb dX9_send_22 rfl (lv_at hl 2 rfl) ?_
    refine gr_X9_35 F hB dX9_send_23 LX.1 LX.2.2.2.2.1 ?_
    refine gf_X9_266 F hB dX9_send_26 (ty_T hV).1 ?_
    refine lv_if_ne (tgt := 43) hx hb dX9_send_29 (by decide) (fun c29 => ?_) (fun c29 => ?_)
    · refine lv_aload_n hx hb dX9_send_43 rfl (lv_at hl 1 rfl) ?_
      refine gf_X9_356 F hB dX9_send_44 tp ?_
      refine lv_iconst (v := 4) hx hb dX9_send_47 (by decide) ?_
      refine lv_icmp_lt (tgt := 62) hx hb dX9_send_48 (by decide) (fun c48 => ?_) (fun c48 => ?_)
      · refine lv_aload_n hx hb dX9_send_62 rfl (lv_at hl 1 rfl) ?_
        refine lv_aload_n hx hb dX9_send_63 rfl (lv_at hl 2 rfl) ?_
        refine gr_X9_35 F hB dX9_send_64 LX.1 LX.2.2.2.2.1 ?_
        refine gf_X9_266 F hB dX9_send_67 (ty_T hV).1 ?_
        refine cl_callN (ci := 10) F hB (k_addT l D cy hB.2 hj2 _ (by have := i_lt c48; omega) _) ⟨va_cnB 1 F.1.2.2.2.2 (vgN (vm_2 _ (List.mem_of_getElem? (i := 27) rfl))) rfl rfl rfl (F.2.2.1.1 _ nf_146) (F.1.2.2.2.2 _ (List.mem_cons_of_mem _ (vm_2 _ (List.mem_of_getElem? (i := 22) rfl)))) ⟨by decide, by decide, by decide +kernel⟩ ⟨Nat.le_of_ble_eq_true rfl, Nat.le_of_ble_eq_true rfl⟩, F.1.2.2.2.2 _ (List.mem_cons_of_mem _ (vm_8 _ (List.mem_of_getElem? (i := 22) rfl))), F.1.2.2.2.2 _ (List.mem_cons_of_mem _ (vm_8 _ (List.mem_of_getElem? (i := 23) rfl)))⟩ rfl rfl (by decide) rfl hl.1 rfl (Nat.le_of_ble_eq_true rfl) dX9_send_70 ⟨Nat.le_of_ble_eq_true rfl, Nat.le_of_ble_eq_true rfl⟩ tp (fun H locs v σ70 hB hP => ?_)
        obtain ⟨rfl, rfl⟩ := hP
        refine lv_astore (lv' := [(4, .ref _), (3, .ref _), (2, .ref _), (0, .ref _), (1, .int _)]) hx hb dX9_send_73 hl (by decide) rfl (fun ls hl => ?_)
        refine lv_iconst (v := 0) hx hb dX9_send_75 (by decide) ?_
        refine lv_istore (lv' := [(5, .int _), (4, .ref _), (3, .ref _), (2, .ref _), (0, .ref _), (1, .int _)]) hx hb dX9_send_76 hl (by decide) rfl (fun ls hl => ?_)
        have key78 : ∃ (i5 : Int32) (σ3 : SG), clB D cy ad τ Y s σ3 H locs ∧ lv_has ls 6 [(5, .int i5), (4, .ref (yt Y j2 ((sgI σ (yp Y j2) 12 + sgI σ (yp Y j2) 13) &&& 3).toInt.toNat)), (3, .ref e2), (2, .ref (yp Y j2)), (1, .int x1), (0, .ref (yX Y))] ∧ (0 ≤ i5.toInt ∧ i5.toInt ≤ 16) ∧ SI Y σ3 B := ⟨_, _, hB, (lv_sub hl [0, 1, 2, 3, 5, 4] rfl), ⟨by decide, by decide⟩, SI_add hV hI hj2 he2 (fun _ => ty_sz hV) (by have := i_lt c48; omega) rfl⟩
        clear hB hl
        obtain ⟨i5, σ3, hB, hl, hi5, hI3⟩ := key78
        obtain ⟨d78, hd78⟩ : ∃ d : Nat, d = 20 - i5.toInt.toNat := ⟨_, rfl⟩
        induction d78 using Nat.strongRecOn generalizing H locs ls i5 σ3
        rename_i d78 ih78
        have hV3 := hB.2
        obtain ⟨LX3, LD3, Ld3, LE3, Le3, LP93, Lp3, Lt3, LU3, LA3, Lz3⟩ := hV3.2
        have sz3 := ty_sz hV3
        have tT : sgT σ3 (yt Y j2 ((sgI σ (yp Y j2) 12 + sgI σ (yp Y j2) 13) &&& 3).toInt.toNat) = 13 := ((Lt3 _ hj2).2.2 _ (by have := c_and3 (sgI σ (yp Y j2) 12 + sgI σ (yp Y j2) 13); omega)).2
        obtain ⟨c0, hc0, tc0, qc0⟩ := VT_nn (ci := 12) (k := 0) (kd := 11) hV3.1 tT (by decide) rfl (by decide +kernel)
        have nN : sgN σ3 c0 = 16 := (kd_N hV3.1 qc0).2
        have h15 := c_and15 i5
        refine lv_iload hx hb dX9_send_78 (lv_at hl 0 rfl) ?_
        refine lv_aload_n hx hb dX9_send_80 rfl (lv_at hl 5 rfl) ?_
        refine gr_X9_35 F hB dX9_send_81 LX3.1 LX3.2.2.2.2.1 ?_
        refine gf_X9_266 F hB dX9_send_84 (ty_T hV3).1 ?_
        refine lv_icmp_ge (tgt := 116) hx hb dX9_send_87 (by decide) (fun c87 => ?_) (fun c87 => ?_)
        · refine lv_aload_n hx hb dX9_send_116 rfl (lv_at hl 5 rfl) ?_
          refine gr_X9_35 F hB dX9_send_117 LX3.1 LX3.2.2.2.2.1 ?_
          refine lv_aload_n hx hb dX9_send_120 rfl (lv_at hl 5 rfl) ?_
          refine gr_X9_35 F hB dX9_send_121 LX3.1 LX3.2.2.2.2.1 ?_
          refine gf_X9_266 F hB dX9_send_124 (ty_T hV3).1 ?_
          refine cl_callN (ci := 5) F hB (k_rdr l D cy hB.2  _) ⟨va_cnB 1 F.1.2.2.2.2 (vgN (vm_0 _ (List.mem_of_getElem? (i := 11) rfl))) rfl rfl rfl (F.2.2.1.1 _ nf_124) (F.1.2.2.2.2 _ (List.mem_cons_of_mem _ (vm_0 _ (List.mem_of_getElem? (i := 23) rfl)))) ⟨by decide, by decide, by decide +kernel⟩ ⟨Nat.le_of_ble_eq_true rfl, Nat.le_of_ble_eq_true rfl⟩, F.1.2.2.2.2 _ (List.mem_cons_of_mem _ (vm_1 _ (List.mem_of_getElem? (i := 17) rfl))), F.1.2.2.2.2 _ (List.mem_cons_of_mem _ (vm_1 _ (List.mem_of_getElem? (i := 18) rfl)))⟩ rfl rfl (by decide) rfl hl.1 rfl (Nat.le_of_ble_eq_true rfl) dX9_send_127 ⟨Nat.le_of_ble_eq_true rfl, Nat.le_of_ble_eq_true rfl⟩ (ty_T hV3).1 (fun H locs v σ127 hB hP => ?_)
          obtain ⟨rfl, x127, y127, hE127⟩ := hP
          have hV8 : VL cy ad τ Y (sgPI σ3 (ya Y) 1 x127) := ⟨VT_PI (t := 0) hV3.1 (ty_T hV3).1 (by decide) rfl (by decide) (cl_rg (lo := -2147483648) (hi := 2147483647) (by decide +kernel) (cl_full _)), LY_PI hV3.2 (Or.inl (by decide))⟩
          have hI127 := SI_PI (k := 2) (x := y127) hV8 (SI_PI (k := 1) (x := x127) hV3 hI3 (t := 6) (ty_T hV3).1 rfl (by decide)) (t := 6) (ty_T hV3).1 rfl (by decide)
          rw [hE127] at hI127
          refine lv_aload_n hx hb dX9_send_130 rfl (lv_at hl 3 rfl) ?_
          refine gf_X9_356 F hB dX9_send_131 (hB.2.2.2.2.2.2.2.2.1 _ hj2).1 ?_
          exact cl_iretX (Nat.le_of_ble_eq_true rfl) F hB hrt dX9_send_134 (⟨⟨_, rfl⟩, hI127⟩)
        · refine lv_aload hx hb dX9_send_90 (lv_at hl 1 rfl) ?_
          have h87 := i_nle c87
          refine gr_X9_365 F hB dX9_send_92 tT hc0 ?_
          refine lv_iload hx hb dX9_send_95 (lv_at hl 0 rfl) ?_
          refine lv_bipush (v := 15) hx hb dX9_send_97 (by decide) ?_
          refine lv_iand hx hb dX9_send_99 ?_
          refine lv_aload_n hx hb dX9_send_100 rfl (lv_at hl 5 rfl) ?_
          refine gr_X9_35 F hB dX9_send_101 LX3.1 LX3.2.2.2.2.1 ?_
          refine lv_iload hx hb dX9_send_104 (lv_at hl 0 rfl) ?_
          refine cl_callN (ci := 5) F hB (k_at l D cy hB.2 (ty_T hV3).1 _ _) ⟨va_cnB 1 F.1.2.2.2.2 (vgN (vm_0 _ (List.mem_of_getElem? (i := 10) rfl))) rfl rfl rfl (F.2.2.1.1 _ nf_125) (F.1.2.2.2.2 _ (List.mem_cons_of_mem _ (vm_0 _ (List.mem_of_getElem? (i := 23) rfl)))) ⟨by decide, by decide, by decide +kernel⟩ ⟨Nat.le_of_ble_eq_true rfl, Nat.le_of_ble_eq_true rfl⟩, F.1.2.2.2.2 _ (List.mem_cons_of_mem _ (vm_7 _ (List.mem_of_getElem? (i := 32) rfl))), F.1.2.2.2.2 _ (List.mem_cons_of_mem _ (vm_7 _ (List.mem_of_getElem? (i := 33) rfl)))⟩ rfl rfl (by decide) rfl hl.1 rfl (Nat.le_of_ble_eq_true rfl) dX9_send_106 ⟨Nat.le_of_ble_eq_true rfl, Nat.le_of_ble_eq_true rfl⟩ (ty_T hV3).1 (fun H locs v σ106 hB hP => ?_)
          obtain ⟨⟨b106, rfl⟩, rfl⟩ := hP
          refine cl_iast F hB dX9_send_109 (tc0.trans (by decide)) (by omega) (by rw [nN]; omega) (by rw [nN]; decide) (fun H locs hBn => ?_)
          clear hB; have hB := hBn; clear hBn
          refine lv_iinc (lv' := [(5, .int _), (4, .ref _), (3, .ref _), (2, .ref _), (1, .int _), (0, .ref _)]) hx hb dX9_send_110 hl (k := 0) rfl rfl (by decide) rfl (fun ls hl => ?_)
          refine lv_goto (tgt := 78) hx hb dX9_send_113 (by decide) ?_
          have q9 := cl_add1 (x := i5) (by omega) (by omega)
          exact ih78 _ (by subst hd78; rw [q9]; omega) _ _ _ _ _ hB (lv_sub hl [0, 1, 2, 3, 4, 5] rfl) ⟨by rw [q9]; omega, by rw [q9]; omega⟩ (si_of hB.2 (SI_arr hV3 hI3 qc0 (by decide) (by decide) (by decide))) rfl
      · exact cl_thr (NC := 2) (vi_throwSW (WS := _ :: vWall) (text := "4 transfers wait") (ik := 101) (is := 359) (ic := 105) (X := "java/lang/IllegalStateException") F.1.1 F.1.2.1 hst F.1.2.2.2.2 F.1.2.2.2.1 (by decide) (by decide) hT (by decide) (List.mem_cons_of_mem _ (vm_4 _ (List.mem_of_getElem? (i := 16) rfl))) (List.mem_cons_of_mem _ (vm_4 _ (List.mem_of_getElem? (i := 17) rfl))) (fun w h => List.mem_cons_of_mem _ (vmx_3 w h)) (by decide +kernel) (by decide +kernel) (by decide) F.1.2.2.1 (by decide +kernel) (by decide +kernel) (by decide +kernel) (by decide +kernel) (by decide +kernel) hout F.2.2.2 (Nat.le_of_ble_eq_true rfl) (Nat.le_of_ble_eq_true rfl) ⟨Nat.le_refl _, Nat.le_refl _⟩ (Nat.le_refl _) (fun _ h => h)) hB vi_kept_rf (Nat.le_of_ble_eq_true rfl) (by decide) hl.1
    · exact cl_thr (NC := 2) (vi_throwSW (WS := _ :: vWall) (text := "it goes into the host, or nothing is typed") (ik := 139) (is := 354) (ic := 143) (X := "java/lang/UnsupportedOperationException") F.1.1 F.1.2.1 hst F.1.2.2.2.2 F.1.2.2.2.1 (by decide) (by decide) hT (by decide) (List.mem_cons_of_mem _ (vm_4 _ (List.mem_of_getElem? (i := 27) rfl))) (List.mem_cons_of_mem _ (vm_4 _ (List.mem_of_getElem? (i := 28) rfl))) (fun w h => List.mem_cons_of_mem _ (vmx_1 w h)) (by decide +kernel) (by decide +kernel) (by decide) F.1.2.2.1 (by decide +kernel) (by decide +kernel) (by decide +kernel) (by decide +kernel) (by decide +kernel) hout F.2.2.2 (Nat.le_of_ble_eq_true rfl) (Nat.le_of_ble_eq_true rfl) ⟨Nat.le_refl _, Nat.le_refl _⟩ (Nat.le_refl _) (fun _ h => h)) hB vi_kept_rf (Nat.le_of_ble_eq_true rfl) (by decide) hl.1
end CLK12
