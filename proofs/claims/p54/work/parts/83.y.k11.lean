section CLK11
theorem dX9_isWithin_0 : decode cX9_isWithin 0 = .ok (.iload_n 0, 1) := by decide +kernel
theorem dX9_isWithin_1 : decode cX9_isWithin 1 = .ok (.iload_n 1, 1) := by decide +kernel
theorem dX9_isWithin_2 : decode cX9_isWithin 2 = .ok (.if_icmp .lt 12, 3) := by decide +kernel
theorem dX9_isWithin_5 : decode cX9_isWithin 5 = .ok (.iload_n 0, 1) := by decide +kernel
theorem dX9_isWithin_6 : decode cX9_isWithin 6 = .ok (.iload_n 2, 1) := by decide +kernel
theorem dX9_isWithin_7 : decode cX9_isWithin 7 = .ok (.if_icmp .gt 7, 3) := by decide +kernel
theorem dX9_isWithin_10 : decode cX9_isWithin 10 = .ok (.iconst 1, 1) := by decide +kernel
theorem dX9_isWithin_11 : decode cX9_isWithin 11 = .ok (.goto 4, 3) := by decide +kernel
theorem dX9_isWithin_14 : decode cX9_isWithin 14 = .ok (.iconst 0, 1) := by decide +kernel
theorem dX9_isWithin_15 : decode cX9_isWithin 15 = .ok (.ireturn, 1) := by decide +kernel
set_option maxRecDepth 100000 in
set_option maxHeartbeats 4000000 in
theorem k_within (l : Launch) (D : va_G) (cy : Nat → ClassId) {ad τ : List Nat} {Y : CY} {σ : SG} (hV : VL cy ad τ Y σ) (x lo hi : Int32) (sz : Nat) : clM l D cy ad τ Y σ sz yX9_isWithin (Cond.code yX9_isWithin cX9_isWithin 3 (some .boolean) :: vWall) 0 0 [.int x, .int lo, .int hi] (fun v s2 => (∃ b : Int32, v = some (.int b) ∧ sgb b (lo.toInt ≤ x.toInt ∧ x.toInt ≤ hi.toInt)) ∧ σ = s2) := by
  refine cl_ofW (cc := cX9_isWithin) (maxL := 3) (ret := (some .boolean)) hV (by decide) rfl (Nat.le_of_ble_eq_true rfl) (lv := [(0, .int x), (1, .int lo), (2, .int hi)]) rfl (fun p e s m below meth c ls H hrt hnm F hB hl => ?_) sz
  have hx := F.1.1
  have hb := F.1.2.1
  have hown := F.1.2.2.2.1
  refine lv_iload_n hx hb dX9_isWithin_0 rfl (lv_at hl 0 rfl) ?_
  refine lv_iload_n hx hb dX9_isWithin_1 rfl (lv_at hl 1 rfl) ?_
  refine lv_icmp_lt (tgt := 14) hx hb dX9_isWithin_2 (by decide) (fun c2 => ?_) (fun c2 => ?_)
  · refine lv_iconst (v := 0) hx hb dX9_isWithin_14 (by decide) ?_
    exact cl_zret F hB hrt dX9_isWithin_15 rfl (by first | exact ⟨⟨_, rfl, sgb_1 ⟨i_nlt c2, i_nlt c7⟩⟩, rfl⟩ | exact ⟨⟨_, rfl, sgb_0 (fun z => by have := i_lt c2; omega)⟩, rfl⟩ | exact ⟨⟨_, rfl, sgb_0 (fun z => by have := i_lt c7; omega)⟩, rfl⟩ | fail "no road")
  · refine lv_iload_n hx hb dX9_isWithin_5 rfl (lv_at hl 0 rfl) ?_
    refine lv_iload_n hx hb dX9_isWithin_6 rfl (lv_at hl 2 rfl) ?_
    refine lv_icmp_gt (tgt := 14) hx hb dX9_isWithin_7 (by decide) (fun c7 => ?_) (fun c7 => ?_)
    · refine lv_iconst (v := 0) hx hb dX9_isWithin_14 (by decide) ?_
      exact cl_zret F hB hrt dX9_isWithin_15 rfl (by first | exact ⟨⟨_, rfl, sgb_1 ⟨i_nlt c2, i_nlt c7⟩⟩, rfl⟩ | exact ⟨⟨_, rfl, sgb_0 (fun z => by have := i_lt c2; omega)⟩, rfl⟩ | exact ⟨⟨_, rfl, sgb_0 (fun z => by have := i_lt c7; omega)⟩, rfl⟩ | fail "no road")
    · refine lv_iconst (v := 1) hx hb dX9_isWithin_10 (by decide) ?_
      refine lv_goto (tgt := 15) hx hb dX9_isWithin_11 (by decide) ?_
      exact cl_zret F hB hrt dX9_isWithin_15 rfl (by first | exact ⟨⟨_, rfl, sgb_1 ⟨i_nlt c2, i_nlt c7⟩⟩, rfl⟩ | exact ⟨⟨_, rfl, sgb_0 (fun z => by have := i_lt c2; omega)⟩, rfl⟩ | exact ⟨⟨_, rfl, sgb_0 (fun z => by have := i_lt c7; omega)⟩, rfl⟩ | fail "no road")

theorem dX9_isSpeed_0 : decode cX9_isSpeed 0 = .ok (.iload_n 0, 1) := by decide +kernel
theorem dX9_isSpeed_1 : decode cX9_isSpeed 1 = .ok (.bipush 108, 2) := by decide +kernel
theorem dX9_isSpeed_3 : decode cX9_isSpeed 3 = .ok (.if_icmp .eq 15, 3) := by decide +kernel
theorem dX9_isSpeed_6 : decode cX9_isSpeed 6 = .ok (.iload_n 0, 1) := by decide +kernel
theorem dX9_isSpeed_7 : decode cX9_isSpeed 7 = .ok (.bipush 102, 2) := by decide +kernel
theorem dX9_isSpeed_9 : decode cX9_isSpeed 9 = .ok (.if_icmp .eq 9, 3) := by decide +kernel
theorem dX9_isSpeed_12 : decode cX9_isSpeed 12 = .ok (.iload_n 0, 1) := by decide +kernel
theorem dX9_isSpeed_13 : decode cX9_isSpeed 13 = .ok (.bipush 104, 2) := by decide +kernel
theorem dX9_isSpeed_15 : decode cX9_isSpeed 15 = .ok (.if_icmp .ne 7, 3) := by decide +kernel
theorem dX9_isSpeed_18 : decode cX9_isSpeed 18 = .ok (.iconst 1, 1) := by decide +kernel
theorem dX9_isSpeed_19 : decode cX9_isSpeed 19 = .ok (.goto 4, 3) := by decide +kernel
theorem dX9_isSpeed_22 : decode cX9_isSpeed 22 = .ok (.iconst 0, 1) := by decide +kernel
theorem dX9_isSpeed_23 : decode cX9_isSpeed 23 = .ok (.ireturn, 1) := by decide +kernel
set_option maxRecDepth 100000 in
set_option maxHeartbeats 4000000 in
theorem k_speed (l : Launch) (D : va_G) (cy : Nat → ClassId) {ad τ : List Nat} {Y : CY} {σ : SG} (hV : VL cy ad τ Y σ) (x : Int32) (sz : Nat) : clM l D cy ad τ Y σ sz yX9_isSpeed (Cond.code yX9_isSpeed cX9_isSpeed 1 (some .boolean) :: vWall) 0 0 [.int x] (fun v s2 => (∃ b : Int32, v = some (.int b) ∧ sgF 2 b) ∧ σ = s2) := by
  refine cl_ofW (cc := cX9_isSpeed) (maxL := 1) (ret := (some .boolean)) hV (by decide) rfl (Nat.le_of_ble_eq_true rfl) (lv := [(0, .int x)]) rfl (fun p e s m below meth c ls H hrt hnm F hB hl => ?_) sz
  have hx := F.1.1
  have hb := F.1.2.1
  have hown := F.1.2.2.2.1
  refine lv_iload_n hx hb dX9_isSpeed_0 rfl (lv_at hl 0 rfl) ?_
  refine lv_bipush (v := 108) hx hb dX9_isSpeed_1 (by decide) ?_
  refine lv_icmp_eq (tgt := 18) hx hb dX9_isSpeed_3 (by decide) (fun c3 => ?_) (fun c3 => ?_)
  · refine lv_iconst (v := 1) hx hb dX9_isSpeed_18 (by decide) ?_
    refine lv_goto (tgt := 23) hx hb dX9_isSpeed_19 (by decide) ?_
    exact cl_zret F hB hrt dX9_isSpeed_23 rfl (⟨⟨_, rfl, ⟨by decide, by decide⟩⟩, rfl⟩)
  · refine lv_iload_n hx hb dX9_isSpeed_6 rfl (lv_at hl 0 rfl) ?_
    refine lv_bipush (v := 102) hx hb dX9_isSpeed_7 (by decide) ?_
    refine lv_icmp_eq (tgt := 18) hx hb dX9_isSpeed_9 (by decide) (fun c9 => ?_) (fun c9 => ?_)
    · refine lv_iconst (v := 1) hx hb dX9_isSpeed_18 (by decide) ?_
      refine lv_goto (tgt := 23) hx hb dX9_isSpeed_19 (by decide) ?_
      exact cl_zret F hB hrt dX9_isSpeed_23 rfl (⟨⟨_, rfl, ⟨by decide, by decide⟩⟩, rfl⟩)
    · refine lv_iload_n hx hb dX9_isSpeed_12 rfl (lv_at hl 0 rfl) ?_
      refine lv_bipush (v := 104) hx hb dX9_isSpeed_13 (by decide) ?_
      refine lv_icmp_ne (tgt := 22) hx hb dX9_isSpeed_15 (by decide) (fun c15 => ?_) (fun c15 => ?_)
      · refine lv_iconst (v := 0) hx hb dX9_isSpeed_22 (by decide) ?_
        exact cl_zret F hB hrt dX9_isSpeed_23 rfl (⟨⟨_, rfl, ⟨by decide, by decide⟩⟩, rfl⟩)
      · refine lv_iconst (v := 1) hx hb dX9_isSpeed_18 (by decide) ?_
        refine lv_goto (tgt := 23) hx hb dX9_isSpeed_19 (by decide) ?_
        exact cl_zret F hB hrt dX9_isSpeed_23 rfl (⟨⟨_, rfl, ⟨by decide, by decide⟩⟩, rfl⟩)

theorem dX9_isPeriodic_0 : decode cX9_isPeriodic 0 = .ok (.iload_n 0, 1) := by decide +kernel
theorem dX9_isPeriodic_1 : decode cX9_isPeriodic 1 = .ok (.bipush 105, 2) := by decide +kernel
theorem dX9_isPeriodic_3 : decode cX9_isPeriodic 3 = .ok (.if_icmp .eq 9, 3) := by decide +kernel
theorem dX9_isPeriodic_6 : decode cX9_isPeriodic 6 = .ok (.iload_n 0, 1) := by decide +kernel
theorem dX9_isPeriodic_7 : decode cX9_isPeriodic 7 = .ok (.bipush 115, 2) := by decide +kernel
theorem dX9_isPeriodic_9 : decode cX9_isPeriodic 9 = .ok (.if_icmp .ne 7, 3) := by decide +kernel
theorem dX9_isPeriodic_12 : decode cX9_isPeriodic 12 = .ok (.iconst 1, 1) := by decide +kernel
theorem dX9_isPeriodic_13 : decode cX9_isPeriodic 13 = .ok (.goto 4, 3) := by decide +kernel
theorem dX9_isPeriodic_16 : decode cX9_isPeriodic 16 = .ok (.iconst 0, 1) := by decide +kernel
theorem dX9_isPeriodic_17 : decode cX9_isPeriodic 17 = .ok (.ireturn, 1) := by decide +kernel
set_option maxRecDepth 100000 in
set_option maxHeartbeats 4000000 in
theorem k_peri (l : Launch) (D : va_G) (cy : Nat → ClassId) {ad τ : List Nat} {Y : CY} {σ : SG} (hV : VL cy ad τ Y σ) (x : Int32) (sz : Nat) : clM l D cy ad τ Y σ sz yX9_isPeriodic (Cond.code yX9_isPeriodic cX9_isPeriodic 1 (some .boolean) :: vWall) 0 0 [.int x] (fun v s2 => (∃ b : Int32, v = some (.int b) ∧ sgF 2 b) ∧ σ = s2) := by
  refine cl_ofW (cc := cX9_isPeriodic) (maxL := 1) (ret := (some .boolean)) hV (by decide) rfl (Nat.le_of_ble_eq_true rfl) (lv := [(0, .int x)]) rfl (fun p e s m below meth c ls H hrt hnm F hB hl => ?_) sz
  have hx := F.1.1
  have hb := F.1.2.1
  have hown := F.1.2.2.2.1
  refine lv_iload_n hx hb dX9_isPeriodic_0 rfl (lv_at hl 0 rfl) ?_
  refine lv_bipush (v := 105) hx hb dX9_isPeriodic_1 (by decide) ?_
  refine lv_icmp_eq (tgt := 12) hx hb dX9_isPeriodic_3 (by decide) (fun c3 => ?_) (fun c3 => ?_)
  · refine lv_iconst (v := 1) hx hb dX9_isPeriodic_12 (by decide) ?_
    refine lv_goto (tgt := 17) hx hb dX9_isPeriodic_13 (by decide) ?_
    exact cl_zret F hB hrt dX9_isPeriodic_17 rfl (⟨⟨_, rfl, ⟨by decide, by decide⟩⟩, rfl⟩)
  · refine lv_iload_n hx hb dX9_isPeriodic_6 rfl (lv_at hl 0 rfl) ?_
    refine lv_bipush (v := 115) hx hb dX9_isPeriodic_7 (by decide) ?_
    refine lv_icmp_ne (tgt := 16) hx hb dX9_isPeriodic_9 (by decide) (fun c9 => ?_) (fun c9 => ?_)
    · refine lv_iconst (v := 0) hx hb dX9_isPeriodic_16 (by decide) ?_
      exact cl_zret F hB hrt dX9_isPeriodic_17 rfl (⟨⟨_, rfl, ⟨by decide, by decide⟩⟩, rfl⟩)
    · refine lv_iconst (v := 1) hx hb dX9_isPeriodic_12 (by decide) ?_
      refine lv_goto (tgt := 17) hx hb dX9_isPeriodic_13 (by decide) ?_
      exact cl_zret F hB hrt dX9_isPeriodic_17 rfl (⟨⟨_, rfl, ⟨by decide, by decide⟩⟩, rfl⟩)

theorem dX9_isInterval_0 : decode cX9_isInterval 0 = .ok (.iload_n 0, 1) := by decide +kernel
theorem dX9_isInterval_1 : decode cX9_isInterval 1 = .ok (.iconst 1, 1) := by decide +kernel
theorem dX9_isInterval_2 : decode cX9_isInterval 2 = .ok (.if_icmp .eq 19, 3) := by decide +kernel
theorem dX9_isInterval_5 : decode cX9_isInterval 5 = .ok (.iload_n 0, 1) := by decide +kernel
theorem dX9_isInterval_6 : decode cX9_isInterval 6 = .ok (.iconst 2, 1) := by decide +kernel
theorem dX9_isInterval_7 : decode cX9_isInterval 7 = .ok (.if_icmp .eq 14, 3) := by decide +kernel
theorem dX9_isInterval_10 : decode cX9_isInterval 10 = .ok (.iload_n 0, 1) := by decide +kernel
theorem dX9_isInterval_11 : decode cX9_isInterval 11 = .ok (.iconst 4, 1) := by decide +kernel
theorem dX9_isInterval_12 : decode cX9_isInterval 12 = .ok (.if_icmp .eq 9, 3) := by decide +kernel
theorem dX9_isInterval_15 : decode cX9_isInterval 15 = .ok (.iload_n 0, 1) := by decide +kernel
theorem dX9_isInterval_16 : decode cX9_isInterval 16 = .ok (.bipush 8, 2) := by decide +kernel
theorem dX9_isInterval_18 : decode cX9_isInterval 18 = .ok (.if_icmp .ne 7, 3) := by decide +kernel
theorem dX9_isInterval_21 : decode cX9_isInterval 21 = .ok (.iconst 1, 1) := by decide +kernel
theorem dX9_isInterval_22 : decode cX9_isInterval 22 = .ok (.goto 4, 3) := by decide +kernel
theorem dX9_isInterval_25 : decode cX9_isInterval 25 = .ok (.iconst 0, 1) := by decide +kernel
theorem dX9_isInterval_26 : decode cX9_isInterval 26 = .ok (.ireturn, 1) := by decide +kernel
set_option maxRecDepth 100000 in
set_option maxHeartbeats 4000000 in
theorem k_intv (l : Launch) (D : va_G) (cy : Nat → ClassId) {ad τ : List Nat} {Y : CY} {σ : SG} (hV : VL cy ad τ Y σ) (x : Int32) (sz : Nat) : clM l D cy ad τ Y σ sz yX9_isInterval (Cond.code yX9_isInterval cX9_isInterval 1 (some .boolean) :: vWall) 0 0 [.int x] (fun v s2 => (∃ b : Int32, v = some (.int b) ∧ sgF 2 b) ∧ σ = s2) := by
  refine cl_ofW (cc := cX9_isInterval) (maxL := 1) (ret := (some .boolean)) hV (by decide) rfl (Nat.le_of_ble_eq_true rfl) (lv := [(0, .int x)]) rfl (fun p e s m below meth c ls H hrt hnm F hB hl => ?_) sz
  have hx := F.1.1
  have hb := F.1.2.1
  have hown := F.1.2.2.2.1
  refine lv_iload_n hx hb dX9_isInterval_0 rfl (lv_at hl 0 rfl) ?_
  refine lv_iconst (v := 1) hx hb dX9_isInterval_1 (by decide) ?_
  refine lv_icmp_eq (tgt := 21) hx hb dX9_isInterval_2 (by decide) (fun c2 => ?_) (fun c2 => ?_)
  · refine lv_iconst (v := 1) hx hb dX9_isInterval_21 (by decide) ?_
    refine lv_goto (tgt := 26) hx hb dX9_isInterval_22 (by decide) ?_
    exact cl_zret F hB hrt dX9_isInterval_26 rfl (⟨⟨_, rfl, ⟨by decide, by decide⟩⟩, rfl⟩)
  · refine lv_iload_n hx hb dX9_isInterval_5 rfl (lv_at hl 0 rfl) ?_
    refine lv_iconst (v := 2) hx hb dX9_isInterval_6 (by decide) ?_
    refine lv_icmp_eq (tgt := 21) hx hb dX9_isInterval_7 (by decide) (fun c7 => ?_) (fun c7 => ?_)
    · refine lv_iconst (v := 1) hx hb dX9_isInterval_21 (by decide) ?_
      refine lv_goto (tgt := 26) hx hb dX9_isInterval_22 (by decide) ?_
      exact cl_zret F hB hrt dX9_isInterval_26 rfl (⟨⟨_, rfl, ⟨by decide, by decide⟩⟩, rfl⟩)
    · refine lv_iload_n hx hb dX9_isInterval_10 rfl (lv_at hl 0 rfl) ?_
      refine lv_iconst (v := 4) hx hb dX9_isInterval_11 (by decide) ?_
      refine lv_icmp_eq (tgt := 21) hx hb dX9_isInterval_12 (by decide) (fun c12 => ?_) (fun c12 => ?_)
      · refine lv_iconst (v := 1) hx hb dX9_isInterval_21 (by decide) ?_
        refine lv_goto (tgt := 26) hx hb dX9_isInterval_22 (by decide) ?_
        exact cl_zret F hB hrt dX9_isInterval_26 rfl (⟨⟨_, rfl, ⟨by decide, by decide⟩⟩, rfl⟩)
      · refine lv_iload_n hx hb dX9_isInterval_15 rfl (lv_at hl 0 rfl) ?_
        refine lv_bipush (v := 8) hx hb dX9_isInterval_16 (by decide) ?_
        refine lv_icmp_ne (tgt := 25) hx hb dX9_isInterval_18 (by decide) (fun c18 => ?_) (fun c18 => ?_)
        · refine lv_iconst (v := 0) hx hb dX9_isInterval_25 (by decide) ?_
          exact cl_zret F hB hrt dX9_isInterval_26 rfl (⟨⟨_, rfl, ⟨by decide, by decide⟩⟩, rfl⟩)
        · refine lv_iconst (v := 1) hx hb dX9_isInterval_21 (by decide) ?_
          refine lv_goto (tgt := 26) hx hb dX9_isInterval_22 (by decide) ?_
          exact cl_zret F hB hrt dX9_isInterval_26 rfl (⟨⟨_, rfl, ⟨by decide, by decide⟩⟩, rfl⟩)

theorem dX9_lowerSpeed_0 : decode cX9_lowerSpeed 0 = .ok (.iload_n 0, 1) := by decide +kernel
theorem dX9_lowerSpeed_1 : decode cX9_lowerSpeed 1 = .ok (.bipush 108, 2) := by decide +kernel
theorem dX9_lowerSpeed_3 : decode cX9_lowerSpeed 3 = .ok (.if_icmp .eq 9, 3) := by decide +kernel
theorem dX9_lowerSpeed_6 : decode cX9_lowerSpeed 6 = .ok (.iload_n 1, 1) := by decide +kernel
theorem dX9_lowerSpeed_7 : decode cX9_lowerSpeed 7 = .ok (.bipush 108, 2) := by decide +kernel
theorem dX9_lowerSpeed_9 : decode cX9_lowerSpeed 9 = .ok (.if_icmp .ne 6, 3) := by decide +kernel
theorem dX9_lowerSpeed_12 : decode cX9_lowerSpeed 12 = .ok (.bipush 108, 2) := by decide +kernel
theorem dX9_lowerSpeed_14 : decode cX9_lowerSpeed 14 = .ok (.ireturn, 1) := by decide +kernel
theorem dX9_lowerSpeed_15 : decode cX9_lowerSpeed 15 = .ok (.iload_n 0, 1) := by decide +kernel
theorem dX9_lowerSpeed_16 : decode cX9_lowerSpeed 16 = .ok (.bipush 102, 2) := by decide +kernel
theorem dX9_lowerSpeed_18 : decode cX9_lowerSpeed 18 = .ok (.if_icmp .eq 9, 3) := by decide +kernel
theorem dX9_lowerSpeed_21 : decode cX9_lowerSpeed 21 = .ok (.iload_n 1, 1) := by decide +kernel
theorem dX9_lowerSpeed_22 : decode cX9_lowerSpeed 22 = .ok (.bipush 102, 2) := by decide +kernel
theorem dX9_lowerSpeed_24 : decode cX9_lowerSpeed 24 = .ok (.if_icmp .ne 8, 3) := by decide +kernel
theorem dX9_lowerSpeed_27 : decode cX9_lowerSpeed 27 = .ok (.bipush 102, 2) := by decide +kernel
theorem dX9_lowerSpeed_29 : decode cX9_lowerSpeed 29 = .ok (.goto 5, 3) := by decide +kernel
theorem dX9_lowerSpeed_32 : decode cX9_lowerSpeed 32 = .ok (.bipush 104, 2) := by decide +kernel
theorem dX9_lowerSpeed_34 : decode cX9_lowerSpeed 34 = .ok (.ireturn, 1) := by decide +kernel
set_option maxRecDepth 100000 in
set_option maxHeartbeats 4000000 in
theorem k_lower (l : Launch) (D : va_G) (cy : Nat → ClassId) {ad τ : List Nat} {Y : CY} {σ : SG} (hV : VL cy ad τ Y σ) (x y9 : Int32) (sz : Nat) : clM l D cy ad τ Y σ sz yX9_lowerSpeed (Cond.code yX9_lowerSpeed cX9_lowerSpeed 2 (some .char) :: vWall) 0 0 [.int x, .int y9] (fun v s2 => (∃ b : Int32, v = some (.int b) ∧ sgF 1 b) ∧ σ = s2) := by
  refine cl_ofW (cc := cX9_lowerSpeed) (maxL := 2) (ret := (some .char)) hV (by decide) rfl (Nat.le_of_ble_eq_true rfl) (lv := [(0, .int x), (1, .int y9)]) rfl (fun p e s m below meth c ls H hrt hnm F hB hl => ?_) sz
  have hx := F.1.1
  have hb := F.1.2.1
  have hown := F.1.2.2.2.1
  refine lv_iload_n hx hb dX9_lowerSpeed_0 rfl (lv_at hl 0 rfl) ?_
  refine lv_bipush (v := 108) hx hb dX9_lowerSpeed_1 (by decide) ?_
  refine lv_icmp_eq (tgt := 12) hx hb dX9_lowerSpeed_3 (by decide) (fun c3 => ?_) (fun c3 => ?_)
  · refine lv_bipush (v := 108) hx hb dX9_lowerSpeed_12 (by decide) ?_
    exact cl_zret F hB hrt dX9_lowerSpeed_14 rfl (⟨⟨_, rfl, ⟨by decide, by decide⟩⟩, rfl⟩)
  · refine lv_iload_n hx hb dX9_lowerSpeed_6 rfl (lv_at hl 1 rfl) ?_
    refine lv_bipush (v := 108) hx hb dX9_lowerSpeed_7 (by decide) ?_
    refine lv_icmp_ne (tgt := 15) hx hb dX9_lowerSpeed_9 (by decide) (fun c9 => ?_) (fun c9 => ?_)
    · refine lv_iload_n hx hb dX9_lowerSpeed_15 rfl (lv_at hl 0 rfl) ?_
      refine lv_bipush (v := 102) hx hb dX9_lowerSpeed_16 (by decide) ?_
      refine lv_icmp_eq (tgt := 27) hx hb dX9_lowerSpeed_18 (by decide) (fun c18 => ?_) (fun c18 => ?_)
      · refine lv_bipush (v := 102) hx hb dX9_lowerSpeed_27 (by decide) ?_
        refine lv_goto (tgt := 34) hx hb dX9_lowerSpeed_29 (by decide) ?_
        exact cl_zret F hB hrt dX9_lowerSpeed_34 rfl (⟨⟨_, rfl, ⟨by decide, by decide⟩⟩, rfl⟩)
      · refine lv_iload_n hx hb dX9_lowerSpeed_21 rfl (lv_at hl 1 rfl) ?_
        refine lv_bipush (v := 102) hx hb dX9_lowerSpeed_22 (by decide) ?_
        refine lv_icmp_ne (tgt := 32) hx hb dX9_lowerSpeed_24 (by decide) (fun c24 => ?_) (fun c24 => ?_)
        · refine lv_bipush (v := 104) hx hb dX9_lowerSpeed_32 (by decide) ?_
          exact cl_zret F hB hrt dX9_lowerSpeed_34 rfl (⟨⟨_, rfl, ⟨by decide, by decide⟩⟩, rfl⟩)
        · refine lv_bipush (v := 102) hx hb dX9_lowerSpeed_27 (by decide) ?_
          refine lv_goto (tgt := 34) hx hb dX9_lowerSpeed_29 (by decide) ?_
          exact cl_zret F hB hrt dX9_lowerSpeed_34 rfl (⟨⟨_, rfl, ⟨by decide, by decide⟩⟩, rfl⟩)
    · refine lv_bipush (v := 108) hx hb dX9_lowerSpeed_12 (by decide) ?_
      exact cl_zret F hB hrt dX9_lowerSpeed_14 rfl (⟨⟨_, rfl, ⟨by decide, by decide⟩⟩, rfl⟩)

theorem dX9_takesDevices_0 : decode cX9_takesDevices 0 = .ok (.aload_n 0, 1) := by decide +kernel
theorem dX9_takesDevices_1 : decode cX9_takesDevices 1 = .ok (.getfield 74, 3) := by decide +kernel
theorem dX9_takesDevices_4 : decode cX9_takesDevices 4 = .ok (.bipush 117, 2) := by decide +kernel
theorem dX9_takesDevices_6 : decode cX9_takesDevices 6 = .ok (.if_icmp .eq 25, 3) := by decide +kernel
theorem dX9_takesDevices_9 : decode cX9_takesDevices 9 = .ok (.aload_n 0, 1) := by decide +kernel
theorem dX9_takesDevices_10 : decode cX9_takesDevices 10 = .ok (.getfield 74, 3) := by decide +kernel
theorem dX9_takesDevices_13 : decode cX9_takesDevices 13 = .ok (.bipush 115, 2) := by decide +kernel
theorem dX9_takesDevices_15 : decode cX9_takesDevices 15 = .ok (.if_icmp .eq 16, 3) := by decide +kernel
theorem dX9_takesDevices_18 : decode cX9_takesDevices 18 = .ok (.aload_n 0, 1) := by decide +kernel
theorem dX9_takesDevices_19 : decode cX9_takesDevices 19 = .ok (.getfield 74, 3) := by decide +kernel
theorem dX9_takesDevices_22 : decode cX9_takesDevices 22 = .ok (.bipush 120, 2) := by decide +kernel
theorem dX9_takesDevices_24 : decode cX9_takesDevices 24 = .ok (.if_icmp .eq 7, 3) := by decide +kernel
theorem dX9_takesDevices_27 : decode cX9_takesDevices 27 = .ok (.iconst 1, 1) := by decide +kernel
theorem dX9_takesDevices_28 : decode cX9_takesDevices 28 = .ok (.goto 4, 3) := by decide +kernel
theorem dX9_takesDevices_31 : decode cX9_takesDevices 31 = .ok (.iconst 0, 1) := by decide +kernel
theorem dX9_takesDevices_32 : decode cX9_takesDevices 32 = .ok (.ireturn, 1) := by decide +kernel
set_option maxRecDepth 100000 in
set_option maxHeartbeats 4000000 in
theorem k_takes (l : Launch) (D : va_G) (cy : Nat → ClassId) {ad τ : List Nat} {Y : CY} {σ : SG} (hV : VL cy ad τ Y σ) {i : Nat} (hi : i < 16) (sz : Nat) : clM l D cy ad τ Y σ sz yX9_takesDevices (Cond.code yX9_takesDevices cX9_takesDevices 1 (some .boolean) :: vWall) 0 0 [.ref (yd Y i)] (fun v s2 => (∃ b : Int32, v = some (.int b) ∧ (¬ b = 0 → ¬ sgI σ (yd Y i) 7 = 117)) ∧ σ = s2) := by
  refine cl_ofW (cc := cX9_takesDevices) (maxL := 1) (ret := (some .boolean)) hV (by decide) rfl (Nat.le_of_ble_eq_true rfl) (lv := [(0, .ref (yd Y i))]) rfl (fun p e s m below meth c ls H hrt hnm F hB hl => ?_) sz
  have hx := F.1.1
  have hb := F.1.2.1
  have hown := F.1.2.2.2.1
  obtain ⟨LX, LD, Ld, LE, Le, LP9, Lp, Lt, LU, LA, Lz⟩ := hV.2
  refine lv_aload_n hx hb dX9_takesDevices_0 rfl (lv_at hl 0 rfl) ?_
  refine gf_X9_74 F hB dX9_takesDevices_1 (Ld _ hi).1 ?_
  refine lv_bipush (v := 117) hx hb dX9_takesDevices_4 (by decide) ?_
  refine lv_icmp_eq (tgt := 31) hx hb dX9_takesDevices_6 (by decide) (fun c6 => ?_) (fun c6 => ?_)
  · refine lv_iconst (v := 0) hx hb dX9_takesDevices_31 (by decide) ?_
    exact cl_zret F hB hrt dX9_takesDevices_32 rfl (by first | exact ⟨⟨_, rfl, fun _ => c6⟩, rfl⟩ | exact ⟨⟨_, rfl, fun z => absurd rfl z⟩, rfl⟩ | fail "no road")
  · refine lv_aload_n hx hb dX9_takesDevices_9 rfl (lv_at hl 0 rfl) ?_
    refine gf_X9_74 F hB dX9_takesDevices_10 (Ld _ hi).1 ?_
    refine lv_bipush (v := 115) hx hb dX9_takesDevices_13 (by decide) ?_
    refine lv_icmp_eq (tgt := 31) hx hb dX9_takesDevices_15 (by decide) (fun c15 => ?_) (fun c15 => ?_)
    · refine lv_iconst (v := 0) hx hb dX9_takesDevices_31 (by decide) ?_
      exact cl_zret F hB hrt dX9_takesDevices_32 rfl (by first | exact ⟨⟨_, rfl, fun _ => c6⟩, rfl⟩ | exact ⟨⟨_, rfl, fun z => absurd rfl z⟩, rfl⟩ | fail "no road")
    · refine lv_aload_n hx hb dX9_takesDevices_18 rfl (lv_at hl 0 rfl) ?_
      refine gf_X9_74 F hB dX9_takesDevices_19 (Ld _ hi).1 ?_
      refine lv_bipush (v := 120) hx hb dX9_takesDevices_22 (by decide) ?_
      refine lv_icmp_eq (tgt := 31) hx hb dX9_takesDevices_24 (by decide) (fun c24 => ?_) (fun c24 => ?_)
      · refine lv_iconst (v := 0) hx hb dX9_takesDevices_31 (by decide) ?_
        exact cl_zret F hB hrt dX9_takesDevices_32 rfl (by first | exact ⟨⟨_, rfl, fun _ => c6⟩, rfl⟩ | exact ⟨⟨_, rfl, fun z => absurd rfl z⟩, rfl⟩ | fail "no road")
      · refine lv_iconst (v := 1) hx hb dX9_takesDevices_27 (by decide) ?_
        refine lv_goto (tgt := 32) hx hb dX9_takesDevices_28 (by decide) ?_
        exact cl_zret F hB hrt dX9_takesDevices_32 rfl (by first | exact ⟨⟨_, rfl, fun _ => c6⟩, rfl⟩ | exact ⟨⟨_, rfl, fun z => absurd rfl z⟩, rfl⟩ | fail "no road")

theorem dX9_isPortTaken_0 : decode cX9_isPortTaken 0 = .ok (.iconst 0, 1) := by decide +kernel
theorem dX9_isPortTaken_1 : decode cX9_isPortTaken 1 = .ok (.istore_n 3, 1) := by decide +kernel
theorem dX9_isPortTaken_2 : decode cX9_isPortTaken 2 = .ok (.iload_n 3, 1) := by decide +kernel
theorem dX9_isPortTaken_3 : decode cX9_isPortTaken 3 = .ok (.bipush 16, 2) := by decide +kernel
theorem dX9_isPortTaken_5 : decode cX9_isPortTaken 5 = .ok (.if_icmp .ge 37, 3) := by decide +kernel
theorem dX9_isPortTaken_8 : decode cX9_isPortTaken 8 = .ok (.aload_n 0, 1) := by decide +kernel
theorem dX9_isPortTaken_9 : decode cX9_isPortTaken 9 = .ok (.getfield 11, 3) := by decide +kernel
theorem dX9_isPortTaken_12 : decode cX9_isPortTaken 12 = .ok (.iload_n 3, 1) := by decide +kernel
theorem dX9_isPortTaken_13 : decode cX9_isPortTaken 13 = .ok (.aaload, 1) := by decide +kernel
theorem dX9_isPortTaken_14 : decode cX9_isPortTaken 14 = .ok (.getfield 171, 3) := by decide +kernel
theorem dX9_isPortTaken_17 : decode cX9_isPortTaken 17 = .ok (.aload_n 1, 1) := by decide +kernel
theorem dX9_isPortTaken_18 : decode cX9_isPortTaken 18 = .ok (.if_acmp .ne 18, 3) := by decide +kernel
theorem dX9_isPortTaken_21 : decode cX9_isPortTaken 21 = .ok (.aload_n 0, 1) := by decide +kernel
theorem dX9_isPortTaken_22 : decode cX9_isPortTaken 22 = .ok (.getfield 11, 3) := by decide +kernel
theorem dX9_isPortTaken_25 : decode cX9_isPortTaken 25 = .ok (.iload_n 3, 1) := by decide +kernel
theorem dX9_isPortTaken_26 : decode cX9_isPortTaken 26 = .ok (.aaload, 1) := by decide +kernel
theorem dX9_isPortTaken_27 : decode cX9_isPortTaken 27 = .ok (.getfield 175, 3) := by decide +kernel
theorem dX9_isPortTaken_30 : decode cX9_isPortTaken 30 = .ok (.iload_n 2, 1) := by decide +kernel
theorem dX9_isPortTaken_31 : decode cX9_isPortTaken 31 = .ok (.if_icmp .ne 5, 3) := by decide +kernel
theorem dX9_isPortTaken_34 : decode cX9_isPortTaken 34 = .ok (.iconst 1, 1) := by decide +kernel
theorem dX9_isPortTaken_35 : decode cX9_isPortTaken 35 = .ok (.ireturn, 1) := by decide +kernel
theorem dX9_isPortTaken_36 : decode cX9_isPortTaken 36 = .ok (.iinc 3 1, 3) := by decide +kernel
theorem dX9_isPortTaken_39 : decode cX9_isPortTaken 39 = .ok (.goto (-37), 3) := by decide +kernel
theorem dX9_isPortTaken_42 : decode cX9_isPortTaken 42 = .ok (.iconst 0, 1) := by decide +kernel
theorem dX9_isPortTaken_43 : decode cX9_isPortTaken 43 = .ok (.ireturn, 1) := by decide +kernel
set_option maxRecDepth 100000 in
set_option maxHeartbeats 4000000 in
theorem k_ptak (l : Launch) (D : va_G) (cy : Nat → ClassId) {ad τ : List Nat} {Y : CY} {σ : SG} (hV : VL cy ad τ Y σ) {i : Nat} (hi : i < 16) (x : Int32) (sz : Nat) : clM l D cy ad τ Y σ sz yX9_isPortTaken (Cond.code yX9_isPortTaken cX9_isPortTaken 4 (some .boolean) :: vWall) 0 0 [.ref (yX Y), .ref (yd Y i), .int x] (fun v s2 => (∃ b : Int32, v = some (.int b) ∧ sgF 2 b) ∧ σ = s2) := by
  refine cl_ofW (cc := cX9_isPortTaken) (maxL := 4) (ret := (some .boolean)) hV (by decide) rfl (Nat.le_of_ble_eq_true rfl) (lv := [(0, .ref (yX Y)), (1, .ref (yd Y i)), (2, .int x)]) rfl (fun p e s m below meth c ls H hrt hnm F hB hl => ?_) sz
  have hx := F.1.1
  have hb := F.1.2.1
  have hown := F.1.2.2.2.1
  generalize hlo : ([] : List Loc) = locs at hB ⊢
  clear hlo
  obtain ⟨LX, LD, Ld, LE, Le, LP9, Lp, Lt, LU, LA, Lz⟩ := hV.2
  have e0 : (0 : Int32).toInt = 0 := rfl
  have e1 : (1 : Int32).toInt = 1 := rfl
  have e16 : (16 : Int32).toInt = 16 := rfl
  have e12 : (12 : Int32).toInt = 12 := rfl
  refine lv_iconst (v := 0) hx hb dX9_isPortTaken_0 (by decide) ?_
  refine lv_istore_n (lv' := [(3, .int _), (0, .ref _), (1, .ref _), (2, .int _)]) hx hb dX9_isPortTaken_1 rfl hl (by decide) rfl (fun ls hl => ?_)
  have key2 : ∃ i3 : Int32, clB D cy ad τ Y s σ H locs ∧ lv_has ls 4 [(3, .int i3), (2, .int x), (1, .ref (yd Y i)), (0, .ref (yX Y))] ∧ (0 ≤ i3.toInt ∧ i3.toInt ≤ 16) ∧ 0 ≤ i3.toInt := ⟨_, hB, (lv_sub hl [0, 3, 2, 1] rfl), ⟨by decide, by decide⟩, by decide⟩
  clear hB hl
  obtain ⟨i3, hB, hl, hi, hv⟩ := key2
  obtain ⟨d2, hd2⟩ : ∃ d : Nat, d = 20 - i3.toInt.toNat := ⟨_, rfl⟩
  induction d2 using Nat.strongRecOn generalizing H locs ls i3
  rename_i d2 ih2
  refine lv_iload_n hx hb dX9_isPortTaken_2 rfl (lv_at hl 0 rfl) ?_
  refine lv_bipush (v := 16) hx hb dX9_isPortTaken_3 (by decide) ?_
  refine lv_icmp_ge (tgt := 42) hx hb dX9_isPortTaken_5 (by decide) (fun c5 => ?_) (fun c5 => ?_)
  · refine lv_iconst (v := 0) hx hb dX9_isPortTaken_42 (by decide) ?_
    exact cl_zret F hB hrt dX9_isPortTaken_43 rfl (⟨⟨_, rfl, ⟨by decide, by decide⟩⟩, rfl⟩)
  · refine lv_aload_n hx hb dX9_isPortTaken_8 rfl (lv_at hl 3 rfl) ?_
    have hn := i_nle c5
    have hj : i3.toInt.toNat < 16 := by omega
    refine gr_X9_11 F hB dX9_isPortTaken_9 LX.1 LX.2.1 ?_
    refine lv_iload_n hx hb dX9_isPortTaken_12 rfl (lv_at hl 0 rfl) ?_
    refine sg_aald 4 hx hb F.2.1 hB.1 rfl rfl dX9_isPortTaken_13 LD.1 (by omega) (by rw [LD.2.1]; omega) (by rw [LD.2.1]; decide) ?_
    rw [show sgR _ _ _ = some _ from LD.2.2 _ hj]
    refine gf_X9_171 F hB dX9_isPortTaken_14 (Ld _ hj).1 ?_
    refine sg_split (fun hz14 => ?_) (fun b14 hz14 => ?_)
    · skip
      refine lv_aload_n hx hb dX9_isPortTaken_17 rfl (lv_at hl 2 rfl) ?_
      refine lv_acmp_ne (rx := none) (ry := some _) (tgt := 36) hx hb dX9_isPortTaken_18 (by decide) (fun c18 => ?_) (fun c18 => ?_)
      · refine lv_iinc (lv' := [(3, .int _), (2, .int _), (1, .ref _), (0, .ref _)]) hx hb dX9_isPortTaken_36 hl (k := 0) rfl rfl (by decide) rfl (fun ls hl => ?_)
        refine lv_goto (tgt := 2) hx hb dX9_isPortTaken_39 (by decide) ?_
        have q9 := cl_add1 (x := i3) (by omega) (by omega)
        exact ih2 _ (by subst hd2; rw [q9]; omega) _ _ _ _ hB (lv_sub hl [0, 1, 2, 3] rfl) ⟨by rw [q9]; omega, by rw [q9]; omega⟩ (by rw [q9]; omega) rfl
      · refine lv_aload_n hx hb dX9_isPortTaken_21 rfl (lv_at hl 3 rfl) ?_
        refine gr_X9_11 F hB dX9_isPortTaken_22 LX.1 LX.2.1 ?_
        refine lv_iload_n hx hb dX9_isPortTaken_25 rfl (lv_at hl 0 rfl) ?_
        refine sg_aald 4 hx hb F.2.1 hB.1 rfl rfl dX9_isPortTaken_26 LD.1 (by omega) (by rw [LD.2.1]; omega) (by rw [LD.2.1]; decide) ?_
        rw [show sgR _ _ _ = some _ from LD.2.2 _ hj]
        refine gf_X9_175 F hB dX9_isPortTaken_27 (Ld _ hj).1 ?_
        refine lv_iload_n hx hb dX9_isPortTaken_30 rfl (lv_at hl 1 rfl) ?_
        refine lv_icmp_ne (tgt := 36) hx hb dX9_isPortTaken_31 (by decide) (fun c31 => ?_) (fun c31 => ?_)
        · refine lv_iinc (lv' := [(3, .int _), (2, .int _), (1, .ref _), (0, .ref _)]) hx hb dX9_isPortTaken_36 hl (k := 0) rfl rfl (by decide) rfl (fun ls hl => ?_)
          refine lv_goto (tgt := 2) hx hb dX9_isPortTaken_39 (by decide) ?_
          have q9 := cl_add1 (x := i3) (by omega) (by omega)
          exact ih2 _ (by subst hd2; rw [q9]; omega) _ _ _ _ hB (lv_sub hl [0, 1, 2, 3] rfl) ⟨by rw [q9]; omega, by rw [q9]; omega⟩ (by rw [q9]; omega) rfl
        · refine lv_iconst (v := 1) hx hb dX9_isPortTaken_34 (by decide) ?_
          exact cl_zret F hB hrt dX9_isPortTaken_35 rfl (⟨⟨_, rfl, ⟨by decide, by decide⟩⟩, rfl⟩)
    · skip
      refine lv_aload_n hx hb dX9_isPortTaken_17 rfl (lv_at hl 2 rfl) ?_
      refine lv_acmp_ne (rx := some _) (ry := some _) (tgt := 36) hx hb dX9_isPortTaken_18 (by decide) (fun c18 => ?_) (fun c18 => ?_)
      · refine lv_iinc (lv' := [(3, .int _), (2, .int _), (1, .ref _), (0, .ref _)]) hx hb dX9_isPortTaken_36 hl (k := 0) rfl rfl (by decide) rfl (fun ls hl => ?_)
        refine lv_goto (tgt := 2) hx hb dX9_isPortTaken_39 (by decide) ?_
        have q9 := cl_add1 (x := i3) (by omega) (by omega)
        exact ih2 _ (by subst hd2; rw [q9]; omega) _ _ _ _ hB (lv_sub hl [0, 1, 2, 3] rfl) ⟨by rw [q9]; omega, by rw [q9]; omega⟩ (by rw [q9]; omega) rfl
      · refine lv_aload_n hx hb dX9_isPortTaken_21 rfl (lv_at hl 3 rfl) ?_
        refine gr_X9_11 F hB dX9_isPortTaken_22 LX.1 LX.2.1 ?_
        refine lv_iload_n hx hb dX9_isPortTaken_25 rfl (lv_at hl 0 rfl) ?_
        refine sg_aald 4 hx hb F.2.1 hB.1 rfl rfl dX9_isPortTaken_26 LD.1 (by omega) (by rw [LD.2.1]; omega) (by rw [LD.2.1]; decide) ?_
        rw [show sgR _ _ _ = some _ from LD.2.2 _ hj]
        refine gf_X9_175 F hB dX9_isPortTaken_27 (Ld _ hj).1 ?_
        refine lv_iload_n hx hb dX9_isPortTaken_30 rfl (lv_at hl 1 rfl) ?_
        refine lv_icmp_ne (tgt := 36) hx hb dX9_isPortTaken_31 (by decide) (fun c31 => ?_) (fun c31 => ?_)
        · refine lv_iinc (lv' := [(3, .int _), (2, .int _), (1, .ref _), (0, .ref _)]) hx hb dX9_isPortTaken_36 hl (k := 0) rfl rfl (by decide) rfl (fun ls hl => ?_)
          refine lv_goto (tgt := 2) hx hb dX9_isPortTaken_39 (by decide) ?_
          have q9 := cl_add1 (x := i3) (by omega) (by omega)
          exact ih2 _ (by subst hd2; rw [q9]; omega) _ _ _ _ hB (lv_sub hl [0, 1, 2, 3] rfl) ⟨by rw [q9]; omega, by rw [q9]; omega⟩ (by rw [q9]; omega) rfl
        · refine lv_iconst (v := 1) hx hb dX9_isPortTaken_34 (by decide) ?_
          exact cl_zret F hB hrt dX9_isPortTaken_35 rfl (⟨⟨_, rfl, ⟨by decide, by decide⟩⟩, rfl⟩)

theorem dX1_countEndpoints_0 : decode cX1_countEndpoints 0 = .ok (.iconst 0, 1) := by decide +kernel
theorem dX1_countEndpoints_1 : decode cX1_countEndpoints 1 = .ok (.istore_n 1, 1) := by decide +kernel
theorem dX1_countEndpoints_2 : decode cX1_countEndpoints 2 = .ok (.iconst 0, 1) := by decide +kernel
theorem dX1_countEndpoints_3 : decode cX1_countEndpoints 3 = .ok (.istore_n 2, 1) := by decide +kernel
theorem dX1_countEndpoints_4 : decode cX1_countEndpoints 4 = .ok (.iload_n 2, 1) := by decide +kernel
theorem dX1_countEndpoints_5 : decode cX1_countEndpoints 5 = .ok (.iconst 3, 1) := by decide +kernel
theorem dX1_countEndpoints_6 : decode cX1_countEndpoints 6 = .ok (.if_icmp .ge 24, 3) := by decide +kernel
theorem dX1_countEndpoints_9 : decode cX1_countEndpoints 9 = .ok (.aload_n 0, 1) := by decide +kernel
theorem dX1_countEndpoints_10 : decode cX1_countEndpoints 10 = .ok (.getfield 40, 3) := by decide +kernel
theorem dX1_countEndpoints_13 : decode cX1_countEndpoints 13 = .ok (.iload_n 2, 1) := by decide +kernel
theorem dX1_countEndpoints_14 : decode cX1_countEndpoints 14 = .ok (.aaload, 1) := by decide +kernel
theorem dX1_countEndpoints_15 : decode cX1_countEndpoints 15 = .ok (.getfield 48, 3) := by decide +kernel
theorem dX1_countEndpoints_18 : decode cX1_countEndpoints 18 = .ok (.ifCond .eq 6, 3) := by decide +kernel
theorem dX1_countEndpoints_21 : decode cX1_countEndpoints 21 = .ok (.iinc 1 1, 3) := by decide +kernel
theorem dX1_countEndpoints_24 : decode cX1_countEndpoints 24 = .ok (.iinc 2 1, 3) := by decide +kernel
theorem dX1_countEndpoints_27 : decode cX1_countEndpoints 27 = .ok (.goto (-23), 3) := by decide +kernel
theorem dX1_countEndpoints_30 : decode cX1_countEndpoints 30 = .ok (.iload_n 1, 1) := by decide +kernel
theorem dX1_countEndpoints_31 : decode cX1_countEndpoints 31 = .ok (.ireturn, 1) := by decide +kernel
set_option maxRecDepth 100000 in
set_option maxHeartbeats 4000000 in
theorem k_cntE (l : Launch) (D : va_G) (cy : Nat → ClassId) {ad τ : List Nat} {Y : CY} {σ : SG} (hV : VL cy ad τ Y σ) {i : Nat} (hi : i < 16) (sz : Nat) : clM l D cy ad τ Y σ sz yX1_countEndpoints (Cond.code yX1_countEndpoints cX1_countEndpoints 3 (some .int) :: vWall) 0 0 [.ref (yd Y i)] (fun v s2 => (∃ b : Int32, v = some (.int b)) ∧ σ = s2) := by
  refine cl_ofW (cc := cX1_countEndpoints) (maxL := 3) (ret := (some .int)) hV (by decide) rfl (Nat.le_of_ble_eq_true rfl) (lv := [(0, .ref (yd Y i))]) rfl (fun p e s m below meth c ls H hrt hnm F hB hl => ?_) sz
  have hx := F.1.1
  have hb := F.1.2.1
  have hown := F.1.2.2.2.1
  generalize hlo : ([] : List Loc) = locs at hB ⊢
  clear hlo
  obtain ⟨LX, LD, Ld, LE, Le, LP9, Lp, Lt, LU, LA, Lz⟩ := hV.2
  have e0 : (0 : Int32).toInt = 0 := rfl
  have e1 : (1 : Int32).toInt = 1 := rfl
  have e16 : (16 : Int32).toInt = 16 := rfl
  have e12 : (12 : Int32).toInt = 12 := rfl
  have e3 : (3 : Int32).toInt = 3 := rfl
  refine lv_iconst (v := 0) hx hb dX1_countEndpoints_0 (by decide) ?_
  refine lv_istore_n (lv' := [(1, .int _), (0, .ref _)]) hx hb dX1_countEndpoints_1 rfl hl (by decide) rfl (fun ls hl => ?_)
  refine lv_iconst (v := 0) hx hb dX1_countEndpoints_2 (by decide) ?_
  refine lv_istore_n (lv' := [(2, .int _), (1, .int _), (0, .ref _)]) hx hb dX1_countEndpoints_3 rfl hl (by decide) rfl (fun ls hl => ?_)
  have key4 : ∃ i2 z1 : Int32, clB D cy ad τ Y s σ H locs ∧ lv_has ls 3 [(2, .int i2), (1, .int z1), (0, .ref (yd Y i))] ∧ (0 ≤ i2.toInt ∧ i2.toInt ≤ 3) := ⟨_, _, hB, (lv_sub hl [0, 1, 2] rfl), ⟨by decide, by decide⟩⟩
  clear hB hl
  obtain ⟨i2, z1, hB, hl, hi2⟩ := key4
  obtain ⟨d4, hd4⟩ : ∃ d : Nat, d = 20 - i2.toInt.toNat := ⟨_, rfl⟩
  induction d4 using Nat.strongRecOn generalizing H locs ls i2 z1
  rename_i d4 ih4
  refine lv_iload_n hx hb dX1_countEndpoints_4 rfl (lv_at hl 0 rfl) ?_
  refine lv_iconst (v := 3) hx hb dX1_countEndpoints_5 (by decide) ?_
  refine lv_icmp_ge (tgt := 30) hx hb dX1_countEndpoints_6 (by decide) (fun c6 => ?_) (fun c6 => ?_)
  · refine lv_iload_n hx hb dX1_countEndpoints_30 rfl (lv_at hl 1 rfl) ?_
    exact cl_iret F hB hrt dX1_countEndpoints_31 (⟨⟨_, rfl⟩, rfl⟩)
  · refine lv_aload_n hx hb dX1_countEndpoints_9 rfl (lv_at hl 2 rfl) ?_
    have hn := i_nle c6
    have hj : i2.toInt.toNat < 3 := by omega
    refine gr_X1_40 F hB dX1_countEndpoints_10 (Ld _ hi).1 (Ld _ hi).2.2 ?_
    refine lv_iload_n hx hb dX1_countEndpoints_13 rfl (lv_at hl 0 rfl) ?_
    refine sg_aald 5 hx hb F.2.1 hB.1 rfl rfl dX1_countEndpoints_14 (LE _ hi).1 (by omega) (by rw [(LE _ hi).2.1]; omega) (by rw [(LE _ hi).2.1]; decide) ?_
    rw [show sgR _ _ _ = some _ from (LE _ hi).2.2 _ hj]
    refine gf_X1_48 F hB dX1_countEndpoints_15 (Le _ _ hi hj).1 ?_
    refine lv_if_eq (tgt := 24) hx hb dX1_countEndpoints_18 (by decide) (fun c18 => ?_) (fun c18 => ?_)
    · refine lv_iinc (lv' := [(2, .int _), (1, .int _), (0, .ref _)]) hx hb dX1_countEndpoints_24 hl (k := 0) rfl rfl (by decide) rfl (fun ls hl => ?_)
      refine lv_goto (tgt := 4) hx hb dX1_countEndpoints_27 (by decide) ?_
      have q9 := cl_add1 (x := i2) (by omega) (by omega)
      exact ih4 _ (by subst hd4; rw [q9]; omega) _ _ _ _ _ hB (lv_sub hl [0, 1, 2] rfl) ⟨by rw [q9]; omega, by rw [q9]; omega⟩ rfl
    · refine lv_iinc (lv' := [(1, .int _), (2, .int _), (0, .ref _)]) hx hb dX1_countEndpoints_21 hl (k := 1) rfl rfl (by decide) rfl (fun ls hl => ?_)
      refine lv_iinc (lv' := [(2, .int _), (1, .int _), (0, .ref _)]) hx hb dX1_countEndpoints_24 hl (k := 1) rfl rfl (by decide) rfl (fun ls hl => ?_)
      refine lv_goto (tgt := 4) hx hb dX1_countEndpoints_27 (by decide) ?_
      have q9 := cl_add1 (x := i2) (by omega) (by omega)
      exact ih4 _ (by subst hd4; rw [q9]; omega) _ _ _ _ _ hB (lv_sub hl [0, 1, 2] rfl) ⟨by rw [q9]; omega, by rw [q9]; omega⟩ rfl

theorem dX9_deviceAt_0 : decode cX9_deviceAt 0 = .ok (.iload_n 1, 1) := by decide +kernel
theorem dX9_deviceAt_1 : decode cX9_deviceAt 1 = .ok (.ifCond .lt 17, 3) := by decide +kernel
theorem dX9_deviceAt_4 : decode cX9_deviceAt 4 = .ok (.iload_n 1, 1) := by decide +kernel
theorem dX9_deviceAt_5 : decode cX9_deviceAt 5 = .ok (.aload_n 0, 1) := by decide +kernel
theorem dX9_deviceAt_6 : decode cX9_deviceAt 6 = .ok (.getfield 81, 3) := by decide +kernel
theorem dX9_deviceAt_9 : decode cX9_deviceAt 9 = .ok (.if_icmp .ge 9, 3) := by decide +kernel
theorem dX9_deviceAt_12 : decode cX9_deviceAt 12 = .ok (.iload_n 1, 1) := by decide +kernel
theorem dX9_deviceAt_13 : decode cX9_deviceAt 13 = .ok (.bipush 16, 2) := by decide +kernel
theorem dX9_deviceAt_15 : decode cX9_deviceAt 15 = .ok (.if_icmp .lt 14, 3) := by decide +kernel
theorem dX9_deviceAt_18 : decode cX9_deviceAt 18 = .ok (.new 154, 3) := by decide +kernel
theorem dX9_deviceAt_29 : decode cX9_deviceAt 29 = .ok (.aload_n 0, 1) := by decide +kernel
theorem dX9_deviceAt_30 : decode cX9_deviceAt 30 = .ok (.getfield 11, 3) := by decide +kernel
theorem dX9_deviceAt_33 : decode cX9_deviceAt 33 = .ok (.iload_n 1, 1) := by decide +kernel
theorem dX9_deviceAt_34 : decode cX9_deviceAt 34 = .ok (.aaload, 1) := by decide +kernel
theorem dX9_deviceAt_35 : decode cX9_deviceAt 35 = .ok (.areturn, 1) := by decide +kernel
set_option maxRecDepth 100000 in
set_option maxHeartbeats 4000000 in
theorem k_devAt (l : Launch) (D : va_G) (cy : Nat → ClassId) {ad τ : List Nat} {Y : CY} {σ : SG} (hst : l.stackTraces = false) (hV : VL cy ad τ Y σ) (x : Int32) (sz : Nat) : clX l D cy ad τ Y σ sz yX9_deviceAt (Cond.code yX9_deviceAt cX9_deviceAt 2 (some (.object "Hubcascade$Device")) :: vWall) 6 90 1 [.ref (yX Y), .int x] (fun v s2 => (∃ i : Nat, i < 16 ∧ (i : Int) = x.toInt ∧ x.toInt < (sgI σ (yX Y) 1).toInt ∧ v = some (.ref (yd Y i))) ∧ σ = s2) ["java/lang/IndexOutOfBoundsException"] := by
  refine cl_ofX (cc := cX9_deviceAt) (maxL := 2) (ret := (some (.object "Hubcascade$Device"))) hV (by decide) rfl (Nat.le_of_ble_eq_true rfl) (lv := [(0, .ref (yX Y)), (1, .int x)]) rfl (fun p e s m below meth c ls H hrt F hT hout hB hl => ?_) sz
  have hx := F.1.1
  have hb := F.1.2.1
  have hown := F.1.2.2.2.1
  generalize hlo : ([] : List Loc) = locs at hB ⊢
  clear hlo
  obtain ⟨LX, LD, Ld, LE, Le, LP9, Lp, Lt, LU, LA, Lz⟩ := hV.2
  have e0 : (0 : Int32).toInt = 0 := rfl
  have e1 : (1 : Int32).toInt = 1 := rfl
  have e16 : (16 : Int32).toInt = 16 := rfl
  have e12 : (12 : Int32).toInt = 12 := rfl
  refine lv_iload_n hx hb dX9_deviceAt_0 rfl (lv_at hl 1 rfl) ?_
  refine lv_if_lt (tgt := 18) hx hb dX9_deviceAt_1 (by decide) (fun c1 => ?_) (fun c1 => ?_)
  · exact cl_thr (NC := 1) (vi_throwSW (WS := _ :: vWall) (text := "no such device") (ik := 154) (is := 528) (ic := 158) (X := "java/lang/IndexOutOfBoundsException") F.1.1 F.1.2.1 hst F.1.2.2.2.2 F.1.2.2.2.1 (by decide) (by decide) hT (by decide) (List.mem_cons_of_mem _ (vm_4 _ (List.mem_of_getElem? (i := 24) rfl))) (List.mem_cons_of_mem _ (vm_4 _ (List.mem_of_getElem? (i := 25) rfl))) (fun w h => List.mem_cons_of_mem _ (vmx_0 w h)) (by decide +kernel) (by decide +kernel) (by decide) F.1.2.2.1 (by decide +kernel) (by decide +kernel) (by decide +kernel) (by decide +kernel) (by decide +kernel) hout F.2.2.2 (Nat.le_of_ble_eq_true rfl) (Nat.le_of_ble_eq_true rfl) ⟨Nat.le_refl _, Nat.le_refl _⟩ (Nat.le_refl _) (fun _ h => h)) hB vi_kept_rf (Nat.le_of_ble_eq_true rfl) (by decide) hl.1
  · refine lv_iload_n hx hb dX9_deviceAt_4 rfl (lv_at hl 1 rfl) ?_
    refine lv_aload_n hx hb dX9_deviceAt_5 rfl (lv_at hl 0 rfl) ?_
    refine gf_X9_81 F hB dX9_deviceAt_6 LX.1 ?_
    refine lv_icmp_ge (tgt := 18) hx hb dX9_deviceAt_9 (by decide) (fun c9 => ?_) (fun c9 => ?_)
    · exact cl_thr (NC := 1) (vi_throwSW (WS := _ :: vWall) (text := "no such device") (ik := 154) (is := 528) (ic := 158) (X := "java/lang/IndexOutOfBoundsException") F.1.1 F.1.2.1 hst F.1.2.2.2.2 F.1.2.2.2.1 (by decide) (by decide) hT (by decide) (List.mem_cons_of_mem _ (vm_4 _ (List.mem_of_getElem? (i := 24) rfl))) (List.mem_cons_of_mem _ (vm_4 _ (List.mem_of_getElem? (i := 25) rfl))) (fun w h => List.mem_cons_of_mem _ (vmx_0 w h)) (by decide +kernel) (by decide +kernel) (by decide) F.1.2.2.1 (by decide +kernel) (by decide +kernel) (by decide +kernel) (by decide +kernel) (by decide +kernel) hout F.2.2.2 (Nat.le_of_ble_eq_true rfl) (Nat.le_of_ble_eq_true rfl) ⟨Nat.le_refl _, Nat.le_refl _⟩ (Nat.le_refl _) (fun _ h => h)) hB vi_kept_rf (Nat.le_of_ble_eq_true rfl) (by decide) hl.1
    · refine lv_iload_n hx hb dX9_deviceAt_12 rfl (lv_at hl 1 rfl) ?_
      refine lv_bipush (v := 16) hx hb dX9_deviceAt_13 (by decide) ?_
      refine lv_icmp_lt (tgt := 29) hx hb dX9_deviceAt_15 (by decide) (fun c15 => ?_) (fun c15 => ?_)
      · refine lv_aload_n hx hb dX9_deviceAt_29 rfl (lv_at hl 0 rfl) ?_
        have h1 := i_nlt c1
        have h9 := i_nle c9
        have h15 := i_lt c15
        have hj : x.toInt.toNat < 16 := by omega
        refine gr_X9_11 F hB dX9_deviceAt_30 LX.1 LX.2.1 ?_
        refine lv_iload_n hx hb dX9_deviceAt_33 rfl (lv_at hl 1 rfl) ?_
        refine sg_aald 4 hx hb F.2.1 hB.1 rfl rfl dX9_deviceAt_34 LD.1 (by omega) (by rw [LD.2.1]; omega) (by rw [LD.2.1]; decide) ?_
        rw [show sgR _ _ _ = some _ from LD.2.2 _ hj]
        exact cl_aretX (Nat.le_of_ble_eq_true rfl) F hB hrt (Or.inl ⟨_, rfl⟩) (Or.inr ⟨_, rfl⟩) dX9_deviceAt_35 (⟨⟨_, hj, by omega, h9, rfl⟩, rfl⟩)
      · exact cl_thr (NC := 1) (vi_throwSW (WS := _ :: vWall) (text := "no such device") (ik := 154) (is := 528) (ic := 158) (X := "java/lang/IndexOutOfBoundsException") F.1.1 F.1.2.1 hst F.1.2.2.2.2 F.1.2.2.2.1 (by decide) (by decide) hT (by decide) (List.mem_cons_of_mem _ (vm_4 _ (List.mem_of_getElem? (i := 24) rfl))) (List.mem_cons_of_mem _ (vm_4 _ (List.mem_of_getElem? (i := 25) rfl))) (fun w h => List.mem_cons_of_mem _ (vmx_0 w h)) (by decide +kernel) (by decide +kernel) (by decide) F.1.2.2.1 (by decide +kernel) (by decide +kernel) (by decide +kernel) (by decide +kernel) (by decide +kernel) hout F.2.2.2 (Nat.le_of_ble_eq_true rfl) (Nat.le_of_ble_eq_true rfl) ⟨Nat.le_refl _, Nat.le_refl _⟩ (Nat.le_refl _) (fun _ h => h)) hB vi_kept_rf (Nat.le_of_ble_eq_true rfl) (by decide) hl.1

theorem dX9_deviceBelowHost_0 : decode cX9_deviceBelowHost 0 = .ok (.iload_n 1, 1) := by decide +kernel
theorem dX9_deviceBelowHost_1 : decode cX9_deviceBelowHost 1 = .ok (.ifCond .ne 14, 3) := by decide +kernel
theorem dX9_deviceBelowHost_4 : decode cX9_deviceBelowHost 4 = .ok (.new 154, 3) := by decide +kernel
theorem dX9_deviceBelowHost_15 : decode cX9_deviceBelowHost 15 = .ok (.aload_n 0, 1) := by decide +kernel
theorem dX9_deviceBelowHost_16 : decode cX9_deviceBelowHost 16 = .ok (.iload_n 1, 1) := by decide +kernel
theorem dX9_deviceBelowHost_17 : decode cX9_deviceBelowHost 17 = .ok (.invokevirtual 124, 3) := by decide +kernel
theorem dX9_deviceBelowHost_20 : decode cX9_deviceBelowHost 20 = .ok (.areturn, 1) := by decide +kernel
set_option maxRecDepth 100000 in
set_option maxHeartbeats 4000000 in
theorem k_devB (l : Launch) (D : va_G) (cy : Nat → ClassId) {ad τ : List Nat} {Y : CY} {σ : SG} (hst : l.stackTraces = false) (hV : VL cy ad τ Y σ) (x : Int32) (sz : Nat) : clX l D cy ad τ Y σ sz yX9_deviceBelowHost (Cond.code yX9_deviceBelowHost cX9_deviceBelowHost 2 (some (.object "Hubcascade$Device")) :: vWall) 7 111 2 [.ref (yX Y), .int x] (fun v s2 => (∃ i : Nat, i < 16 ∧ ¬ i = 0 ∧ (i : Int) < (sgI σ (yX Y) 1).toInt ∧ v = some (.ref (yd Y i))) ∧ σ = s2) ["java/lang/IndexOutOfBoundsException"] := by
  refine cl_ofX (cc := cX9_deviceBelowHost) (maxL := 2) (ret := (some (.object "Hubcascade$Device"))) hV (by decide) rfl (Nat.le_of_ble_eq_true rfl) (lv := [(0, .ref (yX Y)), (1, .int x)]) rfl (fun p e s m below meth c ls H hrt F hT hout hB hl => ?_) sz
  have hx := F.1.1
  have hb := F.1.2.1
  have hown := F.1.2.2.2.1
  generalize hlo : ([] : List Loc) = locs at hB ⊢
  clear hlo
  obtain ⟨LX, LD, Ld, LE, Le, LP9, Lp, Lt, LU, LA, Lz⟩ := hV.2
  have e0 : (0 : Int32).toInt = 0 := rfl
  have e1 : (1 : Int32).toInt = 1 := rfl
  have e16 : (16 : Int32).toInt = 16 := rfl
  have e12 : (12 : Int32).toInt = 12 := rfl
  refine lv_iload_n hx hb dX9_deviceBelowHost_0 rfl (lv_at hl 1 rfl) ?_
  refine lv_if_ne (tgt := 15) hx hb dX9_deviceBelowHost_1 (by decide) (fun c1 => ?_) (fun c1 => ?_)
  · refine lv_aload_n hx hb dX9_deviceBelowHost_15 rfl (lv_at hl 0 rfl) ?_
    refine lv_iload_n hx hb dX9_deviceBelowHost_16 rfl (lv_at hl 1 rfl) ?_
    refine cl_callXV (ci := 14) F hT hout hB vi_kept_rf (k_devAt l D cy hst hB.2 _ _) (cwV 1 F.1.2.2.2.2 (vgV (vm_4 _ (List.mem_of_getElem? (i := 29) rfl)) (vm_4 _ (List.mem_of_getElem? (i := 30) rfl)) (vm_4 _ (List.mem_of_getElem? (i := 31) rfl)) (vm_4 _ (List.mem_of_getElem? (i := 20) rfl)) (vm_4 _ (List.mem_of_getElem? (i := 23) rfl))) rfl rfl rfl ⟨rfl, by decide, by decide, by decide +kernel⟩ ⟨Nat.le_of_ble_eq_true rfl, Nat.le_of_ble_eq_true rfl⟩) rfl rfl (by decide) rfl hl.1 rfl (Nat.le_of_ble_eq_true rfl) dX9_deviceBelowHost_17 ⟨Nat.le_of_ble_eq_true rfl, Nat.le_of_ble_eq_true rfl⟩ (by decide) (Nat.le_of_ble_eq_true rfl) LX.1 (fun H locs v σ17 hB hP => ?_)
    obtain ⟨⟨i17, hi17, ex17, hc17, rfl⟩, rfl⟩ := hP
    exact cl_aretX (Nat.le_of_ble_eq_true rfl) F hB hrt (Or.inl ⟨_, rfl⟩) (Or.inr ⟨_, rfl⟩) dX9_deviceBelowHost_20 (⟨⟨_, hi17, fun z => c1 (i_eq.mpr (by rw [e0]; omega)), by omega, rfl⟩, rfl⟩)
  · exact cl_thr (NC := 2) (vi_throwSW (WS := _ :: vWall) (text := "not for the host\'s hub") (ik := 154) (is := 530) (ic := 158) (X := "java/lang/IndexOutOfBoundsException") F.1.1 F.1.2.1 hst F.1.2.2.2.2 F.1.2.2.2.1 (by decide) (by decide) hT (by decide) (List.mem_cons_of_mem _ (vm_4 _ (List.mem_of_getElem? (i := 24) rfl))) (List.mem_cons_of_mem _ (vm_4 _ (List.mem_of_getElem? (i := 25) rfl))) (fun w h => List.mem_cons_of_mem _ (vmx_0 w h)) (by decide +kernel) (by decide +kernel) (by decide) F.1.2.2.1 (by decide +kernel) (by decide +kernel) (by decide +kernel) (by decide +kernel) (by decide +kernel) hout F.2.2.2 (Nat.le_of_ble_eq_true rfl) (Nat.le_of_ble_eq_true rfl) ⟨Nat.le_refl _, Nat.le_refl _⟩ (Nat.le_refl _) (fun _ h => h)) hB vi_kept_rf (Nat.le_of_ble_eq_true rfl) (by decide) hl.1

theorem dX9_endpointAt_0 : decode cX9_endpointAt 0 = .ok (.iload_n 1, 1) := by decide +kernel
theorem dX9_endpointAt_1 : decode cX9_endpointAt 1 = .ok (.iconst 1, 1) := by decide +kernel
theorem dX9_endpointAt_2 : decode cX9_endpointAt 2 = .ok (.iconst 3, 1) := by decide +kernel
theorem dX9_endpointAt_3 : decode cX9_endpointAt 3 = .ok (.invokestatic 88, 3) := by decide +kernel
theorem dX9_endpointAt_6 : decode cX9_endpointAt 6 = .ok (.ifCond .eq 17, 3) := by decide +kernel
theorem dX9_endpointAt_9 : decode cX9_endpointAt 9 = .ok (.aload_n 0, 1) := by decide +kernel
theorem dX9_endpointAt_10 : decode cX9_endpointAt 10 = .ok (.getfield 130, 3) := by decide +kernel
theorem dX9_endpointAt_13 : decode cX9_endpointAt 13 = .ok (.iload_n 1, 1) := by decide +kernel
theorem dX9_endpointAt_14 : decode cX9_endpointAt 14 = .ok (.iconst 1, 1) := by decide +kernel
theorem dX9_endpointAt_15 : decode cX9_endpointAt 15 = .ok (.isub, 1) := by decide +kernel
theorem dX9_endpointAt_16 : decode cX9_endpointAt 16 = .ok (.aaload, 1) := by decide +kernel
theorem dX9_endpointAt_17 : decode cX9_endpointAt 17 = .ok (.getfield 134, 3) := by decide +kernel
theorem dX9_endpointAt_20 : decode cX9_endpointAt 20 = .ok (.ifCond .ne 14, 3) := by decide +kernel
theorem dX9_endpointAt_23 : decode cX9_endpointAt 23 = .ok (.new 154, 3) := by decide +kernel
theorem dX9_endpointAt_34 : decode cX9_endpointAt 34 = .ok (.aload_n 0, 1) := by decide +kernel
theorem dX9_endpointAt_35 : decode cX9_endpointAt 35 = .ok (.getfield 130, 3) := by decide +kernel
theorem dX9_endpointAt_38 : decode cX9_endpointAt 38 = .ok (.iload_n 1, 1) := by decide +kernel
theorem dX9_endpointAt_39 : decode cX9_endpointAt 39 = .ok (.iconst 1, 1) := by decide +kernel
theorem dX9_endpointAt_40 : decode cX9_endpointAt 40 = .ok (.isub, 1) := by decide +kernel
theorem dX9_endpointAt_41 : decode cX9_endpointAt 41 = .ok (.aaload, 1) := by decide +kernel
theorem dX9_endpointAt_42 : decode cX9_endpointAt 42 = .ok (.areturn, 1) := by decide +kernel
set_option maxRecDepth 100000 in
set_option maxHeartbeats 4000000 in
theorem k_epAt (l : Launch) (D : va_G) (cy : Nat → ClassId) {ad τ : List Nat} {Y : CY} {σ : SG} (hst : l.stackTraces = false) (hV : VL cy ad τ Y σ) {i : Nat} (hi : i < 16) (x : Int32) (sz : Nat) : clX l D cy ad τ Y σ sz yX9_endpointAt (Cond.code yX9_endpointAt cX9_endpointAt 2 (some (.object "Hubcascade$Endpoint")) :: vWall) 6 90 1 [.ref (yd Y i), .int x] (fun v s2 => (∃ k, k < 3 ∧ v = some (.ref (ye Y i k)) ∧ ¬ sgI σ (ye Y i k) 0 = 0) ∧ σ = s2) ["java/lang/IndexOutOfBoundsException"] := by
  refine cl_ofX (cc := cX9_endpointAt) (maxL := 2) (ret := (some (.object "Hubcascade$Endpoint"))) hV (by decide) rfl (Nat.le_of_ble_eq_true rfl) (lv := [(0, .ref (yd Y i)), (1, .int x)]) rfl (fun p e s m below meth c ls H hrt F hT hout hB hl => ?_) sz
  have hx := F.1.1
  have hb := F.1.2.1
  have hown := F.1.2.2.2.1
  generalize hlo : ([] : List Loc) = locs at hB ⊢
  clear hlo
  obtain ⟨LX, LD, Ld, LE, Le, LP9, Lp, Lt, LU, LA, Lz⟩ := hV.2
  have e0 : (0 : Int32).toInt = 0 := rfl
  have e1 : (1 : Int32).toInt = 1 := rfl
  have e16 : (16 : Int32).toInt = 16 := rfl
  have e12 : (12 : Int32).toInt = 12 := rfl
  refine lv_iload_n hx hb dX9_endpointAt_0 rfl (lv_at hl 1 rfl) ?_
  refine lv_iconst (v := 1) hx hb dX9_endpointAt_1 (by decide) ?_
  refine lv_iconst (v := 3) hx hb dX9_endpointAt_2 (by decide) ?_
  refine cl_callS F hB (k_within l D cy hB.2 _ _ _ _) (cwS 3 F.1.2.2.2.2 (vgS (vm_4 _ (List.mem_of_getElem? (i := 21) rfl)) (vm_4 _ (List.mem_of_getElem? (i := 22) rfl)) (vm_4 _ (List.mem_of_getElem? (i := 20) rfl)) (vm_4 _ (List.mem_of_getElem? (i := 12) rfl))) rfl rfl rfl ⟨rfl, by decide, by decide, by decide +kernel⟩ ⟨Nat.le_of_ble_eq_true rfl, Nat.le_of_ble_eq_true rfl⟩) rfl hl.1 rfl (Nat.le_of_ble_eq_true rfl) dX9_endpointAt_3 ⟨Nat.le_of_ble_eq_true rfl, Nat.le_of_ble_eq_true rfl⟩ (fun H locs v σ3 hB hP => ?_)
  obtain ⟨⟨b3, rfl, hb3⟩, rfl⟩ := hP
  refine lv_if_eq (tgt := 23) hx hb dX9_endpointAt_6 (by decide) (fun c6 => ?_) (fun c6 => ?_)
  · exact cl_thr (NC := 1) (vi_throwSW (WS := _ :: vWall) (text := "no such endpoint") (ik := 154) (is := 532) (ic := 158) (X := "java/lang/IndexOutOfBoundsException") F.1.1 F.1.2.1 hst F.1.2.2.2.2 F.1.2.2.2.1 (by decide) (by decide) hT (by decide) (List.mem_cons_of_mem _ (vm_4 _ (List.mem_of_getElem? (i := 24) rfl))) (List.mem_cons_of_mem _ (vm_4 _ (List.mem_of_getElem? (i := 25) rfl))) (fun w h => List.mem_cons_of_mem _ (vmx_0 w h)) (by decide +kernel) (by decide +kernel) (by decide) F.1.2.2.1 (by decide +kernel) (by decide +kernel) (by decide +kernel) (by decide +kernel) (by decide +kernel) hout F.2.2.2 (Nat.le_of_ble_eq_true rfl) (Nat.le_of_ble_eq_true rfl) ⟨Nat.le_refl _, Nat.le_refl _⟩ (Nat.le_refl _) (fun _ h => h)) hB vi_kept_rf (Nat.le_of_ble_eq_true rfl) (by decide) hl.1
  · refine lv_aload_n hx hb dX9_endpointAt_9 rfl (lv_at hl 0 rfl) ?_
    have h6 := sgb_t hb3 c6
    have e3 : (3 : Int32).toInt = 3 := rfl
    have h9 : (x - 1).toInt = x.toInt - 1 := by rw [i_sub (by rw [e1]; omega) (by rw [e1]; omega), e1]
    have hj : (x - 1).toInt.toNat < 3 := by rw [h9]; omega
    refine gr_X9_130 F hB dX9_endpointAt_10 (Ld _ hi).1 (Ld _ hi).2.2 ?_
    refine lv_iload_n hx hb dX9_endpointAt_13 rfl (lv_at hl 1 rfl) ?_
    refine lv_iconst (v := 1) hx hb dX9_endpointAt_14 (by decide) ?_
    refine lv_isub hx hb dX9_endpointAt_15 ?_
    refine sg_aald 5 hx hb F.2.1 hB.1 rfl rfl dX9_endpointAt_16 (LE _ hi).1 (by rw [h9]; omega) (by rw [(LE _ hi).2.1, h9]; omega) (by rw [(LE _ hi).2.1]; decide) ?_
    rw [show sgR _ _ _ = some _ from (LE _ hi).2.2 _ hj]
    refine gf_X9_134 F hB dX9_endpointAt_17 (Le _ _ hi hj).1 ?_
    refine lv_if_ne (tgt := 34) hx hb dX9_endpointAt_20 (by decide) (fun c20 => ?_) (fun c20 => ?_)
    · refine lv_aload_n hx hb dX9_endpointAt_34 rfl (lv_at hl 0 rfl) ?_
      refine gr_X9_130 F hB dX9_endpointAt_35 (Ld _ hi).1 (Ld _ hi).2.2 ?_
      refine lv_iload_n hx hb dX9_endpointAt_38 rfl (lv_at hl 1 rfl) ?_
      refine lv_iconst (v := 1) hx hb dX9_endpointAt_39 (by decide) ?_
      refine lv_isub hx hb dX9_endpointAt_40 ?_
      refine sg_aald 5 hx hb F.2.1 hB.1 rfl rfl dX9_endpointAt_41 (LE _ hi).1 (by rw [h9]; omega) (by rw [(LE _ hi).2.1, h9]; omega) (by rw [(LE _ hi).2.1]; decide) ?_
      rw [show sgR _ _ _ = some _ from (LE _ hi).2.2 _ hj]
      exact cl_aretX (Nat.le_of_ble_eq_true rfl) F hB hrt (Or.inl ⟨_, rfl⟩) (Or.inr ⟨_, rfl⟩) dX9_endpointAt_42 (⟨⟨_, hj, rfl, c20⟩, rfl⟩)
    · exact cl_thr (NC := 1) (vi_throwSW (WS := _ :: vWall) (text := "no such endpoint") (ik := 154) (is := 532) (ic := 158) (X := "java/lang/IndexOutOfBoundsException") F.1.1 F.1.2.1 hst F.1.2.2.2.2 F.1.2.2.2.1 (by decide) (by decide) hT (by decide) (List.mem_cons_of_mem _ (vm_4 _ (List.mem_of_getElem? (i := 24) rfl))) (List.mem_cons_of_mem _ (vm_4 _ (List.mem_of_getElem? (i := 25) rfl))) (fun w h => List.mem_cons_of_mem _ (vmx_0 w h)) (by decide +kernel) (by decide +kernel) (by decide) F.1.2.2.1 (by decide +kernel) (by decide +kernel) (by decide +kernel) (by decide +kernel) (by decide +kernel) hout F.2.2.2 (Nat.le_of_ble_eq_true rfl) (Nat.le_of_ble_eq_true rfl) ⟨Nat.le_refl _, Nat.le_refl _⟩ (Nat.le_refl _) (fun _ h => h)) hB vi_kept_rf (Nat.le_of_ble_eq_true rfl) (by decide) hl.1

theorem dX9_openPipe_0 : decode cX9_openPipe 0 = .ok (.iload_n 1, 1) := by decide +kernel
theorem dX9_openPipe_1 : decode cX9_openPipe 1 = .ok (.iconst 0, 1) := by decide +kernel
theorem dX9_openPipe_2 : decode cX9_openPipe 2 = .ok (.bipush 11, 2) := by decide +kernel
theorem dX9_openPipe_4 : decode cX9_openPipe 4 = .ok (.invokestatic 88, 3) := by decide +kernel
theorem dX9_openPipe_7 : decode cX9_openPipe 7 = .ok (.ifCond .eq 15, 3) := by decide +kernel
theorem dX9_openPipe_10 : decode cX9_openPipe 10 = .ok (.aload_n 0, 1) := by decide +kernel
theorem dX9_openPipe_11 : decode cX9_openPipe 11 = .ok (.getfield 24, 3) := by decide +kernel
theorem dX9_openPipe_14 : decode cX9_openPipe 14 = .ok (.iload_n 1, 1) := by decide +kernel
theorem dX9_openPipe_15 : decode cX9_openPipe 15 = .ok (.aaload, 1) := by decide +kernel
theorem dX9_openPipe_16 : decode cX9_openPipe 16 = .ok (.invokevirtual 536, 3) := by decide +kernel
theorem dX9_openPipe_19 : decode cX9_openPipe 19 = .ok (.ifCond .ne 14, 3) := by decide +kernel
theorem dX9_openPipe_22 : decode cX9_openPipe 22 = .ok (.new 203, 3) := by decide +kernel
theorem dX9_openPipe_33 : decode cX9_openPipe 33 = .ok (.aload_n 0, 1) := by decide +kernel
theorem dX9_openPipe_34 : decode cX9_openPipe 34 = .ok (.getfield 24, 3) := by decide +kernel
theorem dX9_openPipe_37 : decode cX9_openPipe 37 = .ok (.iload_n 1, 1) := by decide +kernel
theorem dX9_openPipe_38 : decode cX9_openPipe 38 = .ok (.aaload, 1) := by decide +kernel
theorem dX9_openPipe_39 : decode cX9_openPipe 39 = .ok (.areturn, 1) := by decide +kernel
set_option maxRecDepth 100000 in
set_option maxHeartbeats 4000000 in
theorem k_opP (l : Launch) (D : va_G) (cy : Nat → ClassId) {ad τ : List Nat} {Y : CY} {σ : SG} (hst : l.stackTraces = false) (hV : VL cy ad τ Y σ) (x : Int32) (sz : Nat) : clX l D cy ad τ Y σ sz yX9_openPipe (Cond.code yX9_openPipe cX9_openPipe 2 (some (.object "Hubcascade$Pipe")) :: vWall) 6 90 1 [.ref (yX Y), .int x] (fun v s2 => (∃ j, j < 12 ∧ v = some (.ref (yp Y j)) ∧ ∃ d, sgR σ (yp Y j) 1 = some d) ∧ σ = s2) ["java/util/NoSuchElementException"] := by
  refine cl_ofX (cc := cX9_openPipe) (maxL := 2) (ret := (some (.object "Hubcascade$Pipe"))) hV (by decide) rfl (Nat.le_of_ble_eq_true rfl) (lv := [(0, .ref (yX Y)), (1, .int x)]) rfl (fun p e s m below meth c ls H hrt F hT hout hB hl => ?_) sz
  have hx := F.1.1
  have hb := F.1.2.1
  have hown := F.1.2.2.2.1
  generalize hlo : ([] : List Loc) = locs at hB ⊢
  clear hlo
  obtain ⟨LX, LD, Ld, LE, Le, LP9, Lp, Lt, LU, LA, Lz⟩ := hV.2
  have e0 : (0 : Int32).toInt = 0 := rfl
  have e1 : (1 : Int32).toInt = 1 := rfl
  have e16 : (16 : Int32).toInt = 16 := rfl
  have e12 : (12 : Int32).toInt = 12 := rfl
  refine lv_iload_n hx hb dX9_openPipe_0 rfl (lv_at hl 1 rfl) ?_
  refine lv_iconst (v := 0) hx hb dX9_openPipe_1 (by decide) ?_
  refine lv_bipush (v := 11) hx hb dX9_openPipe_2 (by decide) ?_
  refine cl_callS F hB (k_within l D cy hB.2 _ _ _ _) (cwS 3 F.1.2.2.2.2 (vgS (vm_4 _ (List.mem_of_getElem? (i := 21) rfl)) (vm_4 _ (List.mem_of_getElem? (i := 22) rfl)) (vm_4 _ (List.mem_of_getElem? (i := 20) rfl)) (vm_4 _ (List.mem_of_getElem? (i := 12) rfl))) rfl rfl rfl ⟨rfl, by decide, by decide, by decide +kernel⟩ ⟨Nat.le_of_ble_eq_true rfl, Nat.le_of_ble_eq_true rfl⟩) rfl hl.1 rfl (Nat.le_of_ble_eq_true rfl) dX9_openPipe_4 ⟨Nat.le_of_ble_eq_true rfl, Nat.le_of_ble_eq_true rfl⟩ (fun H locs v σ4 hB hP => ?_)
  obtain ⟨⟨b4, rfl, hb4⟩, rfl⟩ := hP
  refine lv_if_eq (tgt := 22) hx hb dX9_openPipe_7 (by decide) (fun c7 => ?_) (fun c7 => ?_)
  · exact cl_thr (NC := 1) (vi_throwNW (WS := _ :: vWall) (text := "no such pipe is open") (ik := 203) (is := 539) F.1.1 F.1.2.1 hst F.1.2.2.2.2 F.1.2.2.2.1 (by decide) (by decide) hT (by decide) (List.mem_cons_of_mem _ (vm_6 _ (List.mem_of_getElem? (i := 30) rfl))) (List.mem_cons_of_mem _ (vm_6 _ (List.mem_of_getElem? (i := 31) rfl))) (fun w h => List.mem_cons_of_mem _ (vmx_5 w h)) (by decide +kernel) (by decide +kernel) (by decide) F.1.2.2.1 (by decide +kernel) (by decide +kernel) (by decide +kernel) (by decide +kernel) (by decide +kernel) hout F.2.2.2 (Nat.le_of_ble_eq_true rfl) (Nat.le_of_ble_eq_true rfl) ⟨Nat.le_refl _, Nat.le_refl _⟩ (Nat.le_refl _) (fun _ h => h)) hB vi_kept_rf (Nat.le_of_ble_eq_true rfl) (by decide) hl.1
  · refine lv_aload_n hx hb dX9_openPipe_10 rfl (lv_at hl 0 rfl) ?_
    have h7 := sgb_t hb4 c7
    have e11 : (11 : Int32).toInt = 11 := rfl
    have hj : x.toInt.toNat < 12 := by omega
    refine gr_X9_24 F hB dX9_openPipe_11 LX.1 LX.2.2.1 ?_
    refine lv_iload_n hx hb dX9_openPipe_14 rfl (lv_at hl 1 rfl) ?_
    refine sg_aald 6 hx hb F.2.1 hB.1 rfl rfl dX9_openPipe_15 LP9.1 (by omega) (by rw [LP9.2.1]; omega) (by rw [LP9.2.1]; decide) ?_
    rw [show sgR _ _ _ = some _ from LP9.2.2 _ hj]
    refine cl_callN (ci := 10) F hB (k_isOpen l D cy hB.2 (Lp _ hj).1 _) ⟨va_cnB 0 F.1.2.2.2.2 (vgN (vm_2 _ (List.mem_of_getElem? (i := 11) rfl))) rfl rfl rfl (F.2.2.1.1 _ nf_144) (F.1.2.2.2.2 _ (List.mem_cons_of_mem _ (vm_2 _ (List.mem_of_getElem? (i := 22) rfl)))) ⟨by decide, by decide, by decide +kernel⟩ ⟨Nat.le_of_ble_eq_true rfl, Nat.le_of_ble_eq_true rfl⟩, F.1.2.2.2.2 _ (List.mem_cons_of_mem _ (vm_7 _ (List.mem_of_getElem? (i := 39) rfl))), F.1.2.2.2.2 _ (List.mem_cons_of_mem _ (vm_8 _ (List.mem_of_getElem? (i := 0) rfl)))⟩ rfl rfl (by decide) rfl hl.1 rfl (Nat.le_of_ble_eq_true rfl) dX9_openPipe_16 ⟨Nat.le_of_ble_eq_true rfl, Nat.le_of_ble_eq_true rfl⟩ (Lp _ hj).1 (fun H locs v σ16 hB hP => ?_)
    obtain ⟨⟨b16, rfl, hb16⟩, rfl⟩ := hP
    refine lv_if_ne (tgt := 33) hx hb dX9_openPipe_19 (by decide) (fun c19 => ?_) (fun c19 => ?_)
    · refine lv_aload_n hx hb dX9_openPipe_33 rfl (lv_at hl 0 rfl) ?_
      refine gr_X9_24 F hB dX9_openPipe_34 LX.1 LX.2.2.1 ?_
      refine lv_iload_n hx hb dX9_openPipe_37 rfl (lv_at hl 1 rfl) ?_
      refine sg_aald 6 hx hb F.2.1 hB.1 rfl rfl dX9_openPipe_38 LP9.1 (by omega) (by rw [LP9.2.1]; omega) (by rw [LP9.2.1]; decide) ?_
      rw [show sgR _ _ _ = some _ from LP9.2.2 _ hj]
      exact cl_aretX (Nat.le_of_ble_eq_true rfl) F hB hrt (Or.inl ⟨_, rfl⟩) (Or.inr ⟨_, rfl⟩) dX9_openPipe_39 (⟨⟨_, hj, rfl, sgb_t hb16 c19⟩, rfl⟩)
    · exact cl_thr (NC := 1) (vi_throwNW (WS := _ :: vWall) (text := "no such pipe is open") (ik := 203) (is := 539) F.1.1 F.1.2.1 hst F.1.2.2.2.2 F.1.2.2.2.1 (by decide) (by decide) hT (by decide) (List.mem_cons_of_mem _ (vm_6 _ (List.mem_of_getElem? (i := 30) rfl))) (List.mem_cons_of_mem _ (vm_6 _ (List.mem_of_getElem? (i := 31) rfl))) (fun w h => List.mem_cons_of_mem _ (vmx_5 w h)) (by decide +kernel) (by decide +kernel) (by decide) F.1.2.2.1 (by decide +kernel) (by decide +kernel) (by decide +kernel) (by decide +kernel) (by decide +kernel) hout F.2.2.2 (Nat.le_of_ble_eq_true rfl) (Nat.le_of_ble_eq_true rfl) ⟨Nat.le_refl _, Nat.le_refl _⟩ (Nat.le_refl _) (fun _ h => h)) hB vi_kept_rf (Nat.le_of_ble_eq_true rfl) (by decide) hl.1

theorem dX9_make_0 : decode cX9_make 0 = .ok (.iload_n 1, 1) := by decide +kernel
theorem dX9_make_1 : decode cX9_make 1 = .ok (.invokestatic 84, 3) := by decide +kernel
theorem dX9_make_4 : decode cX9_make 4 = .ok (.ifCond .eq 32, 3) := by decide +kernel
theorem dX9_make_7 : decode cX9_make 7 = .ok (.iload_n 2, 1) := by decide +kernel
theorem dX9_make_8 : decode cX9_make 8 = .ok (.iconst 0, 1) := by decide +kernel
theorem dX9_make_9 : decode cX9_make 9 = .ok (.iconst 4, 1) := by decide +kernel
theorem dX9_make_10 : decode cX9_make 10 = .ok (.invokestatic 88, 3) := by decide +kernel
theorem dX9_make_13 : decode cX9_make 13 = .ok (.ifCond .eq 23, 3) := by decide +kernel
theorem dX9_make_16 : decode cX9_make 16 = .ok (.iload_n 3, 1) := by decide +kernel
theorem dX9_make_17 : decode cX9_make 17 = .ok (.iconst 1, 1) := by decide +kernel
theorem dX9_make_18 : decode cX9_make 18 = .ok (.iconst 5, 1) := by decide +kernel
theorem dX9_make_19 : decode cX9_make 19 = .ok (.invokestatic 88, 3) := by decide +kernel
theorem dX9_make_22 : decode cX9_make 22 = .ok (.ifCond .eq 14, 3) := by decide +kernel
theorem dX9_make_25 : decode cX9_make 25 = .ok (.iload 5, 2) := by decide +kernel
theorem dX9_make_27 : decode cX9_make 27 = .ok (.iconst 0, 1) := by decide +kernel
theorem dX9_make_28 : decode cX9_make 28 = .ok (.bipush 99, 2) := by decide +kernel
theorem dX9_make_30 : decode cX9_make 30 = .ok (.invokestatic 88, 3) := by decide +kernel
theorem dX9_make_33 : decode cX9_make 33 = .ok (.ifCond .ne 13, 3) := by decide +kernel
theorem dX9_make_36 : decode cX9_make 36 = .ok (.new 92, 3) := by decide +kernel
theorem dX9_make_46 : decode cX9_make 46 = .ok (.iload_n 1, 1) := by decide +kernel
theorem dX9_make_47 : decode cX9_make 47 = .ok (.bipush 108, 2) := by decide +kernel
theorem dX9_make_49 : decode cX9_make 49 = .ok (.if_icmp .ne 17, 3) := by decide +kernel
theorem dX9_make_52 : decode cX9_make 52 = .ok (.iload_n 2, 1) := by decide +kernel
theorem dX9_make_53 : decode cX9_make 53 = .ok (.ifCond .le 13, 3) := by decide +kernel
theorem dX9_make_56 : decode cX9_make 56 = .ok (.new 92, 3) := by decide +kernel
theorem dX9_make_66 : decode cX9_make 66 = .ok (.aload_n 0, 1) := by decide +kernel
theorem dX9_make_67 : decode cX9_make 67 = .ok (.getfield 81, 3) := by decide +kernel
theorem dX9_make_70 : decode cX9_make 70 = .ok (.bipush 16, 2) := by decide +kernel
theorem dX9_make_72 : decode cX9_make 72 = .ok (.if_icmp .lt 13, 3) := by decide +kernel
theorem dX9_make_75 : decode cX9_make 75 = .ok (.new 101, 3) := by decide +kernel
theorem dX9_make_85 : decode cX9_make 85 = .ok (.aload_n 0, 1) := by decide +kernel
theorem dX9_make_86 : decode cX9_make 86 = .ok (.getfield 11, 3) := by decide +kernel
theorem dX9_make_89 : decode cX9_make 89 = .ok (.aload_n 0, 1) := by decide +kernel
theorem dX9_make_90 : decode cX9_make 90 = .ok (.getfield 81, 3) := by decide +kernel
theorem dX9_make_93 : decode cX9_make 93 = .ok (.aaload, 1) := by decide +kernel
theorem dX9_make_94 : decode cX9_make 94 = .ok (.astore 6, 2) := by decide +kernel
theorem dX9_make_96 : decode cX9_make 96 = .ok (.aload 6, 2) := by decide +kernel
theorem dX9_make_98 : decode cX9_make 98 = .ok (.iload_n 1, 1) := by decide +kernel
theorem dX9_make_99 : decode cX9_make 99 = .ok (.putfield 106, 3) := by decide +kernel
theorem dX9_make_102 : decode cX9_make 102 = .ok (.aload 6, 2) := by decide +kernel
theorem dX9_make_104 : decode cX9_make 104 = .ok (.iload_n 1, 1) := by decide +kernel
theorem dX9_make_105 : decode cX9_make 105 = .ok (.putfield 109, 3) := by decide +kernel
theorem dX9_make_108 : decode cX9_make 108 = .ok (.aload 6, 2) := by decide +kernel
theorem dX9_make_110 : decode cX9_make 110 = .ok (.iload_n 2, 1) := by decide +kernel
theorem dX9_make_111 : decode cX9_make 111 = .ok (.putfield 67, 3) := by decide +kernel
theorem dX9_make_114 : decode cX9_make 114 = .ok (.aload 6, 2) := by decide +kernel
theorem dX9_make_116 : decode cX9_make 116 = .ok (.iload_n 3, 1) := by decide +kernel
theorem dX9_make_117 : decode cX9_make 117 = .ok (.putfield 112, 3) := by decide +kernel
theorem dX9_make_120 : decode cX9_make 120 = .ok (.aload 6, 2) := by decide +kernel
theorem dX9_make_122 : decode cX9_make 122 = .ok (.iload_n 3, 1) := by decide +kernel
theorem dX9_make_123 : decode cX9_make 123 = .ok (.putfield 115, 3) := by decide +kernel
theorem dX9_make_126 : decode cX9_make 126 = .ok (.aload 6, 2) := by decide +kernel
theorem dX9_make_128 : decode cX9_make 128 = .ok (.iload 4, 2) := by decide +kernel
theorem dX9_make_130 : decode cX9_make 130 = .ok (.putfield 70, 3) := by decide +kernel
theorem dX9_make_133 : decode cX9_make 133 = .ok (.aload 6, 2) := by decide +kernel
theorem dX9_make_135 : decode cX9_make 135 = .ok (.iload 5, 2) := by decide +kernel
theorem dX9_make_137 : decode cX9_make 137 = .ok (.putfield 118, 3) := by decide +kernel
theorem dX9_make_140 : decode cX9_make 140 = .ok (.aload_n 0, 1) := by decide +kernel
theorem dX9_make_141 : decode cX9_make 141 = .ok (.dup, 1) := by decide +kernel
theorem dX9_make_142 : decode cX9_make 142 = .ok (.getfield 81, 3) := by decide +kernel
theorem dX9_make_145 : decode cX9_make 145 = .ok (.iconst 1, 1) := by decide +kernel
theorem dX9_make_146 : decode cX9_make 146 = .ok (.iadd, 1) := by decide +kernel
theorem dX9_make_147 : decode cX9_make 147 = .ok (.putfield 81, 3) := by decide +kernel
theorem dX9_make_150 : decode cX9_make 150 = .ok (.aload 6, 2) := by decide +kernel
theorem dX9_make_152 : decode cX9_make 152 = .ok (.getfield 121, 3) := by decide +kernel
theorem dX9_make_155 : decode cX9_make 155 = .ok (.ireturn, 1) := by decide +kernel
set_option maxRecDepth 100000 in
set_option maxHeartbeats 4000000 in
theorem k_make (l : Launch) (D : va_G) (cy : Nat → ClassId) {ad τ : List Nat} {Y : CY} {σ : SG} (hst : l.stackTraces = false) (hs : vi_s1 vSG τ) (hV : VL cy ad τ Y σ) {B : Int} (hI : SI Y σ B) (x1 x2 x3 x4 x5 : Int32) (hsp : sgF 1 x1) (hown2 : sgF 2 x4) (sz : Nat) : clX l D cy ad τ Y σ sz yX9_make (Cond.code yX9_make cX9_make 7 (some .int) :: vWall) 6 90 1 [.ref (yX Y), .int x1, .int x2, .int x3, .int x4, .int x5] (fun v s2 => (∃ x : Int32, v = some (.int x)) ∧ SI Y s2 B) ["java/lang/IllegalArgumentException", "java/lang/IllegalStateException"] := by
  refine cl_ofX (cc := cX9_make) (maxL := 7) (ret := (some .int)) hV (by decide) rfl (Nat.le_of_ble_eq_true rfl) (lv := [(0, .ref (yX Y)), (1, .int x1), (2, .int x2), (3, .int x3), (4, .int x4), (5, .int x5)]) rfl (fun p e s m below meth c ls H hrt F hT hout hB hl => ?_) sz
  have hx := F.1.1
  have hb := F.1.2.1
  have hown := F.1.2.2.2.1
  generalize hlo : ([] : List Loc) = locs at hB ⊢
  clear hlo
  obtain ⟨LX, LD, Ld, LE, Le, LP9, Lp, Lt, LU, LA, Lz⟩ := hV.2
  have e0 : (0 : Int32).toInt = 0 := rfl
  have e1 : (1 : Int32).toInt = 1 := rfl
  have e16 : (16 : Int32).toInt = 16 := rfl
  have e12 : (12 : Int32).toInt = 12 := rfl
  have hV9 := hV
  have hI9 := hI
  refine lv_iload_n hx hb dX9_make_0 rfl (lv_at hl 1 rfl) ?_
  refine cl_callS F hB (k_speed l D cy hB.2 _ _) (cwS 1 F.1.2.2.2.2 (vgS (vm_4 _ (List.mem_of_getElem? (i := 18) rfl)) (vm_4 _ (List.mem_of_getElem? (i := 19) rfl)) (vm_4 _ (List.mem_of_getElem? (i := 20) rfl)) (vm_4 _ (List.mem_of_getElem? (i := 11) rfl))) rfl rfl rfl ⟨rfl, by decide, by decide, by decide +kernel⟩ ⟨Nat.le_of_ble_eq_true rfl, Nat.le_of_ble_eq_true rfl⟩) rfl hl.1 rfl (Nat.le_of_ble_eq_true rfl) dX9_make_1 ⟨Nat.le_of_ble_eq_true rfl, Nat.le_of_ble_eq_true rfl⟩ (fun H locs v σ1 hB hP => ?_)
  obtain ⟨⟨b1, rfl, hb1⟩, rfl⟩ := hP
  refine lv_if_eq (tgt := 36) hx hb dX9_make_4 (by decide) (fun c4 => ?_) (fun c4 => ?_)
  · exact cl_thr (NC := 1) (vi_throwS (WS := _ :: vWall) (text := "no such device can be made") (ik := 92) (is := 94) (ic := 96) (X := "java/lang/IllegalArgumentException") F.1.1 F.1.2.1 hst F.1.2.2.2.2 F.1.2.2.2.1 (by decide) (by decide) hT (by decide) (List.mem_cons_of_mem _ (vm_4 _ (List.mem_of_getElem? (i := 14) rfl))) (List.mem_cons_of_mem _ (vm_4 _ (List.mem_of_getElem? (i := 15) rfl))) (fun w h => List.mem_cons_of_mem _ (vmx_2 w h)) (by decide +kernel) (by decide +kernel) (by decide) F.1.2.2.1 (by decide +kernel) (by decide +kernel) (by decide +kernel) (by decide +kernel) (by decide +kernel) hout F.2.2.2 (Nat.le_of_ble_eq_true rfl) (Nat.le_of_ble_eq_true rfl) ⟨Nat.le_refl _, Nat.le_refl _⟩ (Nat.le_refl _) (fun _ h => h)) hB vi_kept_rf (Nat.le_of_ble_eq_true rfl) (by decide) hl.1
  · refine lv_iload_n hx hb dX9_make_7 rfl (lv_at hl 2 rfl) ?_
    refine lv_iconst (v := 0) hx hb dX9_make_8 (by decide) ?_
    refine lv_iconst (v := 4) hx hb dX9_make_9 (by decide) ?_
    refine cl_callS F hB (k_within l D cy hB.2 _ _ _ _) (cwS 3 F.1.2.2.2.2 (vgS (vm_4 _ (List.mem_of_getElem? (i := 21) rfl)) (vm_4 _ (List.mem_of_getElem? (i := 22) rfl)) (vm_4 _ (List.mem_of_getElem? (i := 20) rfl)) (vm_4 _ (List.mem_of_getElem? (i := 12) rfl))) rfl rfl rfl ⟨rfl, by decide, by decide, by decide +kernel⟩ ⟨Nat.le_of_ble_eq_true rfl, Nat.le_of_ble_eq_true rfl⟩) rfl hl.1 rfl (Nat.le_of_ble_eq_true rfl) dX9_make_10 ⟨Nat.le_of_ble_eq_true rfl, Nat.le_of_ble_eq_true rfl⟩ (fun H locs v σ10 hB hP => ?_)
    obtain ⟨⟨b10, rfl, hb10⟩, rfl⟩ := hP
    refine lv_if_eq (tgt := 36) hx hb dX9_make_13 (by decide) (fun c13 => ?_) (fun c13 => ?_)
    · exact cl_thr (NC := 1) (vi_throwS (WS := _ :: vWall) (text := "no such device can be made") (ik := 92) (is := 94) (ic := 96) (X := "java/lang/IllegalArgumentException") F.1.1 F.1.2.1 hst F.1.2.2.2.2 F.1.2.2.2.1 (by decide) (by decide) hT (by decide) (List.mem_cons_of_mem _ (vm_4 _ (List.mem_of_getElem? (i := 14) rfl))) (List.mem_cons_of_mem _ (vm_4 _ (List.mem_of_getElem? (i := 15) rfl))) (fun w h => List.mem_cons_of_mem _ (vmx_2 w h)) (by decide +kernel) (by decide +kernel) (by decide) F.1.2.2.1 (by decide +kernel) (by decide +kernel) (by decide +kernel) (by decide +kernel) (by decide +kernel) hout F.2.2.2 (Nat.le_of_ble_eq_true rfl) (Nat.le_of_ble_eq_true rfl) ⟨Nat.le_refl _, Nat.le_refl _⟩ (Nat.le_refl _) (fun _ h => h)) hB vi_kept_rf (Nat.le_of_ble_eq_true rfl) (by decide) hl.1
    · refine lv_iload_n hx hb dX9_make_16 rfl (lv_at hl 3 rfl) ?_
      refine lv_iconst (v := 1) hx hb dX9_make_17 (by decide) ?_
      refine lv_iconst (v := 5) hx hb dX9_make_18 (by decide) ?_
      refine cl_callS F hB (k_within l D cy hB.2 _ _ _ _) (cwS 3 F.1.2.2.2.2 (vgS (vm_4 _ (List.mem_of_getElem? (i := 21) rfl)) (vm_4 _ (List.mem_of_getElem? (i := 22) rfl)) (vm_4 _ (List.mem_of_getElem? (i := 20) rfl)) (vm_4 _ (List.mem_of_getElem? (i := 12) rfl))) rfl rfl rfl ⟨rfl, by decide, by decide, by decide +kernel⟩ ⟨Nat.le_of_ble_eq_true rfl, Nat.le_of_ble_eq_true rfl⟩) rfl hl.1 rfl (Nat.le_of_ble_eq_true rfl) dX9_make_19 ⟨Nat.le_of_ble_eq_true rfl, Nat.le_of_ble_eq_true rfl⟩ (fun H locs v σ19 hB hP => ?_)
      obtain ⟨⟨b19, rfl, hb19⟩, rfl⟩ := hP
      refine lv_if_eq (tgt := 36) hx hb dX9_make_22 (by decide) (fun c22 => ?_) (fun c22 => ?_)
      · exact cl_thr (NC := 1) (vi_throwS (WS := _ :: vWall) (text := "no such device can be made") (ik := 92) (is := 94) (ic := 96) (X := "java/lang/IllegalArgumentException") F.1.1 F.1.2.1 hst F.1.2.2.2.2 F.1.2.2.2.1 (by decide) (by decide) hT (by decide) (List.mem_cons_of_mem _ (vm_4 _ (List.mem_of_getElem? (i := 14) rfl))) (List.mem_cons_of_mem _ (vm_4 _ (List.mem_of_getElem? (i := 15) rfl))) (fun w h => List.mem_cons_of_mem _ (vmx_2 w h)) (by decide +kernel) (by decide +kernel) (by decide) F.1.2.2.1 (by decide +kernel) (by decide +kernel) (by decide +kernel) (by decide +kernel) (by decide +kernel) hout F.2.2.2 (Nat.le_of_ble_eq_true rfl) (Nat.le_of_ble_eq_true rfl) ⟨Nat.le_refl _, Nat.le_refl _⟩ (Nat.le_refl _) (fun _ h => h)) hB vi_kept_rf (Nat.le_of_ble_eq_true rfl) (by decide) hl.1
      · refine lv_iload hx hb dX9_make_25 (lv_at hl 5 rfl) ?_
        refine lv_iconst (v := 0) hx hb dX9_make_27 (by decide) ?_
        refine lv_bipush (v := 99) hx hb dX9_make_28 (by decide) ?_
        refine cl_callS F hB (k_within l D cy hB.2 _ _ _ _) (cwS 3 F.1.2.2.2.2 (vgS (vm_4 _ (List.mem_of_getElem? (i := 21) rfl)) (vm_4 _ (List.mem_of_getElem? (i := 22) rfl)) (vm_4 _ (List.mem_of_getElem? (i := 20) rfl)) (vm_4 _ (List.mem_of_getElem? (i := 12) rfl))) rfl rfl rfl ⟨rfl, by decide, by decide, by decide +kernel⟩ ⟨Nat.le_of_ble_eq_true rfl, Nat.le_of_ble_eq_true rfl⟩) rfl hl.1 rfl (Nat.le_of_ble_eq_true rfl) dX9_make_30 ⟨Nat.le_of_ble_eq_true rfl, Nat.le_of_ble_eq_true rfl⟩ (fun H locs v σ30 hB hP => ?_)
        obtain ⟨⟨b30, rfl, hb30⟩, rfl⟩ := hP
        refine lv_if_ne (tgt := 46) hx hb dX9_make_33 (by decide) (fun c33 => ?_) (fun c33 => ?_)
        · refine lv_iload_n hx hb dX9_make_46 rfl (lv_at hl 1 rfl) ?_
          refine lv_bipush (v := 108) hx hb dX9_make_47 (by decide) ?_
          refine lv_icmp_ne (tgt := 66) hx hb dX9_make_49 (by decide) (fun c49 => ?_) (fun c49 => ?_)
          · refine lv_aload_n hx hb dX9_make_66 rfl (lv_at hl 0 rfl) ?_
            refine gf_X9_81 F hB dX9_make_67 LX.1 ?_
            refine lv_bipush (v := 16) hx hb dX9_make_70 (by decide) ?_
            refine lv_icmp_lt (tgt := 85) hx hb dX9_make_72 (by decide) (fun c72 => ?_) (fun c72 => ?_)
            · refine lv_aload_n hx hb dX9_make_85 rfl (lv_at hl 0 rfl) ?_
              have h72 := i_lt c72
              have hk30 := sgb_t hb30 c33
              have hcn := VT_in (ci := 14) (k := 1) (t := 0) (lo := 1) (hi := 16) hV.1 LX.1 (by decide) rfl (by decide) (by decide +kernel)
              have e99 : (99 : Int32).toInt = 99 := rfl
              have hj : (sgI σ (yX Y) 1).toInt.toNat < 16 := by omega
              have hu : sgI σ (yd Y (sgI σ (yX Y) 1).toInt.toNat) 7 = 117 := hI.1.2.2.2.2.1 _ hj (by omega)
              have tg := (Ld _ hj).1
              have xd : ¬ yX Y = (yd Y (sgI σ (yX Y) 1).toInt.toNat) := fun z => by have q := tg; rw [← z, LX.1] at q; exact absurd q (by decide)
              have hq1 : (sgI σ (yX Y) 1 + 1).toInt = (sgI σ (yX Y) 1).toInt + 1 := by rw [i_add (by rw [e1]; omega) (by rw [e1]; omega), e1]
              refine gr_X9_11 F hB dX9_make_86 LX.1 LX.2.1 ?_
              refine lv_aload_n hx hb dX9_make_89 rfl (lv_at hl 0 rfl) ?_
              refine gf_X9_81 F hB dX9_make_90 LX.1 ?_
              refine sg_aald 4 hx hb F.2.1 hB.1 rfl rfl dX9_make_93 LD.1 (by omega) (by rw [LD.2.1]; omega) (by rw [LD.2.1]; decide) ?_
              rw [show sgR _ _ _ = some _ from LD.2.2 _ hj]
              refine lv_astore (lv' := [(6, .ref _), (0, .ref _), (1, .int _), (2, .int _), (3, .int _), (4, .int _), (5, .int _)]) hx hb dX9_make_94 hl (by decide) rfl (fun ls hl => ?_)
              refine lv_aload hx hb dX9_make_96 (lv_at hl 0 rfl) ?_
              refine lv_iload_n hx hb dX9_make_98 rfl (lv_at hl 2 rfl) ?_
              refine pf_X9_106 F hB dX9_make_99 tg hsp (fun H locs hBn => ?_)
              clear hB; have hB := hBn; clear hBn
              have hI9 := si_of hB.2 (SI_PI (k := 1) hV9 hI9 (t := 7) tg rfl (by decide))
              have hV9 := hB.2
              refine lv_aload hx hb dX9_make_102 (lv_at hl 0 rfl) ?_
              refine lv_iload_n hx hb dX9_make_104 rfl (lv_at hl 2 rfl) ?_
              refine pf_X9_109 F hB dX9_make_105 tg hsp (fun H locs hBn => ?_)
              clear hB; have hB := hBn; clear hBn
              have hI9 := si_of hB.2 (SI_ru hV9 hI9 hj ((c_nk (by decide)).trans hu))
              have hV9 := hB.2
              refine lv_aload hx hb dX9_make_108 (lv_at hl 0 rfl) ?_
              refine lv_iload_n hx hb dX9_make_110 rfl (lv_at hl 3 rfl) ?_
              refine pf_X9_67 F hB dX9_make_111 tg (fun H locs hBn => ?_)
              clear hB; have hB := hBn; clear hBn
              have hI9 := si_of hB.2 (SI_PI (k := 2) hV9 hI9 (t := 7) tg rfl (by decide))
              have hV9 := hB.2
              refine lv_aload hx hb dX9_make_114 (lv_at hl 0 rfl) ?_
              refine lv_iload_n hx hb dX9_make_116 rfl (lv_at hl 4 rfl) ?_
              refine pf_X9_112 F hB dX9_make_117 tg (fun H locs hBn => ?_)
              clear hB; have hB := hBn; clear hBn
              have hI9 := si_of hB.2 (SI_PI (k := 3) hV9 hI9 (t := 7) tg rfl (by decide))
              have hV9 := hB.2
              refine lv_aload hx hb dX9_make_120 (lv_at hl 0 rfl) ?_
              refine lv_iload_n hx hb dX9_make_122 rfl (lv_at hl 4 rfl) ?_
              refine pf_X9_115 F hB dX9_make_123 tg (fun H locs hBn => ?_)
              clear hB; have hB := hBn; clear hBn
              have hI9 := si_of hB.2 (SI_PI (k := 6) hV9 hI9 (t := 7) tg rfl (by decide))
              have hV9 := hB.2
              refine lv_aload hx hb dX9_make_126 (lv_at hl 0 rfl) ?_
              refine lv_iload hx hb dX9_make_128 (lv_at hl 5 rfl) ?_
              refine pf_X9_70 F hB dX9_make_130 tg hown2 (fun H locs hBn => ?_)
              clear hB; have hB := hBn; clear hBn
              have hI9 := si_of hB.2 (SI_PI (k := 4) hV9 hI9 (t := 7) tg rfl (by decide))
              have hV9 := hB.2
              refine lv_aload hx hb dX9_make_133 (lv_at hl 0 rfl) ?_
              refine lv_iload hx hb dX9_make_135 (lv_at hl 6 rfl) ?_
              refine pf_X9_118 F hB dX9_make_137 tg ⟨by have := hk30.1; omega, by have := hk30.2; omega⟩ (fun H locs hBn => ?_)
              clear hB; have hB := hBn; clear hBn
              have hI9 := si_of hB.2 (SI_PI (k := 5) hV9 hI9 (t := 7) tg rfl (by decide))
              have hV9 := hB.2
              refine lv_aload_n hx hb dX9_make_140 rfl (lv_at hl 1 rfl) ?_
              refine lv_dup hx hb dX9_make_141 rfl ?_
              refine gf_X9_81 F hB dX9_make_142 LX.1 ?_
              rw [sgI_PI, if_neg (fun z => xd z.1), sgI_PI, if_neg (fun z => xd z.1), sgI_PI, if_neg (fun z => xd z.1), sgI_PI, if_neg (fun z => xd z.1), sgI_PI, if_neg (fun z => xd z.1), sgI_PI, if_neg (fun z => xd z.1), sgI_PI, if_neg (fun z => xd z.1)]
              refine lv_iconst (v := 1) hx hb dX9_make_145 (by decide) ?_
              refine lv_iadd hx hb dX9_make_146 ?_
              refine pf_X9_81 F hB dX9_make_147 LX.1 ⟨by rw [hq1]; omega, by rw [hq1]; omega⟩ (fun H locs hBn => ?_)
              clear hB; have hB := hBn; clear hBn
              have hI9 := si_of hB.2 (SI_dc hV9 hI9 (by rw [sgI_PI, if_neg (fun z => xd z.1), sgI_PI, if_neg (fun z => xd z.1), sgI_PI, if_neg (fun z => xd z.1), sgI_PI, if_neg (fun z => xd z.1), sgI_PI, if_neg (fun z => xd z.1), sgI_PI, if_neg (fun z => xd z.1), sgI_PI, if_neg (fun z => xd z.1), hq1]; omega))
              have hV9 := hB.2
              refine lv_aload hx hb dX9_make_150 (lv_at hl 0 rfl) ?_
              refine gf_X9_121 F hB dX9_make_152 tg ?_
              exact cl_iretX (Nat.le_of_ble_eq_true rfl) F hB hrt dX9_make_155 (⟨⟨_, rfl⟩, hI9⟩)
            · exact cl_thr (NC := 1) (vi_throwS (WS := _ :: vWall) (text := "there are 16 devices") (ik := 101) (is := 103) (ic := 105) (X := "java/lang/IllegalStateException") F.1.1 F.1.2.1 hst F.1.2.2.2.2 F.1.2.2.2.1 (by decide) (by decide) hT (by decide) (List.mem_cons_of_mem _ (vm_4 _ (List.mem_of_getElem? (i := 16) rfl))) (List.mem_cons_of_mem _ (vm_4 _ (List.mem_of_getElem? (i := 17) rfl))) (fun w h => List.mem_cons_of_mem _ (vmx_3 w h)) (by decide +kernel) (by decide +kernel) (by decide) F.1.2.2.1 (by decide +kernel) (by decide +kernel) (by decide +kernel) (by decide +kernel) (by decide +kernel) hout F.2.2.2 (Nat.le_of_ble_eq_true rfl) (Nat.le_of_ble_eq_true rfl) ⟨Nat.le_refl _, Nat.le_refl _⟩ (Nat.le_refl _) (fun _ h => h)) hB vi_kept_rf (Nat.le_of_ble_eq_true rfl) (by decide) hl.1
          · refine lv_iload_n hx hb dX9_make_52 rfl (lv_at hl 2 rfl) ?_
            refine lv_if_le (tgt := 66) hx hb dX9_make_53 (by decide) (fun c53 => ?_) (fun c53 => ?_)
            · refine lv_aload_n hx hb dX9_make_66 rfl (lv_at hl 0 rfl) ?_
              refine gf_X9_81 F hB dX9_make_67 LX.1 ?_
              refine lv_bipush (v := 16) hx hb dX9_make_70 (by decide) ?_
              refine lv_icmp_lt (tgt := 85) hx hb dX9_make_72 (by decide) (fun c72 => ?_) (fun c72 => ?_)
              · refine lv_aload_n hx hb dX9_make_85 rfl (lv_at hl 0 rfl) ?_
                have h72 := i_lt c72
                have hk30 := sgb_t hb30 c33
                have hcn := VT_in (ci := 14) (k := 1) (t := 0) (lo := 1) (hi := 16) hV.1 LX.1 (by decide) rfl (by decide) (by decide +kernel)
                have e99 : (99 : Int32).toInt = 99 := rfl
                have hj : (sgI σ (yX Y) 1).toInt.toNat < 16 := by omega
                have hu : sgI σ (yd Y (sgI σ (yX Y) 1).toInt.toNat) 7 = 117 := hI.1.2.2.2.2.1 _ hj (by omega)
                have tg := (Ld _ hj).1
                have xd : ¬ yX Y = (yd Y (sgI σ (yX Y) 1).toInt.toNat) := fun z => by have q := tg; rw [← z, LX.1] at q; exact absurd q (by decide)
                have hq1 : (sgI σ (yX Y) 1 + 1).toInt = (sgI σ (yX Y) 1).toInt + 1 := by rw [i_add (by rw [e1]; omega) (by rw [e1]; omega), e1]
                refine gr_X9_11 F hB dX9_make_86 LX.1 LX.2.1 ?_
                refine lv_aload_n hx hb dX9_make_89 rfl (lv_at hl 0 rfl) ?_
                refine gf_X9_81 F hB dX9_make_90 LX.1 ?_
                refine sg_aald 4 hx hb F.2.1 hB.1 rfl rfl dX9_make_93 LD.1 (by omega) (by rw [LD.2.1]; omega) (by rw [LD.2.1]; decide) ?_
                rw [show sgR _ _ _ = some _ from LD.2.2 _ hj]
                refine lv_astore (lv' := [(6, .ref _), (0, .ref _), (1, .int _), (2, .int _), (3, .int _), (4, .int _), (5, .int _)]) hx hb dX9_make_94 hl (by decide) rfl (fun ls hl => ?_)
                refine lv_aload hx hb dX9_make_96 (lv_at hl 0 rfl) ?_
                refine lv_iload_n hx hb dX9_make_98 rfl (lv_at hl 2 rfl) ?_
                refine pf_X9_106 F hB dX9_make_99 tg hsp (fun H locs hBn => ?_)
                clear hB; have hB := hBn; clear hBn
                have hI9 := si_of hB.2 (SI_PI (k := 1) hV9 hI9 (t := 7) tg rfl (by decide))
                have hV9 := hB.2
                refine lv_aload hx hb dX9_make_102 (lv_at hl 0 rfl) ?_
                refine lv_iload_n hx hb dX9_make_104 rfl (lv_at hl 2 rfl) ?_
                refine pf_X9_109 F hB dX9_make_105 tg hsp (fun H locs hBn => ?_)
                clear hB; have hB := hBn; clear hBn
                have hI9 := si_of hB.2 (SI_ru hV9 hI9 hj ((c_nk (by decide)).trans hu))
                have hV9 := hB.2
                refine lv_aload hx hb dX9_make_108 (lv_at hl 0 rfl) ?_
                refine lv_iload_n hx hb dX9_make_110 rfl (lv_at hl 3 rfl) ?_
                refine pf_X9_67 F hB dX9_make_111 tg (fun H locs hBn => ?_)
                clear hB; have hB := hBn; clear hBn
                have hI9 := si_of hB.2 (SI_PI (k := 2) hV9 hI9 (t := 7) tg rfl (by decide))
                have hV9 := hB.2
                refine lv_aload hx hb dX9_make_114 (lv_at hl 0 rfl) ?_
                refine lv_iload_n hx hb dX9_make_116 rfl (lv_at hl 4 rfl) ?_
                refine pf_X9_112 F hB dX9_make_117 tg (fun H locs hBn => ?_)
                clear hB; have hB := hBn; clear hBn
                have hI9 := si_of hB.2 (SI_PI (k := 3) hV9 hI9 (t := 7) tg rfl (by decide))
                have hV9 := hB.2
                refine lv_aload hx hb dX9_make_120 (lv_at hl 0 rfl) ?_
                refine lv_iload_n hx hb dX9_make_122 rfl (lv_at hl 4 rfl) ?_
                refine pf_X9_115 F hB dX9_make_123 tg (fun H locs hBn => ?_)
                clear hB; have hB := hBn; clear hBn
                have hI9 := si_of hB.2 (SI_PI (k := 6) hV9 hI9 (t := 7) tg rfl (by decide))
                have hV9 := hB.2
                refine lv_aload hx hb dX9_make_126 (lv_at hl 0 rfl) ?_
                refine lv_iload hx hb dX9_make_128 (lv_at hl 5 rfl) ?_
                refine pf_X9_70 F hB dX9_make_130 tg hown2 (fun H locs hBn => ?_)
                clear hB; have hB := hBn; clear hBn
                have hI9 := si_of hB.2 (SI_PI (k := 4) hV9 hI9 (t := 7) tg rfl (by decide))
                have hV9 := hB.2
                refine lv_aload hx hb dX9_make_133 (lv_at hl 0 rfl) ?_
                refine lv_iload hx hb dX9_make_135 (lv_at hl 6 rfl) ?_
                refine pf_X9_118 F hB dX9_make_137 tg ⟨by have := hk30.1; omega, by have := hk30.2; omega⟩ (fun H locs hBn => ?_)
                clear hB; have hB := hBn; clear hBn
                have hI9 := si_of hB.2 (SI_PI (k := 5) hV9 hI9 (t := 7) tg rfl (by decide))
                have hV9 := hB.2
                refine lv_aload_n hx hb dX9_make_140 rfl (lv_at hl 1 rfl) ?_
                refine lv_dup hx hb dX9_make_141 rfl ?_
                refine gf_X9_81 F hB dX9_make_142 LX.1 ?_
                rw [sgI_PI, if_neg (fun z => xd z.1), sgI_PI, if_neg (fun z => xd z.1), sgI_PI, if_neg (fun z => xd z.1), sgI_PI, if_neg (fun z => xd z.1), sgI_PI, if_neg (fun z => xd z.1), sgI_PI, if_neg (fun z => xd z.1), sgI_PI, if_neg (fun z => xd z.1)]
                refine lv_iconst (v := 1) hx hb dX9_make_145 (by decide) ?_
                refine lv_iadd hx hb dX9_make_146 ?_
                refine pf_X9_81 F hB dX9_make_147 LX.1 ⟨by rw [hq1]; omega, by rw [hq1]; omega⟩ (fun H locs hBn => ?_)
                clear hB; have hB := hBn; clear hBn
                have hI9 := si_of hB.2 (SI_dc hV9 hI9 (by rw [sgI_PI, if_neg (fun z => xd z.1), sgI_PI, if_neg (fun z => xd z.1), sgI_PI, if_neg (fun z => xd z.1), sgI_PI, if_neg (fun z => xd z.1), sgI_PI, if_neg (fun z => xd z.1), sgI_PI, if_neg (fun z => xd z.1), sgI_PI, if_neg (fun z => xd z.1), hq1]; omega))
                have hV9 := hB.2
                refine lv_aload hx hb dX9_make_150 (lv_at hl 0 rfl) ?_
                refine gf_X9_121 F hB dX9_make_152 tg ?_
                exact cl_iretX (Nat.le_of_ble_eq_true rfl) F hB hrt dX9_make_155 (⟨⟨_, rfl⟩, hI9⟩)
              · exact cl_thr (NC := 1) (vi_throwS (WS := _ :: vWall) (text := "there are 16 devices") (ik := 101) (is := 103) (ic := 105) (X := "java/lang/IllegalStateException") F.1.1 F.1.2.1 hst F.1.2.2.2.2 F.1.2.2.2.1 (by decide) (by decide) hT (by decide) (List.mem_cons_of_mem _ (vm_4 _ (List.mem_of_getElem? (i := 16) rfl))) (List.mem_cons_of_mem _ (vm_4 _ (List.mem_of_getElem? (i := 17) rfl))) (fun w h => List.mem_cons_of_mem _ (vmx_3 w h)) (by decide +kernel) (by decide +kernel) (by decide) F.1.2.2.1 (by decide +kernel) (by decide +kernel) (by decide +kernel) (by decide +kernel) (by decide +kernel) hout F.2.2.2 (Nat.le_of_ble_eq_true rfl) (Nat.le_of_ble_eq_true rfl) ⟨Nat.le_refl _, Nat.le_refl _⟩ (Nat.le_refl _) (fun _ h => h)) hB vi_kept_rf (Nat.le_of_ble_eq_true rfl) (by decide) hl.1
            · exact cl_thr (NC := 1) (vi_throwS (WS := _ :: vWall) (text := "a hub is not low") (ik := 92) (is := 99) (ic := 96) (X := "java/lang/IllegalArgumentException") F.1.1 F.1.2.1 hst F.1.2.2.2.2 F.1.2.2.2.1 (by decide) (by decide) hT (by decide) (List.mem_cons_of_mem _ (vm_4 _ (List.mem_of_getElem? (i := 14) rfl))) (List.mem_cons_of_mem _ (vm_4 _ (List.mem_of_getElem? (i := 15) rfl))) (fun w h => List.mem_cons_of_mem _ (vmx_2 w h)) (by decide +kernel) (by decide +kernel) (by decide) F.1.2.2.1 (by decide +kernel) (by decide +kernel) (by decide +kernel) (by decide +kernel) (by decide +kernel) hout F.2.2.2 (Nat.le_of_ble_eq_true rfl) (Nat.le_of_ble_eq_true rfl) ⟨Nat.le_refl _, Nat.le_refl _⟩ (Nat.le_refl _) (fun _ h => h)) hB vi_kept_rf (Nat.le_of_ble_eq_true rfl) (by decide) hl.1
        · exact cl_thr (NC := 1) (vi_throwS (WS := _ :: vWall) (text := "no such device can be made") (ik := 92) (is := 94) (ic := 96) (X := "java/lang/IllegalArgumentException") F.1.1 F.1.2.1 hst F.1.2.2.2.2 F.1.2.2.2.1 (by decide) (by decide) hT (by decide) (List.mem_cons_of_mem _ (vm_4 _ (List.mem_of_getElem? (i := 14) rfl))) (List.mem_cons_of_mem _ (vm_4 _ (List.mem_of_getElem? (i := 15) rfl))) (fun w h => List.mem_cons_of_mem _ (vmx_2 w h)) (by decide +kernel) (by decide +kernel) (by decide) F.1.2.2.1 (by decide +kernel) (by decide +kernel) (by decide +kernel) (by decide +kernel) (by decide +kernel) hout F.2.2.2 (Nat.le_of_ble_eq_true rfl) (Nat.le_of_ble_eq_true rfl) ⟨Nat.le_refl _, Nat.le_refl _⟩ (Nat.le_refl _) (fun _ h => h)) hB vi_kept_rf (Nat.le_of_ble_eq_true rfl) (by decide) hl.1

theorem dX9_endpoint_0 : decode cX9_endpoint 0 = .ok (.aload_n 0, 1) := by decide +kernel
theorem dX9_endpoint_1 : decode cX9_endpoint 1 = .ok (.iload_n 1, 1) := by decide +kernel
theorem dX9_endpoint_2 : decode cX9_endpoint 2 = .ok (.invokevirtual 124, 3) := by decide +kernel
theorem dX9_endpoint_5 : decode cX9_endpoint 5 = .ok (.astore 5, 2) := by decide +kernel
theorem dX9_endpoint_7 : decode cX9_endpoint 7 = .ok (.iload_n 2, 1) := by decide +kernel
theorem dX9_endpoint_8 : decode cX9_endpoint 8 = .ok (.iconst 1, 1) := by decide +kernel
theorem dX9_endpoint_9 : decode cX9_endpoint 9 = .ok (.iconst 3, 1) := by decide +kernel
theorem dX9_endpoint_10 : decode cX9_endpoint 10 = .ok (.invokestatic 88, 3) := by decide +kernel
theorem dX9_endpoint_13 : decode cX9_endpoint 13 = .ok (.ifCond .eq 14, 3) := by decide +kernel
theorem dX9_endpoint_16 : decode cX9_endpoint 16 = .ok (.iload 4, 2) := by decide +kernel
theorem dX9_endpoint_18 : decode cX9_endpoint 18 = .ok (.iconst 1, 1) := by decide +kernel
theorem dX9_endpoint_19 : decode cX9_endpoint 19 = .ok (.bipush 8, 2) := by decide +kernel
theorem dX9_endpoint_21 : decode cX9_endpoint 21 = .ok (.invokestatic 88, 3) := by decide +kernel
theorem dX9_endpoint_24 : decode cX9_endpoint 24 = .ok (.ifCond .ne 13, 3) := by decide +kernel
theorem dX9_endpoint_27 : decode cX9_endpoint 27 = .ok (.new 92, 3) := by decide +kernel
theorem dX9_endpoint_37 : decode cX9_endpoint 37 = .ok (.aload 5, 2) := by decide +kernel
theorem dX9_endpoint_39 : decode cX9_endpoint 39 = .ok (.getfield 130, 3) := by decide +kernel
theorem dX9_endpoint_42 : decode cX9_endpoint 42 = .ok (.iload_n 2, 1) := by decide +kernel
theorem dX9_endpoint_43 : decode cX9_endpoint 43 = .ok (.iconst 1, 1) := by decide +kernel
theorem dX9_endpoint_44 : decode cX9_endpoint 44 = .ok (.isub, 1) := by decide +kernel
theorem dX9_endpoint_45 : decode cX9_endpoint 45 = .ok (.aaload, 1) := by decide +kernel
theorem dX9_endpoint_46 : decode cX9_endpoint 46 = .ok (.astore 6, 2) := by decide +kernel
theorem dX9_endpoint_48 : decode cX9_endpoint 48 = .ok (.aload 6, 2) := by decide +kernel
theorem dX9_endpoint_50 : decode cX9_endpoint 50 = .ok (.getfield 134, 3) := by decide +kernel
theorem dX9_endpoint_53 : decode cX9_endpoint 53 = .ok (.ifCond .ne 13, 3) := by decide +kernel
theorem dX9_endpoint_56 : decode cX9_endpoint 56 = .ok (.aload 5, 2) := by decide +kernel
theorem dX9_endpoint_58 : decode cX9_endpoint 58 = .ok (.getfield 74, 3) := by decide +kernel
theorem dX9_endpoint_61 : decode cX9_endpoint 61 = .ok (.bipush 117, 2) := by decide +kernel
theorem dX9_endpoint_63 : decode cX9_endpoint 63 = .ok (.if_icmp .eq 13, 3) := by decide +kernel
theorem dX9_endpoint_66 : decode cX9_endpoint 66 = .ok (.new 139, 3) := by decide +kernel
theorem dX9_endpoint_76 : decode cX9_endpoint 76 = .ok (.aload 6, 2) := by decide +kernel
theorem dX9_endpoint_78 : decode cX9_endpoint 78 = .ok (.iconst 1, 1) := by decide +kernel
theorem dX9_endpoint_79 : decode cX9_endpoint 79 = .ok (.putfield 134, 3) := by decide +kernel
theorem dX9_endpoint_82 : decode cX9_endpoint 82 = .ok (.aload 6, 2) := by decide +kernel
theorem dX9_endpoint_84 : decode cX9_endpoint 84 = .ok (.iload_n 3, 1) := by decide +kernel
theorem dX9_endpoint_85 : decode cX9_endpoint 85 = .ok (.putfield 144, 3) := by decide +kernel
theorem dX9_endpoint_88 : decode cX9_endpoint 88 = .ok (.aload 6, 2) := by decide +kernel
theorem dX9_endpoint_90 : decode cX9_endpoint 90 = .ok (.iload 4, 2) := by decide +kernel
theorem dX9_endpoint_92 : decode cX9_endpoint 92 = .ok (.putfield 147, 3) := by decide +kernel
theorem dX9_endpoint_95 : decode cX9_endpoint 95 = .ok (.aload 5, 2) := by decide +kernel
theorem dX9_endpoint_97 : decode cX9_endpoint 97 = .ok (.invokevirtual 150, 3) := by decide +kernel
theorem dX9_endpoint_100 : decode cX9_endpoint 100 = .ok (.ireturn, 1) := by decide +kernel
set_option maxRecDepth 100000 in
set_option maxHeartbeats 4000000 in
theorem k_endp (l : Launch) (D : va_G) (cy : Nat → ClassId) {ad τ : List Nat} {Y : CY} {σ : SG} (hst : l.stackTraces = false) (hs : vi_s1 vSG τ) (hV : VL cy ad τ Y σ) {B : Int} (hI : SI Y σ B) (x1 x2 x3 x4 : Int32) (hin2 : sgF 2 x3) (sz : Nat) : clX l D cy ad τ Y σ sz yX9_endpoint (Cond.code yX9_endpoint cX9_endpoint 7 (some .int) :: vWall) 7 111 2 [.ref (yX Y), .int x1, .int x2, .int x3, .int x4] (fun v s2 => (∃ x : Int32, v = some (.int x)) ∧ SI Y s2 B) ["java/lang/IllegalArgumentException", "java/lang/UnsupportedOperationException", "java/lang/IndexOutOfBoundsException"] := by
  refine cl_ofX (cc := cX9_endpoint) (maxL := 7) (ret := (some .int)) hV (by decide) rfl (Nat.le_of_ble_eq_true rfl) (lv := [(0, .ref (yX Y)), (1, .int x1), (2, .int x2), (3, .int x3), (4, .int x4)]) rfl (fun p e s m below meth c ls H hrt F hT hout hB hl => ?_) sz
  have hx := F.1.1
  have hb := F.1.2.1
  have hown := F.1.2.2.2.1
  generalize hlo : ([] : List Loc) = locs at hB ⊢
  clear hlo
  obtain ⟨LX, LD, Ld, LE, Le, LP9, Lp, Lt, LU, LA, Lz⟩ := hV.2
  have e0 : (0 : Int32).toInt = 0 := rfl
  have e1 : (1 : Int32).toInt = 1 := rfl
  have e16 : (16 : Int32).toInt = 16 := rfl
  have e12 : (12 : Int32).toInt = 12 := rfl
  refine lv_aload_n hx hb dX9_endpoint_0 rfl (lv_at hl 0 rfl) ?_
  refine lv_iload_n hx hb dX9_endpoint_1 rfl (lv_at hl 1 rfl) ?_
  refine cl_callXV (ci := 14) F hT hout hB vi_kept_rf (k_devAt l D cy hst hB.2 _ _) (cwV 1 F.1.2.2.2.2 (vgV (vm_4 _ (List.mem_of_getElem? (i := 29) rfl)) (vm_4 _ (List.mem_of_getElem? (i := 30) rfl)) (vm_4 _ (List.mem_of_getElem? (i := 31) rfl)) (vm_4 _ (List.mem_of_getElem? (i := 20) rfl)) (vm_4 _ (List.mem_of_getElem? (i := 23) rfl))) rfl rfl rfl ⟨rfl, by decide, by decide, by decide +kernel⟩ ⟨Nat.le_of_ble_eq_true rfl, Nat.le_of_ble_eq_true rfl⟩) rfl rfl (by decide) rfl hl.1 rfl (Nat.le_of_ble_eq_true rfl) dX9_endpoint_2 ⟨Nat.le_of_ble_eq_true rfl, Nat.le_of_ble_eq_true rfl⟩ (by decide) (Nat.le_of_ble_eq_true rfl) LX.1 (fun H locs v σ2 hB hP => ?_)
  obtain ⟨⟨i2, hi2, ex2, hc2, rfl⟩, rfl⟩ := hP
  refine lv_astore (lv' := [(5, .ref _), (0, .ref _), (1, .int _), (2, .int _), (3, .int _), (4, .int _)]) hx hb dX9_endpoint_5 hl (by decide) rfl (fun ls hl => ?_)
  refine lv_iload_n hx hb dX9_endpoint_7 rfl (lv_at hl 3 rfl) ?_
  refine lv_iconst (v := 1) hx hb dX9_endpoint_8 (by decide) ?_
  refine lv_iconst (v := 3) hx hb dX9_endpoint_9 (by decide) ?_
  refine cl_callS F hB (k_within l D cy hB.2 _ _ _ _) (cwS 3 F.1.2.2.2.2 (vgS (vm_4 _ (List.mem_of_getElem? (i := 21) rfl)) (vm_4 _ (List.mem_of_getElem? (i := 22) rfl)) (vm_4 _ (List.mem_of_getElem? (i := 20) rfl)) (vm_4 _ (List.mem_of_getElem? (i := 12) rfl))) rfl rfl rfl ⟨rfl, by decide, by decide, by decide +kernel⟩ ⟨Nat.le_of_ble_eq_true rfl, Nat.le_of_ble_eq_true rfl⟩) rfl hl.1 rfl (Nat.le_of_ble_eq_true rfl) dX9_endpoint_10 ⟨Nat.le_of_ble_eq_true rfl, Nat.le_of_ble_eq_true rfl⟩ (fun H locs v σ10 hB hP => ?_)
  obtain ⟨⟨b10, rfl, hb10⟩, rfl⟩ := hP
  refine lv_if_eq (tgt := 27) hx hb dX9_endpoint_13 (by decide) (fun c13 => ?_) (fun c13 => ?_)
  · exact cl_thr (NC := 2) (vi_throwS (WS := _ :: vWall) (text := "no such endpoint can be made") (ik := 92) (is := 128) (ic := 96) (X := "java/lang/IllegalArgumentException") F.1.1 F.1.2.1 hst F.1.2.2.2.2 F.1.2.2.2.1 (by decide) (by decide) hT (by decide) (List.mem_cons_of_mem _ (vm_4 _ (List.mem_of_getElem? (i := 14) rfl))) (List.mem_cons_of_mem _ (vm_4 _ (List.mem_of_getElem? (i := 15) rfl))) (fun w h => List.mem_cons_of_mem _ (vmx_2 w h)) (by decide +kernel) (by decide +kernel) (by decide) F.1.2.2.1 (by decide +kernel) (by decide +kernel) (by decide +kernel) (by decide +kernel) (by decide +kernel) hout F.2.2.2 (Nat.le_of_ble_eq_true rfl) (Nat.le_of_ble_eq_true rfl) ⟨Nat.le_refl _, Nat.le_refl _⟩ (Nat.le_refl _) (fun _ h => h)) hB vi_kept_rf (Nat.le_of_ble_eq_true rfl) (by decide) hl.1
  · refine lv_iload hx hb dX9_endpoint_16 (lv_at hl 5 rfl) ?_
    refine lv_iconst (v := 1) hx hb dX9_endpoint_18 (by decide) ?_
    refine lv_bipush (v := 8) hx hb dX9_endpoint_19 (by decide) ?_
    refine cl_callS F hB (k_within l D cy hB.2 _ _ _ _) (cwS 3 F.1.2.2.2.2 (vgS (vm_4 _ (List.mem_of_getElem? (i := 21) rfl)) (vm_4 _ (List.mem_of_getElem? (i := 22) rfl)) (vm_4 _ (List.mem_of_getElem? (i := 20) rfl)) (vm_4 _ (List.mem_of_getElem? (i := 12) rfl))) rfl rfl rfl ⟨rfl, by decide, by decide, by decide +kernel⟩ ⟨Nat.le_of_ble_eq_true rfl, Nat.le_of_ble_eq_true rfl⟩) rfl hl.1 rfl (Nat.le_of_ble_eq_true rfl) dX9_endpoint_21 ⟨Nat.le_of_ble_eq_true rfl, Nat.le_of_ble_eq_true rfl⟩ (fun H locs v σ21 hB hP => ?_)
    obtain ⟨⟨b21, rfl, hb21⟩, rfl⟩ := hP
    refine lv_if_ne (tgt := 37) hx hb dX9_endpoint_24 (by decide) (fun c24 => ?_) (fun c24 => ?_)
    · refine lv_aload hx hb dX9_endpoint_37 (lv_at hl 0 rfl) ?_
      have h13 := sgb_t hb10 c13
      have h24 := sgb_t hb21 c24
      have e3 : (3 : Int32).toInt = 3 := rfl
      have e8 : (8 : Int32).toInt = 8 := rfl
      have h9 : (x2 - 1).toInt = x2.toInt - 1 := by rw [i_sub (by rw [e1]; omega) (by rw [e1]; omega), e1]
      have hj : (x2 - 1).toInt.toNat < 3 := by rw [h9]; omega
      refine gr_X9_130 F hB dX9_endpoint_39 (Ld _ hi2).1 (Ld _ hi2).2.2 ?_
      refine lv_iload_n hx hb dX9_endpoint_42 rfl (lv_at hl 3 rfl) ?_
      refine lv_iconst (v := 1) hx hb dX9_endpoint_43 (by decide) ?_
      refine lv_isub hx hb dX9_endpoint_44 ?_
      refine sg_aald 5 hx hb F.2.1 hB.1 rfl rfl dX9_endpoint_45 (LE _ hi2).1 (by rw [h9]; omega) (by rw [(LE _ hi2).2.1, h9]; omega) (by rw [(LE _ hi2).2.1]; decide) ?_
      rw [show sgR _ _ _ = some _ from (LE _ hi2).2.2 _ hj]
      refine lv_astore (lv' := [(6, .ref _), (5, .ref _), (0, .ref _), (1, .int _), (2, .int _), (3, .int _), (4, .int _)]) hx hb dX9_endpoint_46 hl (by decide) rfl (fun ls hl => ?_)
      refine lv_aload hx hb dX9_endpoint_48 (lv_at hl 0 rfl) ?_
      refine gf_X9_134 F hB dX9_endpoint_50 (Le _ _ hi2 hj).1 ?_
      refine lv_if_ne (tgt := 66) hx hb dX9_endpoint_53 (by decide) (fun c53 => ?_) (fun c53 => ?_)
      · exact cl_thr (NC := 2) (vi_throwS (WS := _ :: vWall) (text := "the device has it, or is plugged") (ik := 139) (is := 141) (ic := 143) (X := "java/lang/UnsupportedOperationException") F.1.1 F.1.2.1 hst F.1.2.2.2.2 F.1.2.2.2.1 (by decide) (by decide) hT (by decide) (List.mem_cons_of_mem _ (vm_4 _ (List.mem_of_getElem? (i := 27) rfl))) (List.mem_cons_of_mem _ (vm_4 _ (List.mem_of_getElem? (i := 28) rfl))) (fun w h => List.mem_cons_of_mem _ (vmx_1 w h)) (by decide +kernel) (by decide +kernel) (by decide) F.1.2.2.1 (by decide +kernel) (by decide +kernel) (by decide +kernel) (by decide +kernel) (by decide +kernel) hout F.2.2.2 (Nat.le_of_ble_eq_true rfl) (Nat.le_of_ble_eq_true rfl) ⟨Nat.le_refl _, Nat.le_refl _⟩ (Nat.le_refl _) (fun _ h => h)) hB vi_kept_rf (Nat.le_of_ble_eq_true rfl) (by decide) hl.1
      · refine lv_aload hx hb dX9_endpoint_56 (lv_at hl 1 rfl) ?_
        refine gf_X9_74 F hB dX9_endpoint_58 (Ld _ hi2).1 ?_
        refine lv_bipush (v := 117) hx hb dX9_endpoint_61 (by decide) ?_
        refine lv_icmp_eq (tgt := 76) hx hb dX9_endpoint_63 (by decide) (fun c63 => ?_) (fun c63 => ?_)
        · refine lv_aload hx hb dX9_endpoint_76 (lv_at hl 0 rfl) ?_
          refine lv_iconst (v := 1) hx hb dX9_endpoint_78 (by decide) ?_
          refine pf_X9_134 F hB dX9_endpoint_79 (Le _ _ hi2 hj).1 ⟨by decide, by decide⟩ (fun H locs hBn => ?_)
          clear hB; have hB := hBn; clear hBn
          refine lv_aload hx hb dX9_endpoint_82 (lv_at hl 0 rfl) ?_
          refine lv_iload_n hx hb dX9_endpoint_84 rfl (lv_at hl 5 rfl) ?_
          refine pf_X9_144 F hB dX9_endpoint_85 (Le _ _ hi2 hj).1 hin2 (fun H locs hBn => ?_)
          clear hB; have hB := hBn; clear hBn
          refine lv_aload hx hb dX9_endpoint_88 (lv_at hl 0 rfl) ?_
          refine lv_iload hx hb dX9_endpoint_90 (lv_at hl 6 rfl) ?_
          refine pf_X9_147 F hB dX9_endpoint_92 (Le _ _ hi2 hj).1 ⟨by omega, by omega⟩ (fun H locs hBn => ?_)
          clear hB; have hB := hBn; clear hBn
          refine lv_aload hx hb dX9_endpoint_95 (lv_at hl 1 rfl) ?_
          refine cl_callN (ci := 6) F hB (k_cntE l D cy hB.2 hi2 _) ⟨va_cnB 0 F.1.2.2.2.2 (vgN (vm_1 _ (List.mem_of_getElem? (i := 7) rfl))) rfl rfl rfl (F.2.2.1.1 _ nf_142) (F.1.2.2.2.2 _ (List.mem_cons_of_mem _ (vm_4 _ (List.mem_of_getElem? (i := 2) rfl)))) ⟨by decide, by decide, by decide +kernel⟩ ⟨Nat.le_of_ble_eq_true rfl, Nat.le_of_ble_eq_true rfl⟩, F.1.2.2.2.2 _ (List.mem_cons_of_mem _ (vm_4 _ (List.mem_of_getElem? (i := 32) rfl))), F.1.2.2.2.2 _ (List.mem_cons_of_mem _ (vm_4 _ (List.mem_of_getElem? (i := 33) rfl)))⟩ rfl rfl (by decide) rfl hl.1 rfl (Nat.le_of_ble_eq_true rfl) dX9_endpoint_97 ⟨Nat.le_of_ble_eq_true rfl, Nat.le_of_ble_eq_true rfl⟩ (Ld _ hi2).1 (fun H locs v σ97 hB hP => ?_)
          obtain ⟨⟨b97, rfl⟩, rfl⟩ := hP
          exact cl_iretX (Nat.le_of_ble_eq_true rfl) F hB hrt dX9_endpoint_100 (⟨⟨_, rfl⟩, SI_ep hV hI hi2 hj c63 c53⟩)
        · exact cl_thr (NC := 2) (vi_throwS (WS := _ :: vWall) (text := "the device has it, or is plugged") (ik := 139) (is := 141) (ic := 143) (X := "java/lang/UnsupportedOperationException") F.1.1 F.1.2.1 hst F.1.2.2.2.2 F.1.2.2.2.1 (by decide) (by decide) hT (by decide) (List.mem_cons_of_mem _ (vm_4 _ (List.mem_of_getElem? (i := 27) rfl))) (List.mem_cons_of_mem _ (vm_4 _ (List.mem_of_getElem? (i := 28) rfl))) (fun w h => List.mem_cons_of_mem _ (vmx_1 w h)) (by decide +kernel) (by decide +kernel) (by decide) F.1.2.2.1 (by decide +kernel) (by decide +kernel) (by decide +kernel) (by decide +kernel) (by decide +kernel) hout F.2.2.2 (Nat.le_of_ble_eq_true rfl) (Nat.le_of_ble_eq_true rfl) ⟨Nat.le_refl _, Nat.le_refl _⟩ (Nat.le_refl _) (fun _ h => h)) hB vi_kept_rf (Nat.le_of_ble_eq_true rfl) (by decide) hl.1
    · exact cl_thr (NC := 2) (vi_throwS (WS := _ :: vWall) (text := "no such endpoint can be made") (ik := 92) (is := 128) (ic := 96) (X := "java/lang/IllegalArgumentException") F.1.1 F.1.2.1 hst F.1.2.2.2.2 F.1.2.2.2.1 (by decide) (by decide) hT (by decide) (List.mem_cons_of_mem _ (vm_4 _ (List.mem_of_getElem? (i := 14) rfl))) (List.mem_cons_of_mem _ (vm_4 _ (List.mem_of_getElem? (i := 15) rfl))) (fun w h => List.mem_cons_of_mem _ (vmx_2 w h)) (by decide +kernel) (by decide +kernel) (by decide) F.1.2.2.1 (by decide +kernel) (by decide +kernel) (by decide +kernel) (by decide +kernel) (by decide +kernel) hout F.2.2.2 (Nat.le_of_ble_eq_true rfl) (Nat.le_of_ble_eq_true rfl) ⟨Nat.le_refl _, Nat.le_refl _⟩ (Nat.le_refl _) (fun _ h => h)) hB vi_kept_rf (Nat.le_of_ble_eq_true rfl) (by decide) hl.1

theorem dX9_plug_0 : decode cX9_plug 0 = .ok (.aload_n 0, 1) := by decide +kernel
theorem dX9_plug_1 : decode cX9_plug 1 = .ok (.iload_n 1, 1) := by decide +kernel
theorem dX9_plug_2 : decode cX9_plug 2 = .ok (.invokevirtual 124, 3) := by decide +kernel
theorem dX9_plug_5 : decode cX9_plug 5 = .ok (.astore 4, 2) := by decide +kernel
theorem dX9_plug_7 : decode cX9_plug 7 = .ok (.aload_n 0, 1) := by decide +kernel
theorem dX9_plug_8 : decode cX9_plug 8 = .ok (.iload_n 2, 1) := by decide +kernel
theorem dX9_plug_9 : decode cX9_plug 9 = .ok (.invokevirtual 124, 3) := by decide +kernel
theorem dX9_plug_12 : decode cX9_plug 12 = .ok (.astore 5, 2) := by decide +kernel
theorem dX9_plug_14 : decode cX9_plug 14 = .ok (.iload_n 3, 1) := by decide +kernel
theorem dX9_plug_15 : decode cX9_plug 15 = .ok (.ifCond .lt 12, 3) := by decide +kernel
theorem dX9_plug_18 : decode cX9_plug 18 = .ok (.iload_n 3, 1) := by decide +kernel
theorem dX9_plug_19 : decode cX9_plug 19 = .ok (.aload 5, 2) := by decide +kernel
theorem dX9_plug_21 : decode cX9_plug 21 = .ok (.getfield 67, 3) := by decide +kernel
theorem dX9_plug_24 : decode cX9_plug 24 = .ok (.if_icmp .lt 13, 3) := by decide +kernel
theorem dX9_plug_27 : decode cX9_plug 27 = .ok (.new 154, 3) := by decide +kernel
theorem dX9_plug_37 : decode cX9_plug 37 = .ok (.aload 4, 2) := by decide +kernel
theorem dX9_plug_39 : decode cX9_plug 39 = .ok (.getfield 74, 3) := by decide +kernel
theorem dX9_plug_42 : decode cX9_plug 42 = .ok (.bipush 117, 2) := by decide +kernel
theorem dX9_plug_44 : decode cX9_plug 44 = .ok (.if_icmp .ne 21, 3) := by decide +kernel
theorem dX9_plug_47 : decode cX9_plug 47 = .ok (.aload 5, 2) := by decide +kernel
theorem dX9_plug_49 : decode cX9_plug 49 = .ok (.invokestatic 159, 3) := by decide +kernel
theorem dX9_plug_52 : decode cX9_plug 52 = .ok (.ifCond .eq 13, 3) := by decide +kernel
theorem dX9_plug_55 : decode cX9_plug 55 = .ok (.aload_n 0, 1) := by decide +kernel
theorem dX9_plug_56 : decode cX9_plug 56 = .ok (.aload 5, 2) := by decide +kernel
theorem dX9_plug_58 : decode cX9_plug 58 = .ok (.iload_n 3, 1) := by decide +kernel
theorem dX9_plug_59 : decode cX9_plug 59 = .ok (.invokevirtual 163, 3) := by decide +kernel
theorem dX9_plug_62 : decode cX9_plug 62 = .ok (.ifCond .eq 13, 3) := by decide +kernel
theorem dX9_plug_65 : decode cX9_plug 65 = .ok (.new 139, 3) := by decide +kernel
theorem dX9_plug_75 : decode cX9_plug 75 = .ok (.aload 5, 2) := by decide +kernel
theorem dX9_plug_77 : decode cX9_plug 77 = .ok (.getfield 78, 3) := by decide +kernel
theorem dX9_plug_80 : decode cX9_plug 80 = .ok (.iconst 5, 1) := by decide +kernel
theorem dX9_plug_81 : decode cX9_plug 81 = .ok (.if_icmp .lt 13, 3) := by decide +kernel
theorem dX9_plug_84 : decode cX9_plug 84 = .ok (.new 139, 3) := by decide +kernel
theorem dX9_plug_94 : decode cX9_plug 94 = .ok (.aload 4, 2) := by decide +kernel
theorem dX9_plug_96 : decode cX9_plug 96 = .ok (.bipush 110, 2) := by decide +kernel
theorem dX9_plug_98 : decode cX9_plug 98 = .ok (.putfield 74, 3) := by decide +kernel
theorem dX9_plug_101 : decode cX9_plug 101 = .ok (.aload 4, 2) := by decide +kernel
theorem dX9_plug_103 : decode cX9_plug 103 = .ok (.aload 5, 2) := by decide +kernel
theorem dX9_plug_105 : decode cX9_plug 105 = .ok (.putfield 171, 3) := by decide +kernel
theorem dX9_plug_108 : decode cX9_plug 108 = .ok (.aload 4, 2) := by decide +kernel
theorem dX9_plug_110 : decode cX9_plug 110 = .ok (.iload_n 3, 1) := by decide +kernel
theorem dX9_plug_111 : decode cX9_plug 111 = .ok (.putfield 175, 3) := by decide +kernel
theorem dX9_plug_114 : decode cX9_plug 114 = .ok (.aload 4, 2) := by decide +kernel
theorem dX9_plug_116 : decode cX9_plug 116 = .ok (.aload 5, 2) := by decide +kernel
theorem dX9_plug_118 : decode cX9_plug 118 = .ok (.getfield 78, 3) := by decide +kernel
theorem dX9_plug_121 : decode cX9_plug 121 = .ok (.iconst 1, 1) := by decide +kernel
theorem dX9_plug_122 : decode cX9_plug 122 = .ok (.iadd, 1) := by decide +kernel
theorem dX9_plug_123 : decode cX9_plug 123 = .ok (.putfield 78, 3) := by decide +kernel
theorem dX9_plug_126 : decode cX9_plug 126 = .ok (.aload 4, 2) := by decide +kernel
theorem dX9_plug_128 : decode cX9_plug 128 = .ok (.aload 4, 2) := by decide +kernel
theorem dX9_plug_130 : decode cX9_plug 130 = .ok (.getfield 106, 3) := by decide +kernel
theorem dX9_plug_133 : decode cX9_plug 133 = .ok (.aload 5, 2) := by decide +kernel
theorem dX9_plug_135 : decode cX9_plug 135 = .ok (.getfield 109, 3) := by decide +kernel
theorem dX9_plug_138 : decode cX9_plug 138 = .ok (.invokestatic 178, 3) := by decide +kernel
theorem dX9_plug_141 : decode cX9_plug 141 = .ok (.putfield 109, 3) := by decide +kernel
theorem dX9_plug_144 : decode cX9_plug 144 = .ok (.aload 4, 2) := by decide +kernel
theorem dX9_plug_146 : decode cX9_plug 146 = .ok (.aload 5, 2) := by decide +kernel
theorem dX9_plug_148 : decode cX9_plug 148 = .ok (.getfield 109, 3) := by decide +kernel
theorem dX9_plug_151 : decode cX9_plug 151 = .ok (.bipush 104, 2) := by decide +kernel
theorem dX9_plug_153 : decode cX9_plug 153 = .ok (.if_icmp .ne 11, 3) := by decide +kernel
theorem dX9_plug_156 : decode cX9_plug 156 = .ok (.aload 5, 2) := by decide +kernel
theorem dX9_plug_158 : decode cX9_plug 158 = .ok (.getfield 121, 3) := by decide +kernel
theorem dX9_plug_161 : decode cX9_plug 161 = .ok (.goto 8, 3) := by decide +kernel
theorem dX9_plug_164 : decode cX9_plug 164 = .ok (.aload 5, 2) := by decide +kernel
theorem dX9_plug_166 : decode cX9_plug 166 = .ok (.getfield 182, 3) := by decide +kernel
theorem dX9_plug_169 : decode cX9_plug 169 = .ok (.putfield 182, 3) := by decide +kernel
theorem dX9_plug_172 : decode cX9_plug 172 = .ok (.aload 4, 2) := by decide +kernel
theorem dX9_plug_174 : decode cX9_plug 174 = .ok (.getfield 78, 3) := by decide +kernel
theorem dX9_plug_177 : decode cX9_plug 177 = .ok (.ireturn, 1) := by decide +kernel
set_option maxRecDepth 100000 in
set_option maxHeartbeats 4000000 in
theorem k_plug (l : Launch) (D : va_G) (cy : Nat → ClassId) {ad τ : List Nat} {Y : CY} {σ : SG} (hst : l.stackTraces = false) (hs : vi_s1 vSG τ) (hV : VL cy ad τ Y σ) {B : Int} (hI : SI Y σ B) (x1 x2 x3 : Int32) (sz : Nat) : clX l D cy ad τ Y σ sz yX9_plug (Cond.code yX9_plug cX9_plug 6 (some .int) :: vWall) 7 111 3 [.ref (yX Y), .int x1, .int x2, .int x3] (fun v s2 => (∃ x : Int32, v = some (.int x)) ∧ SI Y s2 B) ["java/lang/IndexOutOfBoundsException", "java/lang/UnsupportedOperationException"] := by
  refine cl_ofX (cc := cX9_plug) (maxL := 6) (ret := (some .int)) hV (by decide) rfl (Nat.le_of_ble_eq_true rfl) (lv := [(0, .ref (yX Y)), (1, .int x1), (2, .int x2), (3, .int x3)]) rfl (fun p e s m below meth c ls H hrt F hT hout hB hl => ?_) sz
  have hx := F.1.1
  have hb := F.1.2.1
  have hown := F.1.2.2.2.1
  generalize hlo : ([] : List Loc) = locs at hB ⊢
  clear hlo
  obtain ⟨LX, LD, Ld, LE, Le, LP9, Lp, Lt, LU, LA, Lz⟩ := hV.2
  have e0 : (0 : Int32).toInt = 0 := rfl
  have e1 : (1 : Int32).toInt = 1 := rfl
  have e16 : (16 : Int32).toInt = 16 := rfl
  have e12 : (12 : Int32).toInt = 12 := rfl
  refine lv_aload_n hx hb dX9_plug_0 rfl (lv_at hl 0 rfl) ?_
  refine lv_iload_n hx hb dX9_plug_1 rfl (lv_at hl 1 rfl) ?_
  refine cl_callXV (ci := 14) F hT hout hB vi_kept_rf (k_devAt l D cy hst hB.2 _ _) (cwV 1 F.1.2.2.2.2 (vgV (vm_4 _ (List.mem_of_getElem? (i := 29) rfl)) (vm_4 _ (List.mem_of_getElem? (i := 30) rfl)) (vm_4 _ (List.mem_of_getElem? (i := 31) rfl)) (vm_4 _ (List.mem_of_getElem? (i := 20) rfl)) (vm_4 _ (List.mem_of_getElem? (i := 23) rfl))) rfl rfl rfl ⟨rfl, by decide, by decide, by decide +kernel⟩ ⟨Nat.le_of_ble_eq_true rfl, Nat.le_of_ble_eq_true rfl⟩) rfl rfl (by decide) rfl hl.1 rfl (Nat.le_of_ble_eq_true rfl) dX9_plug_2 ⟨Nat.le_of_ble_eq_true rfl, Nat.le_of_ble_eq_true rfl⟩ (by decide) (Nat.le_of_ble_eq_true rfl) LX.1 (fun H locs v σ2 hB hP => ?_)
  obtain ⟨⟨i2, hi2, ex2, hc2, rfl⟩, rfl⟩ := hP
  refine lv_astore (lv' := [(4, .ref _), (0, .ref _), (1, .int _), (2, .int _), (3, .int _)]) hx hb dX9_plug_5 hl (by decide) rfl (fun ls hl => ?_)
  refine lv_aload_n hx hb dX9_plug_7 rfl (lv_at hl 1 rfl) ?_
  refine lv_iload_n hx hb dX9_plug_8 rfl (lv_at hl 3 rfl) ?_
  refine cl_callXV (ci := 14) F hT hout hB vi_kept_rf (k_devAt l D cy hst hB.2 _ _) (cwV 1 F.1.2.2.2.2 (vgV (vm_4 _ (List.mem_of_getElem? (i := 29) rfl)) (vm_4 _ (List.mem_of_getElem? (i := 30) rfl)) (vm_4 _ (List.mem_of_getElem? (i := 31) rfl)) (vm_4 _ (List.mem_of_getElem? (i := 20) rfl)) (vm_4 _ (List.mem_of_getElem? (i := 23) rfl))) rfl rfl rfl ⟨rfl, by decide, by decide, by decide +kernel⟩ ⟨Nat.le_of_ble_eq_true rfl, Nat.le_of_ble_eq_true rfl⟩) rfl rfl (by decide) rfl hl.1 rfl (Nat.le_of_ble_eq_true rfl) dX9_plug_9 ⟨Nat.le_of_ble_eq_true rfl, Nat.le_of_ble_eq_true rfl⟩ (by decide) (Nat.le_of_ble_eq_true rfl) LX.1 (fun H locs v σ9 hB hP => ?_)
  obtain ⟨⟨i9, hi9, ex9, hc9, rfl⟩, rfl⟩ := hP
  refine lv_astore (lv' := [(5, .ref _), (4, .ref _), (0, .ref _), (1, .int _), (2, .int _), (3, .int _)]) hx hb dX9_plug_12 hl (by decide) rfl (fun ls hl => ?_)
  refine lv_iload_n hx hb dX9_plug_14 rfl (lv_at hl 5 rfl) ?_
  refine lv_if_lt (tgt := 27) hx hb dX9_plug_15 (by decide) (fun c15 => ?_) (fun c15 => ?_)
  · exact cl_thr (NC := 3) (vi_throwS (WS := _ :: vWall) (text := "no such port") (ik := 154) (is := 156) (ic := 158) (X := "java/lang/IndexOutOfBoundsException") F.1.1 F.1.2.1 hst F.1.2.2.2.2 F.1.2.2.2.1 (by decide) (by decide) hT (by decide) (List.mem_cons_of_mem _ (vm_4 _ (List.mem_of_getElem? (i := 24) rfl))) (List.mem_cons_of_mem _ (vm_4 _ (List.mem_of_getElem? (i := 25) rfl))) (fun w h => List.mem_cons_of_mem _ (vmx_0 w h)) (by decide +kernel) (by decide +kernel) (by decide) F.1.2.2.1 (by decide +kernel) (by decide +kernel) (by decide +kernel) (by decide +kernel) (by decide +kernel) hout F.2.2.2 (Nat.le_of_ble_eq_true rfl) (Nat.le_of_ble_eq_true rfl) ⟨Nat.le_refl _, Nat.le_refl _⟩ (Nat.le_refl _) (fun _ h => h)) hB vi_kept_rf (Nat.le_of_ble_eq_true rfl) (by decide) hl.1
  · refine lv_iload_n hx hb dX9_plug_18 rfl (lv_at hl 5 rfl) ?_
    refine lv_aload hx hb dX9_plug_19 (lv_at hl 0 rfl) ?_
    refine gf_X9_67 F hB dX9_plug_21 (Ld _ hi9).1 ?_
    refine lv_icmp_lt (tgt := 37) hx hb dX9_plug_24 (by decide) (fun c24 => ?_) (fun c24 => ?_)
    · refine lv_aload hx hb dX9_plug_37 (lv_at hl 1 rfl) ?_
      refine gf_X9_74 F hB dX9_plug_39 (Ld _ hi2).1 ?_
      refine lv_bipush (v := 117) hx hb dX9_plug_42 (by decide) ?_
      refine lv_icmp_ne (tgt := 65) hx hb dX9_plug_44 (by decide) (fun c44 => ?_) (fun c44 => ?_)
      · exact cl_thr (NC := 3) (vi_throwS (WS := _ :: vWall) (text := "it can\'t be plugged there") (ik := 139) (is := 167) (ic := 143) (X := "java/lang/UnsupportedOperationException") F.1.1 F.1.2.1 hst F.1.2.2.2.2 F.1.2.2.2.1 (by decide) (by decide) hT (by decide) (List.mem_cons_of_mem _ (vm_4 _ (List.mem_of_getElem? (i := 27) rfl))) (List.mem_cons_of_mem _ (vm_4 _ (List.mem_of_getElem? (i := 28) rfl))) (fun w h => List.mem_cons_of_mem _ (vmx_1 w h)) (by decide +kernel) (by decide +kernel) (by decide) F.1.2.2.1 (by decide +kernel) (by decide +kernel) (by decide +kernel) (by decide +kernel) (by decide +kernel) hout F.2.2.2 (Nat.le_of_ble_eq_true rfl) (Nat.le_of_ble_eq_true rfl) ⟨Nat.le_refl _, Nat.le_refl _⟩ (Nat.le_refl _) (fun _ h => h)) hB vi_kept_rf (Nat.le_of_ble_eq_true rfl) (by decide) hl.1
      · refine lv_aload hx hb dX9_plug_47 (lv_at hl 0 rfl) ?_
        refine cl_callS F hB (k_takes l D cy hB.2 hi9 _) (cwS 1 F.1.2.2.2.2 (vgS (vm_4 _ (List.mem_of_getElem? (i := 38) rfl)) (vm_4 _ (List.mem_of_getElem? (i := 39) rfl)) (vm_4 _ (List.mem_of_getElem? (i := 20) rfl)) (vm_4 _ (List.mem_of_getElem? (i := 34) rfl))) rfl rfl rfl ⟨rfl, by decide, by decide, by decide +kernel⟩ ⟨Nat.le_of_ble_eq_true rfl, Nat.le_of_ble_eq_true rfl⟩) rfl hl.1 rfl (Nat.le_of_ble_eq_true rfl) dX9_plug_49 ⟨Nat.le_of_ble_eq_true rfl, Nat.le_of_ble_eq_true rfl⟩ (fun H locs v σ49 hB hP => ?_)
        obtain ⟨⟨b49, rfl, hb49⟩, rfl⟩ := hP
        refine lv_if_eq (tgt := 65) hx hb dX9_plug_52 (by decide) (fun c52 => ?_) (fun c52 => ?_)
        · exact cl_thr (NC := 3) (vi_throwS (WS := _ :: vWall) (text := "it can\'t be plugged there") (ik := 139) (is := 167) (ic := 143) (X := "java/lang/UnsupportedOperationException") F.1.1 F.1.2.1 hst F.1.2.2.2.2 F.1.2.2.2.1 (by decide) (by decide) hT (by decide) (List.mem_cons_of_mem _ (vm_4 _ (List.mem_of_getElem? (i := 27) rfl))) (List.mem_cons_of_mem _ (vm_4 _ (List.mem_of_getElem? (i := 28) rfl))) (fun w h => List.mem_cons_of_mem _ (vmx_1 w h)) (by decide +kernel) (by decide +kernel) (by decide) F.1.2.2.1 (by decide +kernel) (by decide +kernel) (by decide +kernel) (by decide +kernel) (by decide +kernel) hout F.2.2.2 (Nat.le_of_ble_eq_true rfl) (Nat.le_of_ble_eq_true rfl) ⟨Nat.le_refl _, Nat.le_refl _⟩ (Nat.le_refl _) (fun _ h => h)) hB vi_kept_rf (Nat.le_of_ble_eq_true rfl) (by decide) hl.1
        · refine lv_aload_n hx hb dX9_plug_55 rfl (lv_at hl 2 rfl) ?_
          refine lv_aload hx hb dX9_plug_56 (lv_at hl 0 rfl) ?_
          refine lv_iload_n hx hb dX9_plug_58 rfl (lv_at hl 5 rfl) ?_
          refine cl_callV (ci := 14) F hB (k_ptak l D cy hB.2 hi9 _ _) (cwV 2 F.1.2.2.2.2 (vgV (vm_5 _ (List.mem_of_getElem? (i := 0) rfl)) (vm_5 _ (List.mem_of_getElem? (i := 1) rfl)) (vm_5 _ (List.mem_of_getElem? (i := 2) rfl)) (vm_4 _ (List.mem_of_getElem? (i := 20) rfl)) (vm_4 _ (List.mem_of_getElem? (i := 35) rfl))) rfl rfl rfl ⟨rfl, by decide, by decide, by decide +kernel⟩ ⟨Nat.le_of_ble_eq_true rfl, Nat.le_of_ble_eq_true rfl⟩) rfl rfl (by decide) rfl hl.1 rfl (Nat.le_of_ble_eq_true rfl) dX9_plug_59 ⟨Nat.le_of_ble_eq_true rfl, Nat.le_of_ble_eq_true rfl⟩ LX.1 (fun H locs v σ59 hB hP => ?_)
          obtain ⟨⟨b59, rfl, hb59⟩, rfl⟩ := hP
          refine lv_if_eq (tgt := 75) hx hb dX9_plug_62 (by decide) (fun c62 => ?_) (fun c62 => ?_)
          · refine lv_aload hx hb dX9_plug_75 (lv_at hl 0 rfl) ?_
            refine gf_X9_78 F hB dX9_plug_77 (Ld _ hi9).1 ?_
            refine lv_iconst (v := 5) hx hb dX9_plug_80 (by decide) ?_
            refine lv_icmp_lt (tgt := 94) hx hb dX9_plug_81 (by decide) (fun c81 => ?_) (fun c81 => ?_)
            · refine lv_aload hx hb dX9_plug_94 (lv_at hl 1 rfl) ?_
              refine lv_bipush (v := 110) hx hb dX9_plug_96 (by decide) ?_
              have e5 : (5 : Int32).toInt = 5 := rfl
              have h81 := i_lt c81
              have r10 := hI.1.2.2.2.1 _ hi9 (hb49 c52)
              have hq10 : (sgI σ (yd Y i9) 10 + 1).toInt = (sgI σ (yd Y i9) 10).toInt + 1 := by rw [i_add (by rw [e1]; omega) (by rw [e1]; omega), e1]
              refine pf_X9_74 F hB dX9_plug_98 (Ld _ hi2).1 ⟨by decide, by decide⟩ (fun H locs hBn => ?_)
              clear hB; have hB := hBn; clear hBn
              refine lv_aload hx hb dX9_plug_101 (lv_at hl 1 rfl) ?_
              refine lv_aload hx hb dX9_plug_103 (lv_at hl 0 rfl) ?_
              refine pr_X9_171 F hB dX9_plug_105 (Ld _ hi2).1 (Ld _ hi9).1 (fun H locs hBn => ?_)
              clear hB; have hB := hBn; clear hBn
              refine lv_aload hx hb dX9_plug_108 (lv_at hl 1 rfl) ?_
              refine lv_iload_n hx hb dX9_plug_110 rfl (lv_at hl 5 rfl) ?_
              refine pf_X9_175 F hB dX9_plug_111 (Ld _ hi2).1 (fun H locs hBn => ?_)
              clear hB; have hB := hBn; clear hBn
              refine lv_aload hx hb dX9_plug_114 (lv_at hl 1 rfl) ?_
              refine lv_aload hx hb dX9_plug_116 (lv_at hl 0 rfl) ?_
              refine gf_X9_78 F hB dX9_plug_118 (Ld _ hi9).1 ?_
              rw [c_nk (by decide), c_IR, c_nk (by decide)]
              refine lv_iconst (v := 1) hx hb dX9_plug_121 (by decide) ?_
              refine lv_iadd hx hb dX9_plug_122 ?_
              refine pf_X9_78 F hB dX9_plug_123 (Ld _ hi2).1 (fun H locs hBn => ?_)
              clear hB; have hB := hBn; clear hBn
              refine lv_aload hx hb dX9_plug_126 (lv_at hl 1 rfl) ?_
              refine lv_aload hx hb dX9_plug_128 (lv_at hl 1 rfl) ?_
              refine gf_X9_106 F hB dX9_plug_130 (Ld _ hi2).1 ?_
              refine lv_aload hx hb dX9_plug_133 (lv_at hl 0 rfl) ?_
              refine gf_X9_109 F hB dX9_plug_135 (Ld _ hi9).1 ?_
              refine cl_callS F hB (k_lower l D cy hB.2 _ _ _) (cwS 2 F.1.2.2.2.2 (vgS (vm_5 _ (List.mem_of_getElem? (i := 3) rfl)) (vm_5 _ (List.mem_of_getElem? (i := 4) rfl)) (vm_4 _ (List.mem_of_getElem? (i := 20) rfl)) (vm_4 _ (List.mem_of_getElem? (i := 36) rfl))) rfl rfl rfl ⟨rfl, by decide, by decide, by decide +kernel⟩ ⟨Nat.le_of_ble_eq_true rfl, Nat.le_of_ble_eq_true rfl⟩) rfl hl.1 rfl (Nat.le_of_ble_eq_true rfl) dX9_plug_138 ⟨Nat.le_of_ble_eq_true rfl, Nat.le_of_ble_eq_true rfl⟩ (fun H locs v σ138 hB hP => ?_)
              obtain ⟨⟨b138, rfl, hb138⟩, rfl⟩ := hP
              refine pf_X9_109 F hB dX9_plug_141 (Ld _ hi2).1 hb138 (fun H locs hBn => ?_)
              clear hB; have hB := hBn; clear hBn
              refine lv_aload hx hb dX9_plug_144 (lv_at hl 1 rfl) ?_
              refine lv_aload hx hb dX9_plug_146 (lv_at hl 0 rfl) ?_
              refine gf_X9_109 F hB dX9_plug_148 (Ld _ hi9).1 ?_
              refine lv_bipush (v := 104) hx hb dX9_plug_151 (by decide) ?_
              refine lv_icmp_ne (tgt := 164) hx hb dX9_plug_153 (by decide) (fun c153 => ?_) (fun c153 => ?_)
              · refine lv_aload hx hb dX9_plug_164 (lv_at hl 0 rfl) ?_
                refine gf_X9_182 F hB dX9_plug_166 (Ld _ hi9).1 ?_
                refine pf_X9_182 F hB dX9_plug_169 (Ld _ hi2).1 (fun H locs hBn => ?_)
                clear hB; have hB := hBn; clear hBn
                refine lv_aload hx hb dX9_plug_172 (lv_at hl 1 rfl) ?_
                refine gf_X9_78 F hB dX9_plug_174 (Ld _ hi2).1 ?_
                exact cl_iretX (Nat.le_of_ble_eq_true rfl) F hB hrt dX9_plug_177 (⟨⟨_, rfl⟩, SI_plug hV hI hi2 hi9 (by omega) c44 (hb49 c52) (i_lt c81) (by repeat (first | exact oneC_rf | refine oneC_PI ?_ | refine oneC_PR ?_)) (by rw [c_nk (by decide), c_nk (by decide), c_nk (by decide), c_nk (by decide), c_IR, sgI_PI, if_pos ⟨rfl, rfl⟩]) (by rw [c_RI, c_RI, c_RI, c_RI, sgR_PR, if_pos ⟨rfl, rfl⟩]) (by rw [c_nk (by decide), c_nk (by decide), sgI_PI, if_pos ⟨rfl, rfl⟩]; exact hq10) (by rw [c_nk (by decide), c_nk (by decide), c_nk (by decide), c_nk (by decide), c_IR, c_nk (by decide)])⟩)
              · refine lv_aload hx hb dX9_plug_156 (lv_at hl 0 rfl) ?_
                refine gf_X9_121 F hB dX9_plug_158 (Ld _ hi9).1 ?_
                refine lv_goto (tgt := 169) hx hb dX9_plug_161 (by decide) ?_
                refine pf_X9_182 F hB dX9_plug_169 (Ld _ hi2).1 (fun H locs hBn => ?_)
                clear hB; have hB := hBn; clear hBn
                refine lv_aload hx hb dX9_plug_172 (lv_at hl 1 rfl) ?_
                refine gf_X9_78 F hB dX9_plug_174 (Ld _ hi2).1 ?_
                exact cl_iretX (Nat.le_of_ble_eq_true rfl) F hB hrt dX9_plug_177 (⟨⟨_, rfl⟩, SI_plug hV hI hi2 hi9 (by omega) c44 (hb49 c52) (i_lt c81) (by repeat (first | exact oneC_rf | refine oneC_PI ?_ | refine oneC_PR ?_)) (by rw [c_nk (by decide), c_nk (by decide), c_nk (by decide), c_nk (by decide), c_IR, sgI_PI, if_pos ⟨rfl, rfl⟩]) (by rw [c_RI, c_RI, c_RI, c_RI, sgR_PR, if_pos ⟨rfl, rfl⟩]) (by rw [c_nk (by decide), c_nk (by decide), sgI_PI, if_pos ⟨rfl, rfl⟩]; exact hq10) (by rw [c_nk (by decide), c_nk (by decide), c_nk (by decide), c_nk (by decide), c_IR, c_nk (by decide)])⟩)
            · exact cl_thr (NC := 3) (vi_throwS (WS := _ :: vWall) (text := "it would be too deep") (ik := 139) (is := 169) (ic := 143) (X := "java/lang/UnsupportedOperationException") F.1.1 F.1.2.1 hst F.1.2.2.2.2 F.1.2.2.2.1 (by decide) (by decide) hT (by decide) (List.mem_cons_of_mem _ (vm_4 _ (List.mem_of_getElem? (i := 27) rfl))) (List.mem_cons_of_mem _ (vm_4 _ (List.mem_of_getElem? (i := 28) rfl))) (fun w h => List.mem_cons_of_mem _ (vmx_1 w h)) (by decide +kernel) (by decide +kernel) (by decide) F.1.2.2.1 (by decide +kernel) (by decide +kernel) (by decide +kernel) (by decide +kernel) (by decide +kernel) hout F.2.2.2 (Nat.le_of_ble_eq_true rfl) (Nat.le_of_ble_eq_true rfl) ⟨Nat.le_refl _, Nat.le_refl _⟩ (Nat.le_refl _) (fun _ h => h)) hB vi_kept_rf (Nat.le_of_ble_eq_true rfl) (by decide) hl.1
          · exact cl_thr (NC := 3) (vi_throwS (WS := _ :: vWall) (text := "it can\'t be plugged there") (ik := 139) (is := 167) (ic := 143) (X := "java/lang/UnsupportedOperationException") F.1.1 F.1.2.1 hst F.1.2.2.2.2 F.1.2.2.2.1 (by decide) (by decide) hT (by decide) (List.mem_cons_of_mem _ (vm_4 _ (List.mem_of_getElem? (i := 27) rfl))) (List.mem_cons_of_mem _ (vm_4 _ (List.mem_of_getElem? (i := 28) rfl))) (fun w h => List.mem_cons_of_mem _ (vmx_1 w h)) (by decide +kernel) (by decide +kernel) (by decide) F.1.2.2.1 (by decide +kernel) (by decide +kernel) (by decide +kernel) (by decide +kernel) (by decide +kernel) hout F.2.2.2 (Nat.le_of_ble_eq_true rfl) (Nat.le_of_ble_eq_true rfl) ⟨Nat.le_refl _, Nat.le_refl _⟩ (Nat.le_refl _) (fun _ h => h)) hB vi_kept_rf (Nat.le_of_ble_eq_true rfl) (by decide) hl.1
    · exact cl_thr (NC := 3) (vi_throwS (WS := _ :: vWall) (text := "no such port") (ik := 154) (is := 156) (ic := 158) (X := "java/lang/IndexOutOfBoundsException") F.1.1 F.1.2.1 hst F.1.2.2.2.2 F.1.2.2.2.1 (by decide) (by decide) hT (by decide) (List.mem_cons_of_mem _ (vm_4 _ (List.mem_of_getElem? (i := 24) rfl))) (List.mem_cons_of_mem _ (vm_4 _ (List.mem_of_getElem? (i := 25) rfl))) (fun w h => List.mem_cons_of_mem _ (vmx_0 w h)) (by decide +kernel) (by decide +kernel) (by decide) F.1.2.2.1 (by decide +kernel) (by decide +kernel) (by decide +kernel) (by decide +kernel) (by decide +kernel) hout F.2.2.2 (Nat.le_of_ble_eq_true rfl) (Nat.le_of_ble_eq_true rfl) ⟨Nat.le_refl _, Nat.le_refl _⟩ (Nat.le_refl _) (fun _ h => h)) hB vi_kept_rf (Nat.le_of_ble_eq_true rfl) (by decide) hl.1

theorem dX9_unplug_0 : decode cX9_unplug 0 = .ok (.aload_n 0, 1) := by decide +kernel
theorem dX9_unplug_1 : decode cX9_unplug 1 = .ok (.iload_n 1, 1) := by decide +kernel
theorem dX9_unplug_2 : decode cX9_unplug 2 = .ok (.invokevirtual 185, 3) := by decide +kernel
theorem dX9_unplug_5 : decode cX9_unplug 5 = .ok (.astore_n 2, 1) := by decide +kernel
theorem dX9_unplug_6 : decode cX9_unplug 6 = .ok (.aload_n 2, 1) := by decide +kernel
theorem dX9_unplug_7 : decode cX9_unplug 7 = .ok (.getfield 74, 3) := by decide +kernel
theorem dX9_unplug_10 : decode cX9_unplug 10 = .ok (.bipush 117, 2) := by decide +kernel
theorem dX9_unplug_12 : decode cX9_unplug 12 = .ok (.if_icmp .ne 13, 3) := by decide +kernel
theorem dX9_unplug_15 : decode cX9_unplug 15 = .ok (.new 139, 3) := by decide +kernel
theorem dX9_unplug_25 : decode cX9_unplug 25 = .ok (.aload_n 0, 1) := by decide +kernel
theorem dX9_unplug_26 : decode cX9_unplug 26 = .ok (.aload_n 2, 1) := by decide +kernel
theorem dX9_unplug_27 : decode cX9_unplug 27 = .ok (.iconst 1, 1) := by decide +kernel
theorem dX9_unplug_28 : decode cX9_unplug 28 = .ok (.invokevirtual 190, 3) := by decide +kernel
theorem dX9_unplug_31 : decode cX9_unplug 31 = .ok (.ireturn, 1) := by decide +kernel
set_option maxRecDepth 100000 in
set_option maxHeartbeats 4000000 in
theorem k_unpl (l : Launch) (D : va_G) (cy : Nat → ClassId) {ad τ : List Nat} {Y : CY} {σ : SG} (hst : l.stackTraces = false) (hs : vi_s1 vSG τ) (hV : VL cy ad τ Y σ) {B : Int} (hI : SI Y σ B) (x1 : Int32) (sz : Nat) : clX l D cy ad τ Y σ sz yX9_unplug (Cond.code yX9_unplug cX9_unplug 3 (some .int) :: vWall) 8 132 3 [.ref (yX Y), .int x1] (fun v s2 => (∃ x : Int32, v = some (.int x)) ∧ SI Y s2 B) ["java/lang/UnsupportedOperationException", "java/lang/IndexOutOfBoundsException"] := by
  refine cl_ofX (cc := cX9_unplug) (maxL := 3) (ret := (some .int)) hV (by decide) rfl (Nat.le_of_ble_eq_true rfl) (lv := [(0, .ref (yX Y)), (1, .int x1)]) rfl (fun p e s m below meth c ls H hrt F hT hout hB hl => ?_) sz
  have hx := F.1.1
  have hb := F.1.2.1
  have hown := F.1.2.2.2.1
  generalize hlo : ([] : List Loc) = locs at hB ⊢
  clear hlo
  obtain ⟨LX, LD, Ld, LE, Le, LP9, Lp, Lt, LU, LA, Lz⟩ := hV.2
  have e0 : (0 : Int32).toInt = 0 := rfl
  have e1 : (1 : Int32).toInt = 1 := rfl
  have e16 : (16 : Int32).toInt = 16 := rfl
  have e12 : (12 : Int32).toInt = 12 := rfl
  refine lv_aload_n hx hb dX9_unplug_0 rfl (lv_at hl 0 rfl) ?_
  refine lv_iload_n hx hb dX9_unplug_1 rfl (lv_at hl 1 rfl) ?_
  refine cl_callXV (ci := 14) F hT hout hB vi_kept_rf (k_devB l D cy hst hB.2 _ _) (cwV 1 F.1.2.2.2.2 (vgV (vm_6 _ (List.mem_of_getElem? (i := 0) rfl)) (vm_6 _ (List.mem_of_getElem? (i := 1) rfl)) (vm_6 _ (List.mem_of_getElem? (i := 2) rfl)) (vm_4 _ (List.mem_of_getElem? (i := 20) rfl)) (vm_5 _ (List.mem_of_getElem? (i := 5) rfl))) rfl rfl rfl ⟨rfl, by decide, by decide, by decide +kernel⟩ ⟨Nat.le_of_ble_eq_true rfl, Nat.le_of_ble_eq_true rfl⟩) rfl rfl (by decide) rfl hl.1 rfl (Nat.le_of_ble_eq_true rfl) dX9_unplug_2 ⟨Nat.le_of_ble_eq_true rfl, Nat.le_of_ble_eq_true rfl⟩ (by decide) (Nat.le_of_ble_eq_true rfl) LX.1 (fun H locs v σ2 hB hP => ?_)
  obtain ⟨⟨i2, hi2, hn2, hc2, rfl⟩, rfl⟩ := hP
  refine lv_astore_n (lv' := [(2, .ref _), (0, .ref _), (1, .int _)]) hx hb dX9_unplug_5 rfl hl (by decide) rfl (fun ls hl => ?_)
  refine lv_aload_n hx hb dX9_unplug_6 rfl (lv_at hl 0 rfl) ?_
  refine gf_X9_74 F hB dX9_unplug_7 (Ld _ hi2).1 ?_
  refine lv_bipush (v := 117) hx hb dX9_unplug_10 (by decide) ?_
  refine lv_icmp_ne (tgt := 25) hx hb dX9_unplug_12 (by decide) (fun c12 => ?_) (fun c12 => ?_)
  · refine lv_aload_n hx hb dX9_unplug_25 rfl (lv_at hl 1 rfl) ?_
    refine lv_aload_n hx hb dX9_unplug_26 rfl (lv_at hl 0 rfl) ?_
    refine lv_iconst (v := 1) hx hb dX9_unplug_27 (by decide) ?_
    refine cl_callV (ci := 14) F hB (k_det l D cy hst hs hB.2 hI hi2 (show sgF 2 1 from ⟨by decide, by decide⟩) (fun z => absurd z hn2) _) (cwV 2 F.1.2.2.2.2 (vgV (vm_6 _ (List.mem_of_getElem? (i := 3) rfl)) (vm_6 _ (List.mem_of_getElem? (i := 4) rfl)) (vm_6 _ (List.mem_of_getElem? (i := 5) rfl)) (vm_4 _ (List.mem_of_getElem? (i := 20) rfl)) (vm_5 _ (List.mem_of_getElem? (i := 39) rfl))) rfl rfl rfl ⟨rfl, by decide, by decide, by decide +kernel⟩ ⟨Nat.le_of_ble_eq_true rfl, Nat.le_of_ble_eq_true rfl⟩) rfl rfl (by decide) rfl hl.1 rfl (Nat.le_of_ble_eq_true rfl) dX9_unplug_28 ⟨Nat.le_of_ble_eq_true rfl, Nat.le_of_ble_eq_true rfl⟩ LX.1 (fun H locs v σ28 hB hP => ?_)
    obtain ⟨⟨x28, rfl⟩, hI28⟩ := hP
    exact cl_iretX (Nat.le_of_ble_eq_true rfl) F hB hrt dX9_unplug_31 (⟨⟨_, rfl⟩, hI28⟩)
  · exact cl_thr (NC := 3) (vi_throwS (WS := _ :: vWall) (text := "it is not plugged") (ik := 139) (is := 188) (ic := 143) (X := "java/lang/UnsupportedOperationException") F.1.1 F.1.2.1 hst F.1.2.2.2.2 F.1.2.2.2.1 (by decide) (by decide) hT (by decide) (List.mem_cons_of_mem _ (vm_4 _ (List.mem_of_getElem? (i := 27) rfl))) (List.mem_cons_of_mem _ (vm_4 _ (List.mem_of_getElem? (i := 28) rfl))) (fun w h => List.mem_cons_of_mem _ (vmx_1 w h)) (by decide +kernel) (by decide +kernel) (by decide) F.1.2.2.1 (by decide +kernel) (by decide +kernel) (by decide +kernel) (by decide +kernel) (by decide +kernel) hout F.2.2.2 (Nat.le_of_ble_eq_true rfl) (Nat.le_of_ble_eq_true rfl) ⟨Nat.le_refl _, Nat.le_refl _⟩ (Nat.le_refl _) (fun _ h => h)) hB vi_kept_rf (Nat.le_of_ble_eq_true rfl) (by decide) hl.1

theorem dX9_close_0 : decode cX9_close 0 = .ok (.aload_n 0, 1) := by decide +kernel
theorem dX9_close_1 : decode cX9_close 1 = .ok (.aload_n 0, 1) := by decide +kernel
theorem dX9_close_2 : decode cX9_close 2 = .ok (.iload_n 1, 1) := by decide +kernel
theorem dX9_close_3 : decode cX9_close 3 = .ok (.invokevirtual 334, 3) := by decide +kernel
theorem dX9_close_6 : decode cX9_close 6 = .ok (.bipush 120, 2) := by decide +kernel
theorem dX9_close_8 : decode cX9_close 8 = .ok (.invokevirtual 338, 3) := by decide +kernel
theorem dX9_close_11 : decode cX9_close 11 = .ok (.ireturn, 1) := by decide +kernel
set_option maxRecDepth 100000 in
set_option maxHeartbeats 4000000 in
theorem k_clos (l : Launch) (D : va_G) (cy : Nat → ClassId) {ad τ : List Nat} {Y : CY} {σ : SG} (hst : l.stackTraces = false) (hs : vi_s1 vSG τ) (hV : VL cy ad τ Y σ) {B : Int} (hI : SI Y σ B) (x1 : Int32) (sz : Nat) : clX l D cy ad τ Y σ sz yX9_close (Cond.code yX9_close cX9_close 2 (some .int) :: vWall) 7 111 1 [.ref (yX Y), .int x1] (fun v s2 => (∃ x : Int32, v = some (.int x)) ∧ SI Y s2 B) ["java/util/NoSuchElementException"] := by
  refine cl_ofX (cc := cX9_close) (maxL := 2) (ret := (some .int)) hV (by decide) rfl (Nat.le_of_ble_eq_true rfl) (lv := [(0, .ref (yX Y)), (1, .int x1)]) rfl (fun p e s m below meth c ls H hrt F hT hout hB hl => ?_) sz
  have hx := F.1.1
  have hb := F.1.2.1
  have hown := F.1.2.2.2.1
  generalize hlo : ([] : List Loc) = locs at hB ⊢
  clear hlo
  obtain ⟨LX, LD, Ld, LE, Le, LP9, Lp, Lt, LU, LA, Lz⟩ := hV.2
  have e0 : (0 : Int32).toInt = 0 := rfl
  have e1 : (1 : Int32).toInt = 1 := rfl
  have e16 : (16 : Int32).toInt = 16 := rfl
  have e12 : (12 : Int32).toInt = 12 := rfl
  refine lv_aload_n hx hb dX9_close_0 rfl (lv_at hl 0 rfl) ?_
  refine lv_aload_n hx hb dX9_close_1 rfl (lv_at hl 0 rfl) ?_
  refine lv_iload_n hx hb dX9_close_2 rfl (lv_at hl 1 rfl) ?_
  refine cl_callXV (ci := 14) F hT hout hB vi_kept_rf (k_opP l D cy hst hB.2 _ _) (cwV 1 F.1.2.2.2.2 (vgV (vm_8 _ (List.mem_of_getElem? (i := 16) rfl)) (vm_8 _ (List.mem_of_getElem? (i := 17) rfl)) (vm_8 _ (List.mem_of_getElem? (i := 18) rfl)) (vm_4 _ (List.mem_of_getElem? (i := 20) rfl)) (vm_8 _ (List.mem_of_getElem? (i := 15) rfl))) rfl rfl rfl ⟨rfl, by decide, by decide, by decide +kernel⟩ ⟨Nat.le_of_ble_eq_true rfl, Nat.le_of_ble_eq_true rfl⟩) rfl rfl (by decide) rfl hl.1 rfl (Nat.le_of_ble_eq_true rfl) dX9_close_3 ⟨Nat.le_of_ble_eq_true rfl, Nat.le_of_ble_eq_true rfl⟩ (by decide) (Nat.le_of_ble_eq_true rfl) LX.1 (fun H locs v σ3 hB hP => ?_)
  obtain ⟨⟨j3, hj3, rfl, d3, hd3⟩, rfl⟩ := hP
  obtain ⟨e3, he3, -⟩ := siP_e hI.2.1 hj3 hd3
  refine lv_bipush (v := 120) hx hb dX9_close_6 (by decide) ?_
  refine cl_callV (ci := 14) F hB (k_close l D cy hst hs hB.2 hj3 hd3 he3 120 (show sgF 1 120 from ⟨by decide, by decide⟩) _) (cwV 2 F.1.2.2.2.2 (vgV (vm_5 _ (List.mem_of_getElem? (i := 34) rfl)) (vm_5 _ (List.mem_of_getElem? (i := 35) rfl)) (vm_5 _ (List.mem_of_getElem? (i := 36) rfl)) (vm_4 _ (List.mem_of_getElem? (i := 20) rfl)) (vm_5 _ (List.mem_of_getElem? (i := 31) rfl))) rfl rfl rfl ⟨rfl, by decide, by decide, by decide +kernel⟩ ⟨Nat.le_of_ble_eq_true rfl, Nat.le_of_ble_eq_true rfl⟩) rfl rfl (by decide) rfl hl.1 rfl (Nat.le_of_ble_eq_true rfl) dX9_close_8 ⟨Nat.le_of_ble_eq_true rfl, Nat.le_of_ble_eq_true rfl⟩ LX.1 (fun H locs v σ8 hB hP => ?_)
  obtain ⟨⟨x8, rfl⟩, z8, σ26, σ25, hz8, hr8, hj8, h08, hE8⟩ := hP
  have hC8 := SI_close hV hI hj3 hd3 he3 hz8 hr8 hj8 h08
  rw [hE8] at hC8
  exact cl_iretX (Nat.le_of_ble_eq_true rfl) F hB hrt dX9_close_11 (⟨⟨_, rfl⟩, hC8.1⟩)
end CLK11
