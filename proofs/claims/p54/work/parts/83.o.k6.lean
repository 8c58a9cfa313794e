section CLK6
theorem dX9_isSameOrBelow_0 : decode cX9_isSameOrBelow 0 = .ok (.aload_n 0, 1) := by decide +kernel
theorem dX9_isSameOrBelow_1 : decode cX9_isSameOrBelow 1 = .ok (.astore_n 2, 1) := by decide +kernel
theorem dX9_isSameOrBelow_2 : decode cX9_isSameOrBelow 2 = .ok (.iconst 0, 1) := by decide +kernel
theorem dX9_isSameOrBelow_3 : decode cX9_isSameOrBelow 3 = .ok (.istore_n 3, 1) := by decide +kernel
theorem dX9_isSameOrBelow_4 : decode cX9_isSameOrBelow 4 = .ok (.iload_n 3, 1) := by decide +kernel
theorem dX9_isSameOrBelow_5 : decode cX9_isSameOrBelow 5 = .ok (.bipush 16, 2) := by decide +kernel
theorem dX9_isSameOrBelow_7 : decode cX9_isSameOrBelow 7 = .ok (.if_icmp .ge 25, 3) := by decide +kernel
theorem dX9_isSameOrBelow_10 : decode cX9_isSameOrBelow 10 = .ok (.aload_n 2, 1) := by decide +kernel
theorem dX9_isSameOrBelow_11 : decode cX9_isSameOrBelow 11 = .ok (.ifnull 21, 3) := by decide +kernel
theorem dX9_isSameOrBelow_14 : decode cX9_isSameOrBelow 14 = .ok (.aload_n 2, 1) := by decide +kernel
theorem dX9_isSameOrBelow_15 : decode cX9_isSameOrBelow 15 = .ok (.aload_n 1, 1) := by decide +kernel
theorem dX9_isSameOrBelow_16 : decode cX9_isSameOrBelow 16 = .ok (.if_acmp .ne 5, 3) := by decide +kernel
theorem dX9_isSameOrBelow_19 : decode cX9_isSameOrBelow 19 = .ok (.iconst 1, 1) := by decide +kernel
theorem dX9_isSameOrBelow_20 : decode cX9_isSameOrBelow 20 = .ok (.ireturn, 1) := by decide +kernel
theorem dX9_isSameOrBelow_21 : decode cX9_isSameOrBelow 21 = .ok (.aload_n 2, 1) := by decide +kernel
theorem dX9_isSameOrBelow_22 : decode cX9_isSameOrBelow 22 = .ok (.getfield 171, 3) := by decide +kernel
theorem dX9_isSameOrBelow_25 : decode cX9_isSameOrBelow 25 = .ok (.astore_n 2, 1) := by decide +kernel
theorem dX9_isSameOrBelow_26 : decode cX9_isSameOrBelow 26 = .ok (.iinc 3 1, 3) := by decide +kernel
theorem dX9_isSameOrBelow_29 : decode cX9_isSameOrBelow 29 = .ok (.goto (-25), 3) := by decide +kernel
theorem dX9_isSameOrBelow_32 : decode cX9_isSameOrBelow 32 = .ok (.iconst 0, 1) := by decide +kernel
theorem dX9_isSameOrBelow_33 : decode cX9_isSameOrBelow 33 = .ok (.ireturn, 1) := by decide +kernel
set_option maxRecDepth 100000 in
set_option maxHeartbeats 4000000 in
theorem k_below (l : Launch) (D : va_G) (cy : Nat → ClassId) {ad τ : List Nat} {Y : CY} {σ : SG} (hV : VL cy ad τ Y σ) {d9 tp : Nat} (hd : sgT σ d9 = 7) (sz : Nat) : clM l D cy ad τ Y σ sz yX9_isSameOrBelow (Cond.code yX9_isSameOrBelow cX9_isSameOrBelow 4 (some .boolean) :: vWall) 0 0 [.ref d9, .ref tp] (fun v s2 => (∃ b : Int32, v = some (.int b) ∧ sgb b (∃ n, n < 16 ∧ hp σ d9 n = some tp)) ∧ σ = s2) := by
  refine cl_ofW (cc := cX9_isSameOrBelow) (maxL := 4) (ret := (some .boolean)) hV (by decide) rfl (Nat.le_of_ble_eq_true rfl) (lv := [(0, .ref d9), (1, .ref tp)]) rfl (fun p e s m below meth c ls H hrt hnm F hB hl => ?_) sz
  have hx := F.1.1
  have hb := F.1.2.1
  have hown := F.1.2.2.2.1
  generalize hlo : ([] : List Loc) = locs at hB ⊢
  clear hlo
  have e0 : (0 : Int32).toInt = 0 := rfl
  have e16 : (16 : Int32).toInt = 16 := rfl
  refine lv_aload_n hx hb dX9_isSameOrBelow_0 rfl (lv_at hl 0 rfl) ?_
  refine lv_astore_n (lv' := [(2, .ref _), (0, .ref _), (1, .ref _)]) hx hb dX9_isSameOrBelow_1 rfl hl (by decide) rfl (fun ls hl => ?_)
  refine lv_iconst (v := 0) hx hb dX9_isSameOrBelow_2 (by decide) ?_
  refine lv_istore_n (lv' := [(3, .int _), (2, .ref _), (0, .ref _), (1, .ref _)]) hx hb dX9_isSameOrBelow_3 rfl hl (by decide) rfl (fun ls hl => ?_)
  have key4 : ∃ (i3 : Int32) (r2 : Option Nat), clB D cy ad τ Y s σ H locs ∧ lv_has ls 4 [(3, .int i3), (2, va_rf r2), (1, .ref tp), (0, .ref d9)] ∧ (0 ≤ i3.toInt ∧ i3.toInt ≤ 16) ∧ hp σ d9 i3.toInt.toNat = r2 ∧ ∀ n, n < i3.toInt.toNat → ¬ hp σ d9 n = some tp := ⟨_, some d9, hB, (lv_sub hl [0, 1, 3, 2] rfl), ⟨by decide, by decide⟩, rfl, fun n hn => absurd hn (by rw [e0]; exact Nat.not_lt_zero n)⟩
  clear hB hl
  obtain ⟨i3, r2, hB, hl, hi3, hr2, hno⟩ := key4
  obtain ⟨d4, hd4⟩ : ∃ d : Nat, d = 20 - i3.toInt.toNat := ⟨_, rfl⟩
  induction d4 using Nat.strongRecOn generalizing H locs ls i3 r2
  rename_i d4 ih4
  refine lv_iload_n hx hb dX9_isSameOrBelow_4 rfl (lv_at hl 0 rfl) ?_
  refine lv_bipush (v := 16) hx hb dX9_isSameOrBelow_5 (by decide) ?_
  refine lv_icmp_ge (tgt := 32) hx hb dX9_isSameOrBelow_7 (by decide) (fun c7 => ?_) (fun c7 => ?_)
  · refine lv_iconst (v := 0) hx hb dX9_isSameOrBelow_32 (by decide) ?_
    exact cl_zret F hB hrt dX9_isSameOrBelow_33 rfl (⟨⟨_, rfl, sgb_0 (fun ⟨n, hn, hq⟩ => by first | exact hno n (by have := i_le c7; omega) hq | (by_cases c : n < i3.toInt.toNat; (· exact hno n c hq); (· rw [hp_none (hr2.trans hz11) (by omega)] at hq; cases hq)))⟩, rfl⟩)
  · refine cl_aldQ hx hb dX9_isSameOrBelow_10 rfl (lv_at hl 1 rfl) ?_
    refine sg_split (fun hz11 => ?_) (fun b11 hz11 => ?_)
    · refine lv_ifnullN (tgt := 32) hx hb dX9_isSameOrBelow_11 (by decide) ?_
      refine lv_iconst (v := 0) hx hb dX9_isSameOrBelow_32 (by decide) ?_
      exact cl_zret F hB hrt dX9_isSameOrBelow_33 rfl (⟨⟨_, rfl, sgb_0 (fun ⟨n, hn, hq⟩ => by first | exact hno n (by have := i_le c7; omega) hq | (by_cases c : n < i3.toInt.toNat; (· exact hno n c hq); (· rw [hp_none (hr2.trans hz11) (by omega)] at hq; cases hq)))⟩, rfl⟩)
    · refine lv_ifnull hx hb dX9_isSameOrBelow_11 ?_
      subst hz11
      have ht : sgT σ b11 = 7 := hp_T hB.2 hd hr2
      refine lv_aload_n hx hb dX9_isSameOrBelow_14 rfl (lv_at hl 1 rfl) ?_
      refine lv_aload_n hx hb dX9_isSameOrBelow_15 rfl (lv_at hl 2 rfl) ?_
      refine lv_acmp_ne (rx := some _) (ry := some _) (tgt := 21) hx hb dX9_isSameOrBelow_16 (by decide) (fun c16 => ?_) (fun c16 => ?_)
      · refine lv_aload_n hx hb dX9_isSameOrBelow_21 rfl (lv_at hl 1 rfl) ?_
        refine gf_X9_171 F hB dX9_isSameOrBelow_22 ht ?_
        refine sg_split (fun hz22 => ?_) (fun b22 hz22 => ?_)
        · skip
          refine lv_astore_nN (lv' := [(2, .null), (3, .int _), (1, .ref _), (0, .ref _)]) hx hb dX9_isSameOrBelow_25 rfl hl (by decide) rfl (fun ls hl => ?_)
          refine lv_iinc (lv' := [(3, .int _), (2, .null), (1, .ref _), (0, .ref _)]) hx hb dX9_isSameOrBelow_26 hl (k := 1) rfl rfl (by decide) rfl (fun ls hl => ?_)
          refine lv_goto (tgt := 4) hx hb dX9_isSameOrBelow_29 (by decide) ?_
          have q4 := cl_add1 (x := i3) (by have := i_nle c7; omega) (by omega)
          have hi9 := i_nle c7
          have hnx : hp σ d9 (i3.toInt.toNat + 1) = sgR σ b11 8 := by show (hp σ d9 i3.toInt.toNat).bind _ = _; rw [hr2]; rfl
          first | exact ih4 _ (by subst hd4; rw [q4]; omega) _ _ _ _ (none) hB (lv_sub hl [0, 1, 2, 3] rfl) ⟨by rw [q4]; omega, by rw [q4]; omega⟩ (by rw [q4, show (i3.toInt + 1).toNat = i3.toInt.toNat + 1 by omega, hnx]; exact hz22) (fun n hn => by rw [q4] at hn; by_cases c : n = i3.toInt.toNat; (· rw [c, hr2]; exact c16); (· exact hno n (by omega))) rfl | exact ih4 _ (by subst hd4; rw [q4]; omega) _ _ _ _ (some b22) hB (lv_sub hl [0, 1, 2, 3] rfl) ⟨by rw [q4]; omega, by rw [q4]; omega⟩ (by rw [q4, show (i3.toInt + 1).toNat = i3.toInt.toNat + 1 by omega, hnx]; exact hz22) (fun n hn => by rw [q4] at hn; by_cases c : n = i3.toInt.toNat; (· rw [c, hr2]; exact c16); (· exact hno n (by omega))) rfl | fail "no road"
        · skip
          refine lv_astore_n (lv' := [(2, .ref _), (3, .int _), (1, .ref _), (0, .ref _)]) hx hb dX9_isSameOrBelow_25 rfl hl (by decide) rfl (fun ls hl => ?_)
          refine lv_iinc (lv' := [(3, .int _), (2, .ref _), (1, .ref _), (0, .ref _)]) hx hb dX9_isSameOrBelow_26 hl (k := 1) rfl rfl (by decide) rfl (fun ls hl => ?_)
          refine lv_goto (tgt := 4) hx hb dX9_isSameOrBelow_29 (by decide) ?_
          have q4 := cl_add1 (x := i3) (by have := i_nle c7; omega) (by omega)
          have hi9 := i_nle c7
          have hnx : hp σ d9 (i3.toInt.toNat + 1) = sgR σ b11 8 := by show (hp σ d9 i3.toInt.toNat).bind _ = _; rw [hr2]; rfl
          first | exact ih4 _ (by subst hd4; rw [q4]; omega) _ _ _ _ (none) hB (lv_sub hl [0, 1, 2, 3] rfl) ⟨by rw [q4]; omega, by rw [q4]; omega⟩ (by rw [q4, show (i3.toInt + 1).toNat = i3.toInt.toNat + 1 by omega, hnx]; exact hz22) (fun n hn => by rw [q4] at hn; by_cases c : n = i3.toInt.toNat; (· rw [c, hr2]; exact c16); (· exact hno n (by omega))) rfl | exact ih4 _ (by subst hd4; rw [q4]; omega) _ _ _ _ (some b22) hB (lv_sub hl [0, 1, 2, 3] rfl) ⟨by rw [q4]; omega, by rw [q4]; omega⟩ (by rw [q4, show (i3.toInt + 1).toNat = i3.toInt.toNat + 1 by omega, hnx]; exact hz22) (fun n hn => by rw [q4] at hn; by_cases c : n = i3.toInt.toNat; (· rw [c, hr2]; exact c16); (· exact hno n (by omega))) rfl | fail "no road"
      · refine lv_iconst (v := 1) hx hb dX9_isSameOrBelow_19 (by decide) ?_
        exact cl_zret F hB hrt dX9_isSameOrBelow_20 rfl (⟨⟨_, rfl, sgb_1 ⟨i3.toInt.toNat, by have := i_nle c7; omega, hr2.trans c16⟩⟩, rfl⟩)
end CLK6
