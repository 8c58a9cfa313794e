section MM25
theorem m_add0 {x : Int32} (h1 : -1000000 ≤ x.toInt) (h2 : x.toInt ≤ 1000000) : (x + 0).toInt = x.toInt := by
  rw [i_add (by rw [m_i0]; omega) (by rw [m_i0]; omega), m_i0]; omega
theorem m_subm {x : Int32} (h1 : -1000000 ≤ x.toInt) (h2 : x.toInt ≤ 1000000) : (x + Int32.ofInt (-1)).toInt = x.toInt - 1 := by
  have e1 : (Int32.ofInt (-1)).toInt = -1 := by decide
  rw [i_add (by rw [e1]; omega) (by rw [e1]; omega), e1]; omega
theorem m_dec {k e : Int} (h0 : 0 ≤ k) (h : e = k - 1) : (e + 1).toNat < (k + 1).toNat := by omega
theorem m_dec2 {k e : Int} {s : Nat} (h : (-1 ≤ k ∧ k < s) ∨ k = -1) (h0 : 0 ≤ k) (h1 : e = k - 1) : (-1 ≤ e ∧ e < s) ∨ e = -1 := by omega
theorem m_iv {v : Int32} (h : v = 1 ∨ v = 2 ∨ v = 4 ∨ v = 8) : ¬ v = 0 ∧ 1 ≤ v.toInt ∧ v.toInt ≤ 8 := by
  rcases h with rfl | rfl | rfl | rfl <;> decide
/-- an open pipe's device is plugged -/
theorem inv_pu {eda n S hw : Nat} {ia : Nat → Nat} {K : KM} {g : GH} {σ : SG} (h : Inv eda ia K g n S hw σ) {j p : Nat} (hj : j < 12) (hp : sgR σ (kP K) j = some p) : ¬ iSt g σ (sgI σ p 0).toInt.toNat = 117 := (inv_O h j p hj hp).2.2
theorem inv_n {eda n S hw : Nat} {ia : Nat → Nat} {K : KM} {g : GH} {σ : SG} (h : Inv eda ia K g n S hw σ) : sgSz σ (kD K) = n := (inv_M h).2.1.1
theorem dX14_controls_0 : decode cX14_controls 0 = .ok (.iconst 0, 1) := by decide +kernel
theorem dX14_controls_1 : decode cX14_controls 1 = .ok (.istore_n 2, 1) := by decide +kernel
theorem dX14_controls_2 : decode cX14_controls 2 = .ok (.iload_n 2, 1) := by decide +kernel
theorem dX14_controls_3 : decode cX14_controls 3 = .ok (.iconst 5, 1) := by decide +kernel
theorem dX14_controls_4 : decode cX14_controls 4 = .ok (.if_icmp .ge 92, 3) := by decide +kernel
theorem dX14_controls_7 : decode cX14_controls 7 = .ok (.iconst 0, 1) := by decide +kernel
theorem dX14_controls_8 : decode cX14_controls 8 = .ok (.istore_n 3, 1) := by decide +kernel
theorem dX14_controls_9 : decode cX14_controls 9 = .ok (.iconst 0, 1) := by decide +kernel
theorem dX14_controls_10 : decode cX14_controls 10 = .ok (.istore 4, 2) := by decide +kernel
theorem dX14_controls_12 : decode cX14_controls 12 = .ok (.iload 4, 2) := by decide +kernel
theorem dX14_controls_14 : decode cX14_controls 14 = .ok (.ifCond .ne 69, 3) := by decide +kernel
theorem dX14_controls_17 : decode cX14_controls 17 = .ok (.iload_n 3, 1) := by decide +kernel
theorem dX14_controls_18 : decode cX14_controls 18 = .ok (.iconst 3, 1) := by decide +kernel
theorem dX14_controls_19 : decode cX14_controls 19 = .ok (.if_icmp .ge 64, 3) := by decide +kernel
theorem dX14_controls_22 : decode cX14_controls 22 = .ok (.aload_n 0, 1) := by decide +kernel
theorem dX14_controls_23 : decode cX14_controls 23 = .ok (.dup, 1) := by decide +kernel
theorem dX14_controls_24 : decode cX14_controls 24 = .ok (.getfield 163, 3) := by decide +kernel
theorem dX14_controls_27 : decode cX14_controls 27 = .ok (.iconst 1, 1) := by decide +kernel
theorem dX14_controls_28 : decode cX14_controls 28 = .ok (.iadd, 1) := by decide +kernel
theorem dX14_controls_29 : decode cX14_controls 29 = .ok (.putfield 163, 3) := by decide +kernel
theorem dX14_controls_32 : decode cX14_controls 32 = .ok (.aload_n 1, 1) := by decide +kernel
theorem dX14_controls_33 : decode cX14_controls 33 = .ok (.getfield 166, 3) := by decide +kernel
theorem dX14_controls_36 : decode cX14_controls 36 = .ok (.iconst 0, 1) := by decide +kernel
theorem dX14_controls_37 : decode cX14_controls 37 = .ok (.iaload, 1) := by decide +kernel
theorem dX14_controls_38 : decode cX14_controls 38 = .ok (.ifCond .ne 7, 3) := by decide +kernel
theorem dX14_controls_41 : decode cX14_controls 41 = .ok (.iconst 1, 1) := by decide +kernel
theorem dX14_controls_42 : decode cX14_controls 42 = .ok (.goto 4, 3) := by decide +kernel
theorem dX14_controls_45 : decode cX14_controls 45 = .ok (.iconst 0, 1) := by decide +kernel
theorem dX14_controls_46 : decode cX14_controls 46 = .ok (.istore 4, 2) := by decide +kernel
theorem dX14_controls_48 : decode cX14_controls 48 = .ok (.aload_n 1, 1) := by decide +kernel
theorem dX14_controls_49 : decode cX14_controls 49 = .ok (.getfield 166, 3) := by decide +kernel
theorem dX14_controls_52 : decode cX14_controls 52 = .ok (.iconst 0, 1) := by decide +kernel
theorem dX14_controls_53 : decode cX14_controls 53 = .ok (.dup2, 1) := by decide +kernel
theorem dX14_controls_54 : decode cX14_controls 54 = .ok (.iaload, 1) := by decide +kernel
theorem dX14_controls_55 : decode cX14_controls 55 = .ok (.iload 4, 2) := by decide +kernel
theorem dX14_controls_57 : decode cX14_controls 57 = .ok (.ifCond .eq 7, 3) := by decide +kernel
theorem dX14_controls_60 : decode cX14_controls 60 = .ok (.iconst 0, 1) := by decide +kernel
theorem dX14_controls_61 : decode cX14_controls 61 = .ok (.goto 4, 3) := by decide +kernel
theorem dX14_controls_64 : decode cX14_controls 64 = .ok (.iconst 1, 1) := by decide +kernel
theorem dX14_controls_65 : decode cX14_controls 65 = .ok (.isub, 1) := by decide +kernel
theorem dX14_controls_66 : decode cX14_controls 66 = .ok (.iastore, 1) := by decide +kernel
theorem dX14_controls_67 : decode cX14_controls 67 = .ok (.iload_n 3, 1) := by decide +kernel
theorem dX14_controls_68 : decode cX14_controls 68 = .ok (.iload 4, 2) := by decide +kernel
theorem dX14_controls_70 : decode cX14_controls 70 = .ok (.ifCond .eq 7, 3) := by decide +kernel
theorem dX14_controls_73 : decode cX14_controls 73 = .ok (.iconst 0, 1) := by decide +kernel
theorem dX14_controls_74 : decode cX14_controls 74 = .ok (.goto 4, 3) := by decide +kernel
theorem dX14_controls_77 : decode cX14_controls 77 = .ok (.iconst 1, 1) := by decide +kernel
theorem dX14_controls_78 : decode cX14_controls 78 = .ok (.iadd, 1) := by decide +kernel
theorem dX14_controls_79 : decode cX14_controls 79 = .ok (.istore_n 3, 1) := by decide +kernel
theorem dX14_controls_80 : decode cX14_controls 80 = .ok (.goto (-68), 3) := by decide +kernel
theorem dX14_controls_83 : decode cX14_controls 83 = .ok (.iload 4, 2) := by decide +kernel
theorem dX14_controls_85 : decode cX14_controls 85 = .ok (.ifCond .ne 5, 3) := by decide +kernel
theorem dX14_controls_88 : decode cX14_controls 88 = .ok (.iconst 0, 1) := by decide +kernel
theorem dX14_controls_89 : decode cX14_controls 89 = .ok (.ireturn, 1) := by decide +kernel
theorem dX14_controls_90 : decode cX14_controls 90 = .ok (.iinc 2 1, 3) := by decide +kernel
theorem dX14_controls_93 : decode cX14_controls 93 = .ok (.goto (-91), 3) := by decide +kernel
theorem dX14_controls_96 : decode cX14_controls 96 = .ok (.iconst 1, 1) := by decide +kernel
theorem dX14_controls_97 : decode cX14_controls 97 = .ok (.ireturn, 1) := by decide +kernel
set_option maxRecDepth 100000 in
set_option maxHeartbeats 4000000 in
theorem m_controls (l : Launch) (D : va_G) (cy : Nat → ClassId) {eda ca : Nat} {ia : Nat → Nat} {σ : SG} {K : KM} {g : GH} {n S hw : Nat} (h : Inv eda ia K g n S hw σ) {d lf : Nat} (hd : sgT σ d = 16) (hlf : sgR σ d 15 = some lf) (tlf : sgT σ lf = 100) (nlf : sgN σ lf = 4) (sz : Nat) : sgM l D cy eda ca ia σ sz yX14_controls (Cond.code yX14_controls cX14_controls 5 (some .boolean) :: mWall) 0 0 0 0 [.ref (kA K), .ref d] (fun v σ2 => ∃ b : Int32, v = some (.int b) ∧ (b = 0 ∨ b = 1) ∧ Inv eda ia K g n S hw σ2 ∧ dFr σ σ2) := by
  refine sg_ofW (cc := cX14_controls) (maxL := 5) (ret := (some .boolean)) (by decide) rfl (Nat.le_of_ble_eq_true rfl) (lv := [(0, .ref (kA K)), (1, .ref d)]) rfl (fun p e s m below meth c ls H N hrt hnm F hB hl => ?_) sz
  have hx := F.1.1
  have hb := F.1.2.1
  have hown := F.1.2.2.2.1
  have hA16 : sgT σ (kA K) ≠ 16 := by rw [inv_A h]; decide
  have hl16 : sgT σ lf ≠ 16 := by rw [tlf]; decide
  generalize hlo : ([] : List Loc) = locs at hB ⊢
  clear hlo
  refine lv_iconst (v := 0) hx hb dX14_controls_0 (by decide) ?_
  refine lv_istore_n (lv' := [(2, .int _), (0, .ref _), (1, .ref _)]) hx hb dX14_controls_1 rfl hl (by decide) rfl (fun ls hl => ?_)
  have key2 : ∃ (σ3 : SG) (k9 : Int32), sgB D cy s σ σ3 H locs N 0 ∧ lv_has ls 5 [(2, .int k9), (1, .ref d), (0, .ref (kA K))] ∧ Inv eda ia K g n S hw σ3 ∧ (0 ≤ k9.toInt ∧ k9.toInt ≤ 5) ∧ dFr σ σ3 := ⟨_, _, hB, (lv_sub hl [0, 2, 1] rfl), h, ⟨by decide, by decide⟩, dFr_rf⟩
  clear hB hl
  obtain ⟨σ3, k9, hB, hl, hI3, hi, hf3⟩ := key2
  obtain ⟨d2, hd2⟩ : ∃ d : Nat, d = 5 - k9.toInt.toNat := ⟨_, rfl⟩
  induction d2 using Nat.strongRecOn generalizing H locs ls N σ3 k9
  rename_i d2 ih2
  have m5 : (5 : Int32).toInt = 5 := rfl
  refine lv_iload_n hx hb dX14_controls_2 rfl (lv_at hl 0 rfl) ?_
  refine lv_iconst (v := 5) hx hb dX14_controls_3 (by decide) ?_
  refine lv_icmp_ge (tgt := 96) hx hb dX14_controls_4 (by decide) (fun c4 => ?_) (fun c4 => ?_)
  · refine lv_iconst (v := 1) hx hb dX14_controls_96 (by decide) ?_
    exact sg_zret F hB hrt dX14_controls_97 (by decide) (by decide) rfl (⟨_, rfl, by first | exact Or.inl rfl | exact Or.inr rfl, hI3, hf3⟩)
  · refine lv_iconst (v := 0) hx hb dX14_controls_7 (by decide) ?_
    refine lv_istore_n (lv' := [(3, .int _), (2, .int _), (1, .ref _), (0, .ref _)]) hx hb dX14_controls_8 rfl hl (by decide) rfl (fun ls hl => ?_)
    refine lv_iconst (v := 0) hx hb dX14_controls_9 (by decide) ?_
    refine lv_istore (lv' := [(4, .int _), (3, .int _), (2, .int _), (1, .ref _), (0, .ref _)]) hx hb dX14_controls_10 hl (by decide) rfl (fun ls hl => ?_)
    have key12 : ∃ (σ3 : SG) (f9 b9 : Int32), sgB D cy s σ σ3 H locs N 0 ∧ lv_has ls 5 [(4, .int b9), (3, .int f9), (2, .int k9), (1, .ref d), (0, .ref (kA K))] ∧ Inv eda ia K g n S hw σ3 ∧ (0 ≤ f9.toInt ∧ f9.toInt ≤ 3) ∧ (b9 = 0 ∨ b9 = 1) ∧ dFr σ σ3 := ⟨σ3, _, _, hB, (lv_sub hl [0, 1, 2, 3, 4] rfl), hI3, ⟨by decide, by decide⟩, Or.inl rfl, hf3⟩
    clear hB hl
    obtain ⟨σ3, f9, b9, hB, hl, hI3, hff, hbb, hf3⟩ := key12
    obtain ⟨d12, hd12⟩ : ∃ d : Nat, d = 2 * (3 - f9.toInt.toNat) + (if b9 = 0 then 1 else 0) := ⟨_, rfl⟩
    induction d12 using Nat.strongRecOn generalizing H locs ls N σ3 f9 b9
    rename_i d12 ih12
    have td3 : sgT σ3 d = 16 := tFr_T hf3.1 hd (by decide)
    have hl3 : sgR σ3 d 15 = some lf := (hf3.2 d 15 hd).2.trans hlf
    have tl3 : sgT σ3 lf = 100 := tFr_T hf3.1 tlf (by decide)
    have nl3 : sgN σ3 lf = 4 := (tFr_N hf3.1 tlf (by decide)).trans nlf
    have m3 : (3 : Int32).toInt = 3 := rfl
    refine lv_iload hx hb dX14_controls_12 (lv_at hl 0 rfl) ?_
    refine lv_if_ne (tgt := 83) hx hb dX14_controls_14 (by decide) (fun c14 => ?_) (fun c14 => ?_)
    · refine lv_iload hx hb dX14_controls_83 (lv_at hl 0 rfl) ?_
      refine lv_if_ne (tgt := 90) hx hb dX14_controls_85 (by decide) (fun c85 => ?_) (fun c85 => ?_)
      · refine lv_iinc (lv' := [(2, .int _), (4, .int _), (3, .int _), (1, .ref _), (0, .ref _)]) hx hb dX14_controls_90 hl (k := 2) rfl rfl (by decide) rfl (fun ls hl => ?_)
        refine lv_goto (tgt := 2) hx hb dX14_controls_93 (by decide) ?_
        have hi3 := i_nle c4
        have e9 : (k9 + Int32.ofInt 1).toInt = k9.toInt + 1 := m_add1 (by omega) (by omega)
        exact ih2 _ (by subst hd2; rw [e9]; omega) _ _ _ _ _ _ hB (lv_sub hl [0, 3, 4] rfl) hI3 ⟨by rw [e9]; omega, by rw [e9]; omega⟩ hf3 rfl
      · refine lv_iconst (v := 0) hx hb dX14_controls_88 (by decide) ?_
        exact sg_zret F hB hrt dX14_controls_89 (by decide) (by decide) rfl (⟨_, rfl, by first | exact Or.inl rfl | exact Or.inr rfl, hI3, hf3⟩)
    · refine lv_iload_n hx hb dX14_controls_17 rfl (lv_at hl 1 rfl) ?_
      refine lv_iconst (v := 3) hx hb dX14_controls_18 (by decide) ?_
      refine lv_icmp_ge (tgt := 83) hx hb dX14_controls_19 (by decide) (fun c19 => ?_) (fun c19 => ?_)
      · refine lv_iload hx hb dX14_controls_83 (lv_at hl 0 rfl) ?_
        refine lv_if_ne (tgt := 90) hx hb dX14_controls_85 (by decide) (fun c85 => ?_) (fun c85 => ?_)
        · refine lv_iinc (lv' := [(2, .int _), (4, .int _), (3, .int _), (1, .ref _), (0, .ref _)]) hx hb dX14_controls_90 hl (k := 2) rfl rfl (by decide) rfl (fun ls hl => ?_)
          refine lv_goto (tgt := 2) hx hb dX14_controls_93 (by decide) ?_
          have hi3 := i_nle c4
          have e9 : (k9 + Int32.ofInt 1).toInt = k9.toInt + 1 := m_add1 (by omega) (by omega)
          exact ih2 _ (by subst hd2; rw [e9]; omega) _ _ _ _ _ _ hB (lv_sub hl [0, 3, 4] rfl) hI3 ⟨by rw [e9]; omega, by rw [e9]; omega⟩ hf3 rfl
        · refine lv_iconst (v := 0) hx hb dX14_controls_88 (by decide) ?_
          exact sg_zret F hB hrt dX14_controls_89 (by decide) (by decide) rfl (⟨_, rfl, by first | exact Or.inl rfl | exact Or.inr rfl, hI3, hf3⟩)
      · refine lv_aload_n hx hb dX14_controls_22 rfl (lv_at hl 4 rfl) ?_
        refine lv_dup hx hb dX14_controls_23 rfl ?_
        refine gf_X14_163 F hB dX14_controls_24 (inv_A hI3) ?_
        refine lv_iconst (v := 1) hx hb dX14_controls_27 (by decide) ?_
        refine lv_iadd hx hb dX14_controls_28 ?_
        refine pf_X14_163 F hB dX14_controls_29 (inv_A hI3) (fun H locs hBn => ?_)
        clear hB; have hB := hBn; clear hBn
        have hI29 := inv_PIc (t := 20) hB hI3 (inv_A hI3) (by unfold iCn; omega)
        refine lv_aload_n hx hb dX14_controls_32 rfl (lv_at hl 3 rfl) ?_
        refine gr_X14_166 F hB dX14_controls_33 (by exact td3) (by exact hl3) ?_
        refine lv_iconst (v := 0) hx hb dX14_controls_36 (by decide) ?_
        refine sg_iald hx hb F.2.1 hB.1 dX14_controls_37 (by exact tl3) (by decide) (m_ltN nl3 (by decide)) (m_ltM nl3 (by decide)) ?_
        refine lv_if_ne (tgt := 45) hx hb dX14_controls_38 (by decide) (fun c38 => ?_) (fun c38 => ?_)
        · refine lv_iconst (v := 0) hx hb dX14_controls_45 (by decide) ?_
          refine lv_istore (lv' := [(4, .int _), (3, .int _), (2, .int _), (1, .ref _), (0, .ref _)]) hx hb dX14_controls_46 hl (by decide) rfl (fun ls hl => ?_)
          refine lv_aload_n hx hb dX14_controls_48 rfl (lv_at hl 3 rfl) ?_
          refine gr_X14_166 F hB dX14_controls_49 (by exact td3) (by exact hl3) ?_
          refine lv_iconst (v := 0) hx hb dX14_controls_52 (by decide) ?_
          refine lv_dup2_11 hx hb dX14_controls_53 rfl rfl ?_
          refine sg_iald hx hb F.2.1 hB.1 dX14_controls_54 (by exact tl3) (by decide) (m_ltN nl3 (by decide)) (m_ltM nl3 (by decide)) ?_
          refine lv_iload hx hb dX14_controls_55 (lv_at hl 0 rfl) ?_
          refine lv_if_eq (tgt := 64) hx hb dX14_controls_57 (by decide) (fun c57 => ?_) (fun c57 => (by first | exact absurd c57 (by decide) | exact (c57 (by decide)).elim))
          refine lv_iconst (v := 1) hx hb dX14_controls_64 (by decide) ?_
          refine lv_isub hx hb dX14_controls_65 ?_
          refine sg_iast hx hb F.2.1 hB.1 dX14_controls_66 (by exact tl3) (by decide) (m_ltN nl3 (by decide)) (m_ltM nl3 (by decide)) (fun H locs hs1 => ?_)
          have hBn := sgB_w hB hs1 (fun _ => rfl) (fun _ => rfl) (Nat.le_of_eq (sgPot_I (Or.inl (by rw [show sgT _ _ = _ from (by exact tl3)]; decide))))
          clear hB; have hB := hBn; clear hBn
          have hI66 := inv_PIc (t := 100) hB hI29 (by exact tl3) (by unfold iCn; omega)
          refine lv_iload_n hx hb dX14_controls_67 rfl (lv_at hl 1 rfl) ?_
          refine lv_iload hx hb dX14_controls_68 (lv_at hl 0 rfl) ?_
          refine lv_if_eq (tgt := 77) hx hb dX14_controls_70 (by decide) (fun c70 => ?_) (fun c70 => (by first | exact absurd c70 (by decide) | exact (c70 (by decide)).elim))
          refine lv_iconst (v := 1) hx hb dX14_controls_77 (by decide) ?_
          refine lv_iadd hx hb dX14_controls_78 ?_
          refine lv_istore_n (lv' := [(3, .int _), (4, .int _), (2, .int _), (1, .ref _), (0, .ref _)]) hx hb dX14_controls_79 rfl hl (by decide) rfl (fun ls hl => ?_)
          refine lv_goto (tgt := 12) hx hb dX14_controls_80 (by decide) ?_
          have hi3 := i_nle c19
          have e0 : (f9 + 0).toInt = f9.toInt := m_add0 (by omega) (by omega)
          have e1 : (f9 + 1).toInt = f9.toInt + 1 := m_add1 (by omega) (by omega)
          first
            | exact ih12 _ (by subst hd12; rw [e0, if_neg (by decide), if_pos c14]; omega) _ _ _ _ _ _ _ hB (lv_sub hl [1, 0, 2, 3, 4] rfl) hI66 ⟨by rw [e0]; omega, by rw [e0]; omega⟩ (Or.inr rfl) (dFr_PI (dFr_PI hf3 hA16) hl16) rfl
            | exact ih12 _ (by subst hd12; rw [e1, if_pos rfl, if_pos c14]; omega) _ _ _ _ _ _ _ hB (lv_sub hl [1, 0, 2, 3, 4] rfl) hI66 ⟨by rw [e1]; omega, by rw [e1]; omega⟩ (Or.inl rfl) (dFr_PI (dFr_PI hf3 hA16) hl16) rfl
        · refine lv_iconst (v := 1) hx hb dX14_controls_41 (by decide) ?_
          refine lv_goto (tgt := 46) hx hb dX14_controls_42 (by decide) ?_
          refine lv_istore (lv' := [(4, .int _), (3, .int _), (2, .int _), (1, .ref _), (0, .ref _)]) hx hb dX14_controls_46 hl (by decide) rfl (fun ls hl => ?_)
          refine lv_aload_n hx hb dX14_controls_48 rfl (lv_at hl 3 rfl) ?_
          refine gr_X14_166 F hB dX14_controls_49 (by exact td3) (by exact hl3) ?_
          refine lv_iconst (v := 0) hx hb dX14_controls_52 (by decide) ?_
          refine lv_dup2_11 hx hb dX14_controls_53 rfl rfl ?_
          refine sg_iald hx hb F.2.1 hB.1 dX14_controls_54 (by exact tl3) (by decide) (m_ltN nl3 (by decide)) (m_ltM nl3 (by decide)) ?_
          refine lv_iload hx hb dX14_controls_55 (lv_at hl 0 rfl) ?_
          refine lv_if_eq (tgt := 64) hx hb dX14_controls_57 (by decide) (fun c57 => (by first | exact absurd c57 (by decide) | exact (c57 (by decide)).elim)) (fun c57 => ?_)
          refine lv_iconst (v := 0) hx hb dX14_controls_60 (by decide) ?_
          refine lv_goto (tgt := 65) hx hb dX14_controls_61 (by decide) ?_
          refine lv_isub hx hb dX14_controls_65 ?_
          refine sg_iast hx hb F.2.1 hB.1 dX14_controls_66 (by exact tl3) (by decide) (m_ltN nl3 (by decide)) (m_ltM nl3 (by decide)) (fun H locs hs1 => ?_)
          have hBn := sgB_w hB hs1 (fun _ => rfl) (fun _ => rfl) (Nat.le_of_eq (sgPot_I (Or.inl (by rw [show sgT _ _ = _ from (by exact tl3)]; decide))))
          clear hB; have hB := hBn; clear hBn
          have hI66 := inv_PIc (t := 100) hB hI29 (by exact tl3) (by unfold iCn; omega)
          refine lv_iload_n hx hb dX14_controls_67 rfl (lv_at hl 1 rfl) ?_
          refine lv_iload hx hb dX14_controls_68 (lv_at hl 0 rfl) ?_
          refine lv_if_eq (tgt := 77) hx hb dX14_controls_70 (by decide) (fun c70 => (by first | exact absurd c70 (by decide) | exact (c70 (by decide)).elim)) (fun c70 => ?_)
          refine lv_iconst (v := 0) hx hb dX14_controls_73 (by decide) ?_
          refine lv_goto (tgt := 78) hx hb dX14_controls_74 (by decide) ?_
          refine lv_iadd hx hb dX14_controls_78 ?_
          refine lv_istore_n (lv' := [(3, .int _), (4, .int _), (2, .int _), (1, .ref _), (0, .ref _)]) hx hb dX14_controls_79 rfl hl (by decide) rfl (fun ls hl => ?_)
          refine lv_goto (tgt := 12) hx hb dX14_controls_80 (by decide) ?_
          have hi3 := i_nle c19
          have e0 : (f9 + 0).toInt = f9.toInt := m_add0 (by omega) (by omega)
          have e1 : (f9 + 1).toInt = f9.toInt + 1 := m_add1 (by omega) (by omega)
          first
            | exact ih12 _ (by subst hd12; rw [e0, if_neg (by decide), if_pos c14]; omega) _ _ _ _ _ _ _ hB (lv_sub hl [1, 0, 2, 3, 4] rfl) hI66 ⟨by rw [e0]; omega, by rw [e0]; omega⟩ (Or.inr rfl) (dFr_PI (dFr_PI hf3 hA16) hl16) rfl
            | exact ih12 _ (by subst hd12; rw [e1, if_pos rfl, if_pos c14]; omega) _ _ _ _ _ _ _ hB (lv_sub hl [1, 0, 2, 3, 4] rfl) hI66 ⟨by rw [e1]; omega, by rw [e1]; omega⟩ (Or.inl rfl) (dFr_PI (dFr_PI hf3 hA16) hl16) rfl
theorem dX14_freeAddress_0 : decode cX14_freeAddress 0 = .ok (.iconst 1, 1) := by decide +kernel
theorem dX14_freeAddress_1 : decode cX14_freeAddress 1 = .ok (.istore_n 1, 1) := by decide +kernel
theorem dX14_freeAddress_2 : decode cX14_freeAddress 2 = .ok (.iconst 0, 1) := by decide +kernel
theorem dX14_freeAddress_3 : decode cX14_freeAddress 3 = .ok (.istore_n 2, 1) := by decide +kernel
theorem dX14_freeAddress_4 : decode cX14_freeAddress 4 = .ok (.iload_n 2, 1) := by decide +kernel
theorem dX14_freeAddress_5 : decode cX14_freeAddress 5 = .ok (.ifCond .ne 70, 3) := by decide +kernel
theorem dX14_freeAddress_8 : decode cX14_freeAddress 8 = .ok (.iconst 1, 1) := by decide +kernel
theorem dX14_freeAddress_9 : decode cX14_freeAddress 9 = .ok (.istore_n 2, 1) := by decide +kernel
theorem dX14_freeAddress_10 : decode cX14_freeAddress 10 = .ok (.aload_n 0, 1) := by decide +kernel
theorem dX14_freeAddress_11 : decode cX14_freeAddress 11 = .ok (.getfield 10, 3) := by decide +kernel
theorem dX14_freeAddress_14 : decode cX14_freeAddress 14 = .ok (.invokevirtual 108, 3) := by decide +kernel
theorem dX14_freeAddress_17 : decode cX14_freeAddress 17 = .ok (.astore_n 3, 1) := by decide +kernel
theorem dX14_freeAddress_18 : decode cX14_freeAddress 18 = .ok (.aload_n 3, 1) := by decide +kernel
theorem dX14_freeAddress_19 : decode cX14_freeAddress 19 = .ok (.invokeinterface 112 1, 5) := by decide +kernel
theorem dX14_freeAddress_24 : decode cX14_freeAddress 24 = .ok (.ifCond .eq 36, 3) := by decide +kernel
theorem dX14_freeAddress_27 : decode cX14_freeAddress 27 = .ok (.aload_n 3, 1) := by decide +kernel
theorem dX14_freeAddress_28 : decode cX14_freeAddress 28 = .ok (.invokeinterface 118 1, 5) := by decide +kernel
theorem dX14_freeAddress_33 : decode cX14_freeAddress 33 = .ok (.checkcast 48, 3) := by decide +kernel
theorem dX14_freeAddress_36 : decode cX14_freeAddress 36 = .ok (.astore 4, 2) := by decide +kernel
theorem dX14_freeAddress_38 : decode cX14_freeAddress 38 = .ok (.iload_n 2, 1) := by decide +kernel
theorem dX14_freeAddress_39 : decode cX14_freeAddress 39 = .ok (.ifCond .eq 16, 3) := by decide +kernel
theorem dX14_freeAddress_42 : decode cX14_freeAddress 42 = .ok (.aload 4, 2) := by decide +kernel
theorem dX14_freeAddress_44 : decode cX14_freeAddress 44 = .ok (.getfield 140, 3) := by decide +kernel
theorem dX14_freeAddress_47 : decode cX14_freeAddress 47 = .ok (.iload_n 1, 1) := by decide +kernel
theorem dX14_freeAddress_48 : decode cX14_freeAddress 48 = .ok (.if_icmp .eq 7, 3) := by decide +kernel
theorem dX14_freeAddress_51 : decode cX14_freeAddress 51 = .ok (.iconst 1, 1) := by decide +kernel
theorem dX14_freeAddress_52 : decode cX14_freeAddress 52 = .ok (.goto 4, 3) := by decide +kernel
theorem dX14_freeAddress_55 : decode cX14_freeAddress 55 = .ok (.iconst 0, 1) := by decide +kernel
theorem dX14_freeAddress_56 : decode cX14_freeAddress 56 = .ok (.istore_n 2, 1) := by decide +kernel
theorem dX14_freeAddress_57 : decode cX14_freeAddress 57 = .ok (.goto (-39), 3) := by decide +kernel
theorem dX14_freeAddress_60 : decode cX14_freeAddress 60 = .ok (.iload_n 1, 1) := by decide +kernel
theorem dX14_freeAddress_61 : decode cX14_freeAddress 61 = .ok (.iload_n 2, 1) := by decide +kernel
theorem dX14_freeAddress_62 : decode cX14_freeAddress 62 = .ok (.ifCond .eq 7, 3) := by decide +kernel
theorem dX14_freeAddress_65 : decode cX14_freeAddress 65 = .ok (.iconst 0, 1) := by decide +kernel
theorem dX14_freeAddress_66 : decode cX14_freeAddress 66 = .ok (.goto 4, 3) := by decide +kernel
theorem dX14_freeAddress_69 : decode cX14_freeAddress 69 = .ok (.iconst 1, 1) := by decide +kernel
theorem dX14_freeAddress_70 : decode cX14_freeAddress 70 = .ok (.iadd, 1) := by decide +kernel
theorem dX14_freeAddress_71 : decode cX14_freeAddress 71 = .ok (.istore_n 1, 1) := by decide +kernel
theorem dX14_freeAddress_72 : decode cX14_freeAddress 72 = .ok (.goto (-68), 3) := by decide +kernel
theorem dX14_freeAddress_75 : decode cX14_freeAddress 75 = .ok (.iload_n 1, 1) := by decide +kernel
theorem dX14_freeAddress_76 : decode cX14_freeAddress 76 = .ok (.ireturn, 1) := by decide +kernel
set_option maxRecDepth 100000 in
set_option maxHeartbeats 4000000 in
theorem m_freeAddr (l : Launch) (D : va_G) (cy : Nat → ClassId) {eda ca : Nat} {ia : Nat → Nat} {σ : SG} {K : KM} {g : GH} {n S hw : Nat} (h : Inv eda ia K g n S hw σ) (sz : Nat) : sgM l D cy eda ca ia σ sz yX14_freeAddress (Cond.code yX14_freeAddress cX14_freeAddress 5 (some .int) :: mWall) 3 55 17 68 [.ref (kA K)] (fun v σ2 => (∃ y : Int32, v = some (.int y)) ∧ Inv eda ia K g n S hw σ2 ∧ dFr σ σ2) := by
  refine sg_ofW (cc := cX14_freeAddress) (maxL := 5) (ret := (some .int)) (by decide) rfl (Nat.le_of_ble_eq_true rfl) (lv := [(0, .ref (kA K))]) rfl (fun p e s m below meth c ls H N hrt hnm F hB hl => ?_) sz
  have hx := F.1.1
  have hb := F.1.2.1
  have hown := F.1.2.2.2.1
  obtain ⟨z1, z2, z3⟩ := inv_sz h
  generalize hlo : ([] : List Loc) = locs at hB ⊢
  clear hlo
  obtain ⟨kc, hkc⟩ : ∃ kc : Nat, kc = 0 := ⟨_, rfl⟩
  refine W.widen (k := kc) (n := N) (by omega) (Nat.le_refl _) ?_
  refine lv_iconst (v := 1) hx hb dX14_freeAddress_0 (by decide) ?_
  refine lv_istore_n (lv' := [(1, .int _), (0, .ref _)]) hx hb dX14_freeAddress_1 rfl hl (by decide) rfl (fun ls hl => ?_)
  refine lv_iconst (v := 0) hx hb dX14_freeAddress_2 (by decide) ?_
  refine lv_istore_n (lv' := [(2, .int _), (1, .int _), (0, .ref _)]) hx hb dX14_freeAddress_3 rfl hl (by decide) rfl (fun ls hl => ?_)
  have key4 : ∃ (σ3 : SG) (a9 b9 : Int32) (nc : Nat), sgB D cy s σ σ3 H locs N nc ∧ lv_has ls 5 [(2, .int b9), (1, .int a9), (0, .ref (kA K))] ∧ Inv eda ia K g n S hw σ3 ∧ (1 ≤ a9.toInt ∧ a9.toInt + cntA (fun k => (sgI σ (gDv g k) 9).toInt) a9.toInt n ≤ n + 1) ∧ (kc + (if b9 = 0 then 1 else 0) ≤ a9.toInt.toNat ∧ nc ≤ 4 * kc) ∧ dFr σ σ3 := ⟨_, _, _, _, hB, (lv_sub hl [0, 1, 2] rfl), h, ⟨by decide, by have := cntA_le (fun k => (sgI σ (gDv g k) 9).toInt) (1 : Int32).toInt n; rw [show (1 : Int32).toInt = 1 from rfl] at this ⊢; omega⟩, ⟨by rw [if_pos rfl, hkc]; decide, Nat.zero_le _⟩, dFr_rf⟩
  clear hB hl hkc
  obtain ⟨σ3, a9, b9, nc, hB, hl, hI3, ha9, hkn, hf3⟩ := key4
  obtain ⟨d4, hd4⟩ : ∃ d : Nat, d = (if b9 = 0 then 1 + cntA (fun k => (sgI σ (gDv g k) 9).toInt) a9.toInt n else 0) := ⟨_, rfl⟩
  induction d4 using Nat.strongRecOn generalizing H locs ls N σ3 a9 b9 nc kc
  rename_i d4 ih4
  refine lv_iload_n hx hb dX14_freeAddress_4 rfl (lv_at hl 0 rfl) ?_
  refine lv_if_ne (tgt := 75) hx hb dX14_freeAddress_5 (by decide) (fun c5 => ?_) (fun c5 => ?_)
  · have hk17 : kc ≤ 17 ∧ nc ≤ 68 := by rw [if_neg c5] at hkn; omega
    refine lv_iload_n hx hb dX14_freeAddress_75 rfl (lv_at hl 1 rfl) ?_
    exact sg_iret F hB hrt dX14_freeAddress_76 (by omega) (by omega) (⟨⟨_, rfl⟩, hI3, hf3⟩)
  · refine lv_iconst (v := 1) hx hb dX14_freeAddress_8 (by decide) ?_
    refine lv_istore_n (lv' := [(2, .int _), (1, .int _), (0, .ref _)]) hx hb dX14_freeAddress_9 rfl hl (by decide) rfl (fun ls hl => ?_)
    refine lv_aload_n hx hb dX14_freeAddress_10 rfl (lv_at hl 2 rfl) ?_
    refine gr_X14_10 F hB dX14_freeAddress_11 (inv_A hI3) (inv_r1 hI3) ?_
    have hk16 : kc + 1 ≤ 17 ∧ nc + 4 ≤ 68 := by rw [if_pos c5] at hkn; omega
    refine sg_callV (ci := 4) F hB (m_iter l D cy (by exact (inv_tD hI3).1) _) (cwV 0 F.1.2.2.2.2 (mgV (mm_5 _ (List.mem_of_getElem? (i := 6) rfl)) (mm_5 _ (List.mem_of_getElem? (i := 7) rfl)) (mm_5 _ (List.mem_of_getElem? (i := 8) rfl)) (mm_0 _ (List.mem_of_getElem? (i := 35) rfl)) (mm_4 _ (List.mem_of_getElem? (i := 32) rfl))) rfl rfl rfl ⟨rfl, by decide, by decide, by decide +kernel⟩ ⟨Nat.le_of_ble_eq_true rfl, Nat.le_of_ble_eq_true rfl⟩) rfl rfl (by decide) rfl hl.1 rfl (Nat.le_of_ble_eq_true rfl) dX14_freeAddress_14 (by show _ ≤ 17; omega) (Nat.add_le_add_right (by omega) _) (inv_tD hI3).1 (fun H locs v σ14 N hBn hX14 hP => ?_)
    clear hB; have hB := hBn; clear hBn
    obtain ⟨q14, rfl, hq14, hit14⟩ := hP
    have hI14 := inv_Qt hI3 hit14.1 (sg_eda F hB)
    have hf14 := itF_0 (inv_tD hI3).1 hit14
    refine lv_astore_n (lv' := [(3, .ref _), (2, .int _), (1, .int _), (0, .ref _)]) hx hb dX14_freeAddress_17 rfl hl (by decide) rfl (fun ls hl => ?_)
    have key18 : ∃ (σ4 : SG) (j : Nat) (b8 : Int32), sgB D cy s σ σ4 H locs N (nc + 4) ∧ lv_has ls 5 [(3, .ref q14), (2, .int b8), (1, .int a9), (0, .ref (kA K))] ∧ Inv eda ia K g n S hw σ4 ∧ itF (kD K) q14 j σ4 ∧ (b8 = 0 → ∃ k, k < n ∧ (sgI σ (gDv g k) 9).toInt = a9.toInt) ∧ dFr σ σ4 := ⟨_, 0, _, hB, (lv_sub hl [0, 1, 2, 3] rfl), hI14, hf14, fun z => absurd z (by decide), dFr_Qt hf3 hit14.1⟩
    clear hB hl
    obtain ⟨σ4, j, b8, hB, hl, hI4, hf4, hx4, hdf4⟩ := key18
    obtain ⟨d18, hd18⟩ : ∃ d : Nat, d = sgSz σ4 (kD K) - j := ⟨_, rfl⟩
    induction d18 using Nat.strongRecOn generalizing H locs ls N σ4 j b8
    rename_i d18 ih18
    refine lv_aload_n hx hb dX14_freeAddress_18 rfl (lv_at hl 0 rfl) ?_
    refine sg_callF (ci := 3) F hB (m_hasN l D cy hI4 hf4 _) (va_cwF 0 F.1.2.2.2.2 (mgF (mm_5 _ (List.mem_of_getElem? (i := 9) rfl)) (mm_5 _ (List.mem_of_getElem? (i := 10) rfl)) (mm_5 _ (List.mem_of_getElem? (i := 11) rfl)) (mm_4 _ (List.mem_of_getElem? (i := 35) rfl)) (mm_4 _ (List.mem_of_getElem? (i := 38) rfl))) rfl rfl rfl F.2.2.2.1.2.2.2.2.2.2.1 (by decide +kernel) ⟨Nat.le_of_ble_eq_true rfl, Nat.le_of_ble_eq_true rfl⟩) rfl rfl (by decide) rfl hl.1 rfl (Nat.le_of_ble_eq_true rfl) dX14_freeAddress_19 (by show _ ≤ 17; omega) (Nat.add_le_add_right (by omega) _) hf4.1 (fun H locs v σ19 N hBn hX19 hP => ?_)
    clear hB; have hB := hBn; clear hBn
    obtain ⟨b19, rfl, rfl, hb19⟩ := hP
    refine lv_if_eq (tgt := 60) hx hb dX14_freeAddress_24 (by decide) (fun c24 => ?_) (fun c24 => ?_)
    · refine lv_iload_n hx hb dX14_freeAddress_60 rfl (lv_at hl 2 rfl) ?_
      refine lv_iload_n hx hb dX14_freeAddress_61 rfl (lv_at hl 1 rfl) ?_
      refine lv_if_eq (tgt := 69) hx hb dX14_freeAddress_62 (by decide) (fun c62 => ?_) (fun c62 => ?_)
      · refine lv_iconst (v := 1) hx hb dX14_freeAddress_69 (by decide) ?_
        refine lv_iadd hx hb dX14_freeAddress_70 ?_
        refine lv_istore_n (lv' := [(1, .int _), (3, .ref _), (2, .int _), (0, .ref _)]) hx hb dX14_freeAddress_71 rfl hl (by decide) rfl (fun ls hl => ?_)
        refine lv_goto (tgt := 4) hx hb dX14_freeAddress_72 (by decide) ?_
        have m1 : (1 : Int32).toInt = 1 := rfl
        have e0 : (a9 + 0).toInt = a9.toInt := m_add0 (by omega) (by omega)
        have e1 : (a9 + 1).toInt = a9.toInt + 1 := m_add1 (by omega) (by omega)
        rw [if_pos c5] at hkn
        first
          | (have hb1 : ¬ b8 = 0 := c62
             exact ih4 _ (by subst hd4; rw [if_neg hb1, if_pos c5]; omega) _ _ _ _ _ _ _ _ _ hB (lv_sub hl [2, 0, 3] rfl) hI4 ⟨by rw [e0]; omega, by rw [e0]; omega⟩ ⟨by rw [if_neg hb1, e0]; show kc + 1 + 0 ≤ _; omega, by show nc + 4 ≤ 4 * (kc + 1); omega⟩ hdf4 rfl)
          | (have hb1 : b8 = 0 := c62
             have hc := cntA_lt (fun k => (sgI σ (gDv g k) 9).toInt) a9.toInt n (hx4 hb1)
             exact ih4 _ (by subst hd4; rw [if_pos hb1, if_pos c5, e1]; omega) _ _ _ _ _ _ _ _ _ hB (lv_sub hl [2, 0, 3] rfl) hI4 ⟨by rw [e1]; omega, by rw [e1]; omega⟩ ⟨by rw [if_pos hb1, e1]; show kc + 1 + 1 ≤ _; omega, by show nc + 4 ≤ 4 * (kc + 1); omega⟩ hdf4 rfl)
      · refine lv_iconst (v := 0) hx hb dX14_freeAddress_65 (by decide) ?_
        refine lv_goto (tgt := 70) hx hb dX14_freeAddress_66 (by decide) ?_
        refine lv_iadd hx hb dX14_freeAddress_70 ?_
        refine lv_istore_n (lv' := [(1, .int _), (3, .ref _), (2, .int _), (0, .ref _)]) hx hb dX14_freeAddress_71 rfl hl (by decide) rfl (fun ls hl => ?_)
        refine lv_goto (tgt := 4) hx hb dX14_freeAddress_72 (by decide) ?_
        have m1 : (1 : Int32).toInt = 1 := rfl
        have e0 : (a9 + 0).toInt = a9.toInt := m_add0 (by omega) (by omega)
        have e1 : (a9 + 1).toInt = a9.toInt + 1 := m_add1 (by omega) (by omega)
        rw [if_pos c5] at hkn
        first
          | (have hb1 : ¬ b8 = 0 := c62
             exact ih4 _ (by subst hd4; rw [if_neg hb1, if_pos c5]; omega) _ _ _ _ _ _ _ _ _ hB (lv_sub hl [2, 0, 3] rfl) hI4 ⟨by rw [e0]; omega, by rw [e0]; omega⟩ ⟨by rw [if_neg hb1, e0]; show kc + 1 + 0 ≤ _; omega, by show nc + 4 ≤ 4 * (kc + 1); omega⟩ hdf4 rfl)
          | (have hb1 : b8 = 0 := c62
             have hc := cntA_lt (fun k => (sgI σ (gDv g k) 9).toInt) a9.toInt n (hx4 hb1)
             exact ih4 _ (by subst hd4; rw [if_pos hb1, if_pos c5, e1]; omega) _ _ _ _ _ _ _ _ _ hB (lv_sub hl [2, 0, 3] rfl) hI4 ⟨by rw [e1]; omega, by rw [e1]; omega⟩ ⟨by rw [if_pos hb1, e1]; show kc + 1 + 1 ≤ _; omega, by show nc + 4 ≤ 4 * (kc + 1); omega⟩ hdf4 rfl)
    · refine lv_aload_n hx hb dX14_freeAddress_27 rfl (lv_at hl 0 rfl) ?_
      refine sg_callF (ci := 3) F hB (m_nextI l D cy hI4 hf4 (sgb_t hb19 c24) _) (va_cwF 0 F.1.2.2.2.2 (mgF (mm_5 _ (List.mem_of_getElem? (i := 12) rfl)) (mm_5 _ (List.mem_of_getElem? (i := 13) rfl)) (mm_5 _ (List.mem_of_getElem? (i := 14) rfl)) (mm_4 _ (List.mem_of_getElem? (i := 35) rfl)) (mm_5 _ (List.mem_of_getElem? (i := 1) rfl))) rfl rfl rfl F.2.2.2.1.2.2.2.2.2.2.2.1 (by decide +kernel) ⟨Nat.le_of_ble_eq_true rfl, Nat.le_of_ble_eq_true rfl⟩) rfl rfl (by decide) rfl hl.1 rfl (Nat.le_of_ble_eq_true rfl) dX14_freeAddress_28 (by show _ ≤ 17; omega) (Nat.add_le_add_right (by omega) _) hf4.1 (fun H locs v σ28 N hBn hX28 hP => ?_)
      clear hB; have hB := hBn; clear hBn
      obtain ⟨y28, rfl, ha28, hE28, hI28, hf28, hs28⟩ := hP
      have ty28 : sgT σ28 y28 = 16 ∧ gDv g j = y28 := by
        unfold iEl at hE28
        rw [(inv_tD hI4).2] at hE28
        rw [← hs28]
        exact ⟨hE28.1, hE28.2.1⟩
      have hy9 := ty28.2
      have hj9 : j < n := by have := sgb_t hb19 c24; rw [inv_n hI4] at this; exact this
      refine va_castY hx hb hown (F.1.2.2.2.2 _ (List.mem_cons_of_mem _ (mm_4 _ (List.mem_of_getElem? (i := 2) rfl)))) (F.2.2.1.2.2 ("HubcascadeModel$Device", "HubcascadeModel$Device") (by decide +kernel)) (sg_recv (ci := 15) F.2.1 hB ty28.1 (by decide) rfl) dX14_freeAddress_33 ?_
      refine lv_astore (lv' := [(4, .ref _), (3, .ref _), (2, .int _), (1, .int _), (0, .ref _)]) hx hb dX14_freeAddress_36 hl (by decide) rfl (fun ls hl => ?_)
      refine lv_iload_n hx hb dX14_freeAddress_38 rfl (lv_at hl 2 rfl) ?_
      refine lv_if_eq (tgt := 55) hx hb dX14_freeAddress_39 (by decide) (fun c39 => ?_) (fun c39 => ?_)
      · refine lv_iconst (v := 0) hx hb dX14_freeAddress_55 (by decide) ?_
        refine lv_istore_n (lv' := [(2, .int _), (4, .ref _), (3, .ref _), (1, .int _), (0, .ref _)]) hx hb dX14_freeAddress_56 rfl hl (by decide) rfl (fun ls hl => ?_)
        refine lv_goto (tgt := 18) hx hb dX14_freeAddress_57 (by decide) ?_
        have hq9 : sgT σ q14 ≠ 16 := fun z => by
          have := tFr_T hdf4.1 z (by decide)
          rw [hf4.1] at this
          exact absurd this (by decide)
        have hdd : dFr σ σ28 := by rw [← hs28]; exact dFr_PI (dFr_PI hdf4 hq9) hq9
        exact ih18 _ (by subst hd18; have := sgb_t hb19 c24; have e9 : sgSz σ28 (kD K) = sgSz σ4 (kD K) := (by rw [← hs28, sgSz_nk (by decide), sgSz_nk (by decide)]); omega) _ _ _ _ _ _ _ hB (lv_sub hl [2, 0, 3, 4] rfl) hI28 hf28 (by first | exact fun z => absurd z (by decide) | exact fun _ => hx4 c39 | (exact fun _ => ⟨j, hj9, by have q := m_eqI c48; rw [← (hdd.2 _ 9 (inv_dv h hj9).2.1).1, hy9]; exact q⟩)) hdd rfl
      · refine lv_aload hx hb dX14_freeAddress_42 (lv_at hl 0 rfl) ?_
        refine gf_X14_140 F hB dX14_freeAddress_44 ty28.1 ?_
        refine lv_iload_n hx hb dX14_freeAddress_47 rfl (lv_at hl 3 rfl) ?_
        refine lv_icmp_eq (tgt := 55) hx hb dX14_freeAddress_48 (by decide) (fun c48 => ?_) (fun c48 => ?_)
        · refine lv_iconst (v := 0) hx hb dX14_freeAddress_55 (by decide) ?_
          refine lv_istore_n (lv' := [(2, .int _), (4, .ref _), (3, .ref _), (1, .int _), (0, .ref _)]) hx hb dX14_freeAddress_56 rfl hl (by decide) rfl (fun ls hl => ?_)
          refine lv_goto (tgt := 18) hx hb dX14_freeAddress_57 (by decide) ?_
          have hq9 : sgT σ q14 ≠ 16 := fun z => by
            have := tFr_T hdf4.1 z (by decide)
            rw [hf4.1] at this
            exact absurd this (by decide)
          have hdd : dFr σ σ28 := by rw [← hs28]; exact dFr_PI (dFr_PI hdf4 hq9) hq9
          exact ih18 _ (by subst hd18; have := sgb_t hb19 c24; have e9 : sgSz σ28 (kD K) = sgSz σ4 (kD K) := (by rw [← hs28, sgSz_nk (by decide), sgSz_nk (by decide)]); omega) _ _ _ _ _ _ _ hB (lv_sub hl [2, 0, 3, 4] rfl) hI28 hf28 (by first | exact fun z => absurd z (by decide) | exact fun _ => hx4 c39 | (exact fun _ => ⟨j, hj9, by have q := m_eqI c48; rw [← (hdd.2 _ 9 (inv_dv h hj9).2.1).1, hy9]; exact q⟩)) hdd rfl
        · refine lv_iconst (v := 1) hx hb dX14_freeAddress_51 (by decide) ?_
          refine lv_goto (tgt := 56) hx hb dX14_freeAddress_52 (by decide) ?_
          refine lv_istore_n (lv' := [(2, .int _), (4, .ref _), (3, .ref _), (1, .int _), (0, .ref _)]) hx hb dX14_freeAddress_56 rfl hl (by decide) rfl (fun ls hl => ?_)
          refine lv_goto (tgt := 18) hx hb dX14_freeAddress_57 (by decide) ?_
          have hq9 : sgT σ q14 ≠ 16 := fun z => by
            have := tFr_T hdf4.1 z (by decide)
            rw [hf4.1] at this
            exact absurd this (by decide)
          have hdd : dFr σ σ28 := by rw [← hs28]; exact dFr_PI (dFr_PI hdf4 hq9) hq9
          exact ih18 _ (by subst hd18; have := sgb_t hb19 c24; have e9 : sgSz σ28 (kD K) = sgSz σ4 (kD K) := (by rw [← hs28, sgSz_nk (by decide), sgSz_nk (by decide)]); omega) _ _ _ _ _ _ _ hB (lv_sub hl [2, 0, 3, 4] rfl) hI28 hf28 (by first | exact fun z => absurd z (by decide) | exact fun _ => hx4 c39 | (exact fun _ => ⟨j, hj9, by have q := m_eqI c48; rw [← (hdd.2 _ 9 (inv_dv h hj9).2.1).1, hy9]; exact q⟩)) hdd rfl
theorem dX14_driverFor_0 : decode cX14_driverFor 0 = .ok (.iconst (-1), 1) := by decide +kernel
theorem dX14_driverFor_1 : decode cX14_driverFor 1 = .ok (.istore_n 2, 1) := by decide +kernel
theorem dX14_driverFor_2 : decode cX14_driverFor 2 = .ok (.iconst 0, 1) := by decide +kernel
theorem dX14_driverFor_3 : decode cX14_driverFor 3 = .ok (.istore_n 3, 1) := by decide +kernel
theorem dX14_driverFor_4 : decode cX14_driverFor 4 = .ok (.iload_n 3, 1) := by decide +kernel
theorem dX14_driverFor_5 : decode cX14_driverFor 5 = .ok (.iconst 2, 1) := by decide +kernel
theorem dX14_driverFor_6 : decode cX14_driverFor 6 = .ok (.if_icmp .ge 126, 3) := by decide +kernel
theorem dX14_driverFor_9 : decode cX14_driverFor 9 = .ok (.aload_n 0, 1) := by decide +kernel
theorem dX14_driverFor_10 : decode cX14_driverFor 10 = .ok (.getfield 22, 3) := by decide +kernel
theorem dX14_driverFor_13 : decode cX14_driverFor 13 = .ok (.invokevirtual 64, 3) := by decide +kernel
theorem dX14_driverFor_16 : decode cX14_driverFor 16 = .ok (.iconst 1, 1) := by decide +kernel
theorem dX14_driverFor_17 : decode cX14_driverFor 17 = .ok (.isub, 1) := by decide +kernel
theorem dX14_driverFor_18 : decode cX14_driverFor 18 = .ok (.istore 4, 2) := by decide +kernel
theorem dX14_driverFor_20 : decode cX14_driverFor 20 = .ok (.iload 4, 2) := by decide +kernel
theorem dX14_driverFor_22 : decode cX14_driverFor 22 = .ok (.ifCond .lt 104, 3) := by decide +kernel
theorem dX14_driverFor_25 : decode cX14_driverFor 25 = .ok (.iload_n 3, 1) := by decide +kernel
theorem dX14_driverFor_26 : decode cX14_driverFor 26 = .ok (.ifCond .eq 25, 3) := by decide +kernel
theorem dX14_driverFor_29 : decode cX14_driverFor 29 = .ok (.iload_n 2, 1) := by decide +kernel
theorem dX14_driverFor_30 : decode cX14_driverFor 30 = .ok (.iconst (-1), 1) := by decide +kernel
theorem dX14_driverFor_31 : decode cX14_driverFor 31 = .ok (.if_icmp .eq 20, 3) := by decide +kernel
theorem dX14_driverFor_34 : decode cX14_driverFor 34 = .ok (.aload_n 0, 1) := by decide +kernel
theorem dX14_driverFor_35 : decode cX14_driverFor 35 = .ok (.getfield 22, 3) := by decide +kernel
theorem dX14_driverFor_38 : decode cX14_driverFor 38 = .ok (.iload_n 2, 1) := by decide +kernel
theorem dX14_driverFor_39 : decode cX14_driverFor 39 = .ok (.invokevirtual 76, 3) := by decide +kernel
theorem dX14_driverFor_42 : decode cX14_driverFor 42 = .ok (.checkcast 169, 3) := by decide +kernel
theorem dX14_driverFor_45 : decode cX14_driverFor 45 = .ok (.iconst 1, 1) := by decide +kernel
theorem dX14_driverFor_46 : decode cX14_driverFor 46 = .ok (.iaload, 1) := by decide +kernel
theorem dX14_driverFor_47 : decode cX14_driverFor 47 = .ok (.iconst (-1), 1) := by decide +kernel
theorem dX14_driverFor_48 : decode cX14_driverFor 48 = .ok (.if_icmp .ne 78, 3) := by decide +kernel
theorem dX14_driverFor_51 : decode cX14_driverFor 51 = .ok (.aload_n 0, 1) := by decide +kernel
theorem dX14_driverFor_52 : decode cX14_driverFor 52 = .ok (.getfield 22, 3) := by decide +kernel
theorem dX14_driverFor_55 : decode cX14_driverFor 55 = .ok (.iload 4, 2) := by decide +kernel
theorem dX14_driverFor_57 : decode cX14_driverFor 57 = .ok (.invokevirtual 76, 3) := by decide +kernel
theorem dX14_driverFor_60 : decode cX14_driverFor 60 = .ok (.checkcast 169, 3) := by decide +kernel
theorem dX14_driverFor_63 : decode cX14_driverFor 63 = .ok (.astore 5, 2) := by decide +kernel
theorem dX14_driverFor_65 : decode cX14_driverFor 65 = .ok (.aload 5, 2) := by decide +kernel
theorem dX14_driverFor_67 : decode cX14_driverFor 67 = .ok (.iconst 0, 1) := by decide +kernel
theorem dX14_driverFor_68 : decode cX14_driverFor 68 = .ok (.iaload, 1) := by decide +kernel
theorem dX14_driverFor_69 : decode cX14_driverFor 69 = .ok (.aload_n 1, 1) := by decide +kernel
theorem dX14_driverFor_70 : decode cX14_driverFor 70 = .ok (.getfield 170, 3) := by decide +kernel
theorem dX14_driverFor_73 : decode cX14_driverFor 73 = .ok (.bipush 10, 2) := by decide +kernel
theorem dX14_driverFor_75 : decode cX14_driverFor 75 = .ok (.idiv, 1) := by decide +kernel
theorem dX14_driverFor_76 : decode cX14_driverFor 76 = .ok (.if_icmp .ne 29, 3) := by decide +kernel
theorem dX14_driverFor_79 : decode cX14_driverFor 79 = .ok (.aload 5, 2) := by decide +kernel
theorem dX14_driverFor_81 : decode cX14_driverFor 81 = .ok (.iconst 1, 1) := by decide +kernel
theorem dX14_driverFor_82 : decode cX14_driverFor 82 = .ok (.iaload, 1) := by decide +kernel
theorem dX14_driverFor_83 : decode cX14_driverFor 83 = .ok (.iload_n 3, 1) := by decide +kernel
theorem dX14_driverFor_84 : decode cX14_driverFor 84 = .ok (.ifCond .ne 13, 3) := by decide +kernel
theorem dX14_driverFor_87 : decode cX14_driverFor 87 = .ok (.aload_n 1, 1) := by decide +kernel
theorem dX14_driverFor_88 : decode cX14_driverFor 88 = .ok (.getfield 170, 3) := by decide +kernel
theorem dX14_driverFor_91 : decode cX14_driverFor 91 = .ok (.bipush 10, 2) := by decide +kernel
theorem dX14_driverFor_93 : decode cX14_driverFor 93 = .ok (.irem, 1) := by decide +kernel
theorem dX14_driverFor_94 : decode cX14_driverFor 94 = .ok (.goto 4, 3) := by decide +kernel
theorem dX14_driverFor_97 : decode cX14_driverFor 97 = .ok (.iconst (-1), 1) := by decide +kernel
theorem dX14_driverFor_98 : decode cX14_driverFor 98 = .ok (.if_icmp .ne 7, 3) := by decide +kernel
theorem dX14_driverFor_101 : decode cX14_driverFor 101 = .ok (.iconst 1, 1) := by decide +kernel
theorem dX14_driverFor_102 : decode cX14_driverFor 102 = .ok (.goto 4, 3) := by decide +kernel
theorem dX14_driverFor_105 : decode cX14_driverFor 105 = .ok (.iconst 0, 1) := by decide +kernel
theorem dX14_driverFor_106 : decode cX14_driverFor 106 = .ok (.istore 6, 2) := by decide +kernel
theorem dX14_driverFor_108 : decode cX14_driverFor 108 = .ok (.iload 6, 2) := by decide +kernel
theorem dX14_driverFor_110 : decode cX14_driverFor 110 = .ok (.ifCond .eq 8, 3) := by decide +kernel
theorem dX14_driverFor_113 : decode cX14_driverFor 113 = .ok (.iload 4, 2) := by decide +kernel
theorem dX14_driverFor_115 : decode cX14_driverFor 115 = .ok (.goto 4, 3) := by decide +kernel
theorem dX14_driverFor_118 : decode cX14_driverFor 118 = .ok (.iload_n 2, 1) := by decide +kernel
theorem dX14_driverFor_119 : decode cX14_driverFor 119 = .ok (.istore_n 2, 1) := by decide +kernel
theorem dX14_driverFor_120 : decode cX14_driverFor 120 = .ok (.iinc 4 (-1), 3) := by decide +kernel
theorem dX14_driverFor_123 : decode cX14_driverFor 123 = .ok (.goto (-103), 3) := by decide +kernel
theorem dX14_driverFor_126 : decode cX14_driverFor 126 = .ok (.iinc 3 1, 3) := by decide +kernel
theorem dX14_driverFor_129 : decode cX14_driverFor 129 = .ok (.goto (-125), 3) := by decide +kernel
theorem dX14_driverFor_132 : decode cX14_driverFor 132 = .ok (.iload_n 2, 1) := by decide +kernel
theorem dX14_driverFor_133 : decode cX14_driverFor 133 = .ok (.ireturn, 1) := by decide +kernel
set_option maxRecDepth 100000 in
set_option maxHeartbeats 4000000 in
theorem m_driverFor (l : Launch) (D : va_G) (cy : Nat → ClassId) {eda ca : Nat} {ia : Nat → Nat} {σ : SG} {K : KM} {g : GH} {n S hw : Nat} (h : Inv eda ia K g n S hw σ) {d : Nat} (hd : sgT σ d = 16) (sz : Nat) : sgM l D cy eda ca ia σ sz yX14_driverFor (Cond.code yX14_driverFor cX14_driverFor 7 (some .int) :: mWall) 3 64 0 0 [.ref (kA K), .ref d] (fun v σ2 => (∃ y : Int32, v = some (.int y)) ∧ σ = σ2) := by
  refine sg_ofW (cc := cX14_driverFor) (maxL := 7) (ret := (some .int)) (by decide) rfl (Nat.le_of_ble_eq_true rfl) (lv := [(0, .ref (kA K)), (1, .ref d)]) rfl (fun p e s m below meth c ls H N hrt hnm F hB hl => ?_) sz
  have hx := F.1.1
  have hb := F.1.2.1
  have hown := F.1.2.2.2.1
  obtain ⟨s1, s2⟩ := inv_szR h
  have m2 : (2 : Int32).toInt = 2 := rfl
  have mm1 : (-1 : Int32).toInt = -1 := by decide
  generalize hlo : ([] : List Loc) = locs at hB ⊢
  clear hlo
  refine lv_iconst (v := (-1)) hx hb dX14_driverFor_0 (by decide) ?_
  refine lv_istore_n (lv' := [(2, .int _), (0, .ref _), (1, .ref _)]) hx hb dX14_driverFor_1 rfl hl (by decide) rfl (fun ls hl => ?_)
  refine lv_iconst (v := 0) hx hb dX14_driverFor_2 (by decide) ?_
  refine lv_istore_n (lv' := [(3, .int _), (2, .int _), (0, .ref _), (1, .ref _)]) hx hb dX14_driverFor_3 rfl hl (by decide) rfl (fun ls hl => ?_)
  have key4 : ∃ (f9 p9 : Int32), sgB D cy s σ σ H locs N 0 ∧ lv_has ls 7 [(3, .int p9), (2, .int f9), (1, .ref d), (0, .ref (kA K))] ∧ (-1 ≤ f9.toInt ∧ f9.toInt < sgSz σ (kR K) ∨ f9.toInt = -1) ∧ (0 ≤ p9.toInt ∧ p9.toInt ≤ 2) := ⟨_, _, hB, (lv_sub hl [0, 1, 3, 2] rfl), Or.inr mm1, ⟨by decide, by decide⟩⟩
  clear hB hl
  obtain ⟨f9, p9, hB, hl, hf9, hp9⟩ := key4
  obtain ⟨d4, hd4⟩ : ∃ d : Nat, d = 2 - p9.toInt.toNat := ⟨_, rfl⟩
  induction d4 using Nat.strongRecOn generalizing H locs ls N f9 p9
  rename_i d4 ih4
  refine lv_iload_n hx hb dX14_driverFor_4 rfl (lv_at hl 0 rfl) ?_
  refine lv_iconst (v := 2) hx hb dX14_driverFor_5 (by decide) ?_
  refine lv_icmp_ge (tgt := 132) hx hb dX14_driverFor_6 (by decide) (fun c6 => ?_) (fun c6 => ?_)
  · refine lv_iload_n hx hb dX14_driverFor_132 rfl (lv_at hl 1 rfl) ?_
    exact sg_iret F hB hrt dX14_driverFor_133 (by decide) (by decide) (⟨⟨_, rfl⟩, rfl⟩)
  · refine lv_aload_n hx hb dX14_driverFor_9 rfl (lv_at hl 3 rfl) ?_
    refine gr_X14_22 F hB dX14_driverFor_10 (inv_A h) (inv_r3 h) ?_
    refine sg_callV (ci := 4) F hB (m_size l D cy (by exact (inv_tR h).1) _) (cwV 0 F.1.2.2.2.2 (mgV (mm_3 _ (List.mem_of_getElem? (i := 18) rfl)) (mm_3 _ (List.mem_of_getElem? (i := 19) rfl)) (mm_3 _ (List.mem_of_getElem? (i := 20) rfl)) (mm_0 _ (List.mem_of_getElem? (i := 35) rfl)) (mm_3 _ (List.mem_of_getElem? (i := 16) rfl))) rfl rfl rfl ⟨rfl, by decide, by decide, by decide +kernel⟩ ⟨Nat.le_of_ble_eq_true rfl, Nat.le_of_ble_eq_true rfl⟩) rfl rfl (by decide) rfl hl.1 rfl (Nat.le_of_ble_eq_true rfl) dX14_driverFor_13 (Nat.le_of_ble_eq_true rfl) (Nat.add_le_add_right (Nat.le_of_ble_eq_true rfl) _) (inv_tR h).1 (fun H locs v σ13 N hBn hX13 hP => ?_)
    clear hB; have hB := hBn; clear hBn
    obtain ⟨rfl, rfl⟩ := hP
    refine lv_iconst (v := 1) hx hb dX14_driverFor_16 (by decide) ?_
    refine lv_isub hx hb dX14_driverFor_17 ?_
    refine lv_istore (lv' := [(4, .int _), (3, .int _), (2, .int _), (1, .ref _), (0, .ref _)]) hx hb dX14_driverFor_18 hl (by decide) rfl (fun ls hl => ?_)
    have key20 : ∃ (f8 k9 : Int32), sgB D cy s σ σ H locs N 0 ∧ lv_has ls 7 [(4, .int k9), (3, .int p9), (2, .int f8), (1, .ref d), (0, .ref (kA K))] ∧ (-1 ≤ f8.toInt ∧ f8.toInt < sgSz σ (kR K) ∨ f8.toInt = -1) ∧ (-1 ≤ k9.toInt ∧ k9.toInt < sgSz σ (kR K) ∨ k9.toInt = -1) := ⟨_, _, hB, (lv_sub hl [0, 1, 2, 3, 4] rfl), hf9, by have := m_sub1 (x := sgI σ (kR K) 2) (by omega) (by omega); omega⟩
    clear hB hl
    obtain ⟨f8, k9, hB, hl, hf8, hk9⟩ := key20
    obtain ⟨d20, hd20⟩ : ∃ d : Nat, d = (k9.toInt + 1).toNat := ⟨_, rfl⟩
    induction d20 using Nat.strongRecOn generalizing H locs ls N f8 k9
    rename_i d20 ih20
    refine lv_iload hx hb dX14_driverFor_20 (lv_at hl 0 rfl) ?_
    refine lv_if_lt (tgt := 126) hx hb dX14_driverFor_22 (by decide) (fun c22 => ?_) (fun c22 => ?_)
    · refine lv_iinc (lv' := [(3, .int _), (4, .int _), (2, .int _), (1, .ref _), (0, .ref _)]) hx hb dX14_driverFor_126 hl (k := 1) rfl rfl (by decide) rfl (fun ls hl => ?_)
      refine lv_goto (tgt := 4) hx hb dX14_driverFor_129 (by decide) ?_
      have hi3 := i_nle c6
      have e9 : (p9 + Int32.ofInt 1).toInt = p9.toInt + 1 := m_add1 (by omega) (by omega)
      exact ih4 _ (by subst hd4; rw [e9]; omega) _ _ _ _ _ _ hB (lv_sub hl [0, 2, 3, 4] rfl) hf8 ⟨by rw [e9]; omega, by rw [e9]; omega⟩ rfl
    · refine lv_iload_n hx hb dX14_driverFor_25 rfl (lv_at hl 1 rfl) ?_
      refine lv_if_eq (tgt := 51) hx hb dX14_driverFor_26 (by decide) (fun c26 => ?_) (fun c26 => ?_)
      · have hk0 := i_nlt c22
        rw [m_i0] at hk0
        obtain ⟨y57, a57, E57⟩ := inv_L h _ (inv_tR h).1 (k9 : Int32).toInt.toNat (by omega)
        have E57 : sgT σ y57 = 100 ∧ sgN σ y57 = 2 := by unfold iEl at E57; rw [(inv_tR h).2] at E57; exact E57
        refine lv_aload_n hx hb dX14_driverFor_51 rfl (lv_at hl 4 rfl) ?_
        refine gr_X14_22 F hB dX14_driverFor_52 (inv_A h) (inv_r3 h) ?_
        refine lv_iload hx hb dX14_driverFor_55 (lv_at hl 0 rfl) ?_
        refine sg_callV (ci := 4) F hB (m_getL l D cy (inv_LS h) (inv_tR h).1 id k9 (by omega) (by omega) a57 _) (cwV 1 F.1.2.2.2.2 (mgV (mm_4 _ (List.mem_of_getElem? (i := 3) rfl)) (mm_4 _ (List.mem_of_getElem? (i := 4) rfl)) (mm_4 _ (List.mem_of_getElem? (i := 5) rfl)) (mm_0 _ (List.mem_of_getElem? (i := 35) rfl)) (mm_3 _ (List.mem_of_getElem? (i := 34) rfl))) rfl rfl rfl ⟨rfl, by decide, by decide, by decide +kernel⟩ ⟨Nat.le_of_ble_eq_true rfl, Nat.le_of_ble_eq_true rfl⟩) rfl rfl (by decide) rfl hl.1 rfl (Nat.le_of_ble_eq_true rfl) dX14_driverFor_57 (Nat.le_of_ble_eq_true rfl) (Nat.add_le_add_right (Nat.le_of_ble_eq_true rfl) _) (inv_tR h).1 (fun H locs v σ57 N hBn hX57 hP => ?_)
        clear hB; have hB := hBn; clear hBn
        obtain ⟨rfl, rfl⟩ := hP
        refine sg_castI F hB (F.1.2.2.2.2 _ (List.mem_cons_of_mem _ (mm_6 _ (List.mem_of_getElem? (i := 26) rfl)))) E57.1 dX14_driverFor_60 ?_
        refine lv_astore (lv' := [(5, .ref _), (4, .int _), (3, .int _), (2, .int _), (1, .ref _), (0, .ref _)]) hx hb dX14_driverFor_63 hl (by decide) rfl (fun ls hl => ?_)
        refine lv_aload hx hb dX14_driverFor_65 (lv_at hl 0 rfl) ?_
        refine lv_iconst (v := 0) hx hb dX14_driverFor_67 (by decide) ?_
        refine sg_iald hx hb F.2.1 hB.1 dX14_driverFor_68 E57.1 (by decide) (m_ltN E57.2 (by decide)) (m_ltM E57.2 (by decide)) ?_
        refine lv_aload_n hx hb dX14_driverFor_69 rfl (lv_at hl 4 rfl) ?_
        refine gf_X14_170 F hB dX14_driverFor_70 hd ?_
        refine lv_bipush (v := 10) hx hb dX14_driverFor_73 (by decide) ?_
        refine lv_idiv hx hb dX14_driverFor_75 (by decide) ?_
        refine lv_icmp_ne (tgt := 105) hx hb dX14_driverFor_76 (by decide) (fun c76 => ?_) (fun c76 => ?_)
        · refine lv_iconst (v := 0) hx hb dX14_driverFor_105 (by decide) ?_
          refine lv_istore (lv' := [(6, .int _), (5, .ref _), (4, .int _), (3, .int _), (2, .int _), (1, .ref _), (0, .ref _)]) hx hb dX14_driverFor_106 hl (by decide) rfl (fun ls hl => ?_)
          refine lv_iload hx hb dX14_driverFor_108 (lv_at hl 0 rfl) ?_
          refine lv_if_eq (tgt := 118) hx hb dX14_driverFor_110 (by decide) (fun c110 => ?_) (fun c110 => (by first | exact absurd c110 (by decide) | exact (c110 (by decide)).elim))
          refine lv_iload_n hx hb dX14_driverFor_118 rfl (lv_at hl 4 rfl) ?_
          refine lv_istore_n (lv' := [(2, .int _), (6, .int _), (5, .ref _), (4, .int _), (3, .int _), (1, .ref _), (0, .ref _)]) hx hb dX14_driverFor_119 rfl hl (by decide) rfl (fun ls hl => ?_)
          refine lv_iinc (lv' := [(4, .int _), (2, .int _), (6, .int _), (5, .ref _), (3, .int _), (1, .ref _), (0, .ref _)]) hx hb dX14_driverFor_120 hl (k := 3) rfl rfl (by decide) rfl (fun ls hl => ?_)
          refine lv_goto (tgt := 20) hx hb dX14_driverFor_123 (by decide) ?_
          have hk0 := i_nlt c22
          rw [m_i0] at hk0
          have e9 := m_subm (x := k9) (by omega) (by omega)
          exact ih20 _ (by subst hd20; exact m_dec hk0 e9) _ _ _ _ _ _ hB (lv_sub hl [0, 4, 1, 5, 6] rfl) (by first | with_reducible exact hf8 | with_reducible exact hk9) (m_dec2 hk9 hk0 e9) rfl
        · refine lv_aload hx hb dX14_driverFor_79 (lv_at hl 0 rfl) ?_
          refine lv_iconst (v := 1) hx hb dX14_driverFor_81 (by decide) ?_
          refine sg_iald hx hb F.2.1 hB.1 dX14_driverFor_82 E57.1 (by decide) (m_ltN E57.2 (by decide)) (m_ltM E57.2 (by decide)) ?_
          refine lv_iload_n hx hb dX14_driverFor_83 rfl (lv_at hl 2 rfl) ?_
          refine lv_if_ne (tgt := 97) hx hb dX14_driverFor_84 (by decide) (fun c84 => ?_) (fun c84 => ?_)
          · refine lv_iconst (v := (-1)) hx hb dX14_driverFor_97 (by decide) ?_
            refine lv_icmp_ne (tgt := 105) hx hb dX14_driverFor_98 (by decide) (fun c98 => ?_) (fun c98 => ?_)
            · refine lv_iconst (v := 0) hx hb dX14_driverFor_105 (by decide) ?_
              refine lv_istore (lv' := [(6, .int _), (5, .ref _), (4, .int _), (3, .int _), (2, .int _), (1, .ref _), (0, .ref _)]) hx hb dX14_driverFor_106 hl (by decide) rfl (fun ls hl => ?_)
              refine lv_iload hx hb dX14_driverFor_108 (lv_at hl 0 rfl) ?_
              refine lv_if_eq (tgt := 118) hx hb dX14_driverFor_110 (by decide) (fun c110 => ?_) (fun c110 => (by first | exact absurd c110 (by decide) | exact (c110 (by decide)).elim))
              refine lv_iload_n hx hb dX14_driverFor_118 rfl (lv_at hl 4 rfl) ?_
              refine lv_istore_n (lv' := [(2, .int _), (6, .int _), (5, .ref _), (4, .int _), (3, .int _), (1, .ref _), (0, .ref _)]) hx hb dX14_driverFor_119 rfl hl (by decide) rfl (fun ls hl => ?_)
              refine lv_iinc (lv' := [(4, .int _), (2, .int _), (6, .int _), (5, .ref _), (3, .int _), (1, .ref _), (0, .ref _)]) hx hb dX14_driverFor_120 hl (k := 3) rfl rfl (by decide) rfl (fun ls hl => ?_)
              refine lv_goto (tgt := 20) hx hb dX14_driverFor_123 (by decide) ?_
              have hk0 := i_nlt c22
              rw [m_i0] at hk0
              have e9 := m_subm (x := k9) (by omega) (by omega)
              exact ih20 _ (by subst hd20; exact m_dec hk0 e9) _ _ _ _ _ _ hB (lv_sub hl [0, 4, 1, 5, 6] rfl) (by first | with_reducible exact hf8 | with_reducible exact hk9) (m_dec2 hk9 hk0 e9) rfl
            · refine lv_iconst (v := 1) hx hb dX14_driverFor_101 (by decide) ?_
              refine lv_goto (tgt := 106) hx hb dX14_driverFor_102 (by decide) ?_
              refine lv_istore (lv' := [(6, .int _), (5, .ref _), (4, .int _), (3, .int _), (2, .int _), (1, .ref _), (0, .ref _)]) hx hb dX14_driverFor_106 hl (by decide) rfl (fun ls hl => ?_)
              refine lv_iload hx hb dX14_driverFor_108 (lv_at hl 0 rfl) ?_
              refine lv_if_eq (tgt := 118) hx hb dX14_driverFor_110 (by decide) (fun c110 => (by first | exact absurd c110 (by decide) | exact (c110 (by decide)).elim)) (fun c110 => ?_)
              refine lv_iload hx hb dX14_driverFor_113 (lv_at hl 2 rfl) ?_
              refine lv_goto (tgt := 119) hx hb dX14_driverFor_115 (by decide) ?_
              refine lv_istore_n (lv' := [(2, .int _), (6, .int _), (5, .ref _), (4, .int _), (3, .int _), (1, .ref _), (0, .ref _)]) hx hb dX14_driverFor_119 rfl hl (by decide) rfl (fun ls hl => ?_)
              refine lv_iinc (lv' := [(4, .int _), (2, .int _), (6, .int _), (5, .ref _), (3, .int _), (1, .ref _), (0, .ref _)]) hx hb dX14_driverFor_120 hl (k := 3) rfl rfl (by decide) rfl (fun ls hl => ?_)
              refine lv_goto (tgt := 20) hx hb dX14_driverFor_123 (by decide) ?_
              have hk0 := i_nlt c22
              rw [m_i0] at hk0
              have e9 := m_subm (x := k9) (by omega) (by omega)
              exact ih20 _ (by subst hd20; exact m_dec hk0 e9) _ _ _ _ _ _ hB (lv_sub hl [0, 4, 1, 5, 6] rfl) (by first | with_reducible exact hf8 | with_reducible exact hk9) (m_dec2 hk9 hk0 e9) rfl
          · refine lv_aload_n hx hb dX14_driverFor_87 rfl (lv_at hl 4 rfl) ?_
            refine gf_X14_170 F hB dX14_driverFor_88 hd ?_
            refine lv_bipush (v := 10) hx hb dX14_driverFor_91 (by decide) ?_
            refine lv_irem hx hb dX14_driverFor_93 (by decide) ?_
            refine lv_goto (tgt := 98) hx hb dX14_driverFor_94 (by decide) ?_
            refine lv_icmp_ne (tgt := 105) hx hb dX14_driverFor_98 (by decide) (fun c98 => ?_) (fun c98 => ?_)
            · refine lv_iconst (v := 0) hx hb dX14_driverFor_105 (by decide) ?_
              refine lv_istore (lv' := [(6, .int _), (5, .ref _), (4, .int _), (3, .int _), (2, .int _), (1, .ref _), (0, .ref _)]) hx hb dX14_driverFor_106 hl (by decide) rfl (fun ls hl => ?_)
              refine lv_iload hx hb dX14_driverFor_108 (lv_at hl 0 rfl) ?_
              refine lv_if_eq (tgt := 118) hx hb dX14_driverFor_110 (by decide) (fun c110 => ?_) (fun c110 => (by first | exact absurd c110 (by decide) | exact (c110 (by decide)).elim))
              refine lv_iload_n hx hb dX14_driverFor_118 rfl (lv_at hl 4 rfl) ?_
              refine lv_istore_n (lv' := [(2, .int _), (6, .int _), (5, .ref _), (4, .int _), (3, .int _), (1, .ref _), (0, .ref _)]) hx hb dX14_driverFor_119 rfl hl (by decide) rfl (fun ls hl => ?_)
              refine lv_iinc (lv' := [(4, .int _), (2, .int _), (6, .int _), (5, .ref _), (3, .int _), (1, .ref _), (0, .ref _)]) hx hb dX14_driverFor_120 hl (k := 3) rfl rfl (by decide) rfl (fun ls hl => ?_)
              refine lv_goto (tgt := 20) hx hb dX14_driverFor_123 (by decide) ?_
              have hk0 := i_nlt c22
              rw [m_i0] at hk0
              have e9 := m_subm (x := k9) (by omega) (by omega)
              exact ih20 _ (by subst hd20; exact m_dec hk0 e9) _ _ _ _ _ _ hB (lv_sub hl [0, 4, 1, 5, 6] rfl) (by first | with_reducible exact hf8 | with_reducible exact hk9) (m_dec2 hk9 hk0 e9) rfl
            · refine lv_iconst (v := 1) hx hb dX14_driverFor_101 (by decide) ?_
              refine lv_goto (tgt := 106) hx hb dX14_driverFor_102 (by decide) ?_
              refine lv_istore (lv' := [(6, .int _), (5, .ref _), (4, .int _), (3, .int _), (2, .int _), (1, .ref _), (0, .ref _)]) hx hb dX14_driverFor_106 hl (by decide) rfl (fun ls hl => ?_)
              refine lv_iload hx hb dX14_driverFor_108 (lv_at hl 0 rfl) ?_
              refine lv_if_eq (tgt := 118) hx hb dX14_driverFor_110 (by decide) (fun c110 => (by first | exact absurd c110 (by decide) | exact (c110 (by decide)).elim)) (fun c110 => ?_)
              refine lv_iload hx hb dX14_driverFor_113 (lv_at hl 2 rfl) ?_
              refine lv_goto (tgt := 119) hx hb dX14_driverFor_115 (by decide) ?_
              refine lv_istore_n (lv' := [(2, .int _), (6, .int _), (5, .ref _), (4, .int _), (3, .int _), (1, .ref _), (0, .ref _)]) hx hb dX14_driverFor_119 rfl hl (by decide) rfl (fun ls hl => ?_)
              refine lv_iinc (lv' := [(4, .int _), (2, .int _), (6, .int _), (5, .ref _), (3, .int _), (1, .ref _), (0, .ref _)]) hx hb dX14_driverFor_120 hl (k := 3) rfl rfl (by decide) rfl (fun ls hl => ?_)
              refine lv_goto (tgt := 20) hx hb dX14_driverFor_123 (by decide) ?_
              have hk0 := i_nlt c22
              rw [m_i0] at hk0
              have e9 := m_subm (x := k9) (by omega) (by omega)
              exact ih20 _ (by subst hd20; exact m_dec hk0 e9) _ _ _ _ _ _ hB (lv_sub hl [0, 4, 1, 5, 6] rfl) (by first | with_reducible exact hf8 | with_reducible exact hk9) (m_dec2 hk9 hk0 e9) rfl
      · refine lv_iload_n hx hb dX14_driverFor_29 rfl (lv_at hl 2 rfl) ?_
        refine lv_iconst (v := (-1)) hx hb dX14_driverFor_30 (by decide) ?_
        refine lv_icmp_eq (tgt := 51) hx hb dX14_driverFor_31 (by decide) (fun c31 => ?_) (fun c31 => ?_)
        · have hk0 := i_nlt c22
          rw [m_i0] at hk0
          obtain ⟨y57, a57, E57⟩ := inv_L h _ (inv_tR h).1 (k9 : Int32).toInt.toNat (by omega)
          have E57 : sgT σ y57 = 100 ∧ sgN σ y57 = 2 := by unfold iEl at E57; rw [(inv_tR h).2] at E57; exact E57
          refine lv_aload_n hx hb dX14_driverFor_51 rfl (lv_at hl 4 rfl) ?_
          refine gr_X14_22 F hB dX14_driverFor_52 (inv_A h) (inv_r3 h) ?_
          refine lv_iload hx hb dX14_driverFor_55 (lv_at hl 0 rfl) ?_
          refine sg_callV (ci := 4) F hB (m_getL l D cy (inv_LS h) (inv_tR h).1 id k9 (by omega) (by omega) a57 _) (cwV 1 F.1.2.2.2.2 (mgV (mm_4 _ (List.mem_of_getElem? (i := 3) rfl)) (mm_4 _ (List.mem_of_getElem? (i := 4) rfl)) (mm_4 _ (List.mem_of_getElem? (i := 5) rfl)) (mm_0 _ (List.mem_of_getElem? (i := 35) rfl)) (mm_3 _ (List.mem_of_getElem? (i := 34) rfl))) rfl rfl rfl ⟨rfl, by decide, by decide, by decide +kernel⟩ ⟨Nat.le_of_ble_eq_true rfl, Nat.le_of_ble_eq_true rfl⟩) rfl rfl (by decide) rfl hl.1 rfl (Nat.le_of_ble_eq_true rfl) dX14_driverFor_57 (Nat.le_of_ble_eq_true rfl) (Nat.add_le_add_right (Nat.le_of_ble_eq_true rfl) _) (inv_tR h).1 (fun H locs v σ57 N hBn hX57 hP => ?_)
          clear hB; have hB := hBn; clear hBn
          obtain ⟨rfl, rfl⟩ := hP
          refine sg_castI F hB (F.1.2.2.2.2 _ (List.mem_cons_of_mem _ (mm_6 _ (List.mem_of_getElem? (i := 26) rfl)))) E57.1 dX14_driverFor_60 ?_
          refine lv_astore (lv' := [(5, .ref _), (4, .int _), (3, .int _), (2, .int _), (1, .ref _), (0, .ref _)]) hx hb dX14_driverFor_63 hl (by decide) rfl (fun ls hl => ?_)
          refine lv_aload hx hb dX14_driverFor_65 (lv_at hl 0 rfl) ?_
          refine lv_iconst (v := 0) hx hb dX14_driverFor_67 (by decide) ?_
          refine sg_iald hx hb F.2.1 hB.1 dX14_driverFor_68 E57.1 (by decide) (m_ltN E57.2 (by decide)) (m_ltM E57.2 (by decide)) ?_
          refine lv_aload_n hx hb dX14_driverFor_69 rfl (lv_at hl 4 rfl) ?_
          refine gf_X14_170 F hB dX14_driverFor_70 hd ?_
          refine lv_bipush (v := 10) hx hb dX14_driverFor_73 (by decide) ?_
          refine lv_idiv hx hb dX14_driverFor_75 (by decide) ?_
          refine lv_icmp_ne (tgt := 105) hx hb dX14_driverFor_76 (by decide) (fun c76 => ?_) (fun c76 => ?_)
          · refine lv_iconst (v := 0) hx hb dX14_driverFor_105 (by decide) ?_
            refine lv_istore (lv' := [(6, .int _), (5, .ref _), (4, .int _), (3, .int _), (2, .int _), (1, .ref _), (0, .ref _)]) hx hb dX14_driverFor_106 hl (by decide) rfl (fun ls hl => ?_)
            refine lv_iload hx hb dX14_driverFor_108 (lv_at hl 0 rfl) ?_
            refine lv_if_eq (tgt := 118) hx hb dX14_driverFor_110 (by decide) (fun c110 => ?_) (fun c110 => (by first | exact absurd c110 (by decide) | exact (c110 (by decide)).elim))
            refine lv_iload_n hx hb dX14_driverFor_118 rfl (lv_at hl 4 rfl) ?_
            refine lv_istore_n (lv' := [(2, .int _), (6, .int _), (5, .ref _), (4, .int _), (3, .int _), (1, .ref _), (0, .ref _)]) hx hb dX14_driverFor_119 rfl hl (by decide) rfl (fun ls hl => ?_)
            refine lv_iinc (lv' := [(4, .int _), (2, .int _), (6, .int _), (5, .ref _), (3, .int _), (1, .ref _), (0, .ref _)]) hx hb dX14_driverFor_120 hl (k := 3) rfl rfl (by decide) rfl (fun ls hl => ?_)
            refine lv_goto (tgt := 20) hx hb dX14_driverFor_123 (by decide) ?_
            have hk0 := i_nlt c22
            rw [m_i0] at hk0
            have e9 := m_subm (x := k9) (by omega) (by omega)
            exact ih20 _ (by subst hd20; exact m_dec hk0 e9) _ _ _ _ _ _ hB (lv_sub hl [0, 4, 1, 5, 6] rfl) (by first | with_reducible exact hf8 | with_reducible exact hk9) (m_dec2 hk9 hk0 e9) rfl
          · refine lv_aload hx hb dX14_driverFor_79 (lv_at hl 0 rfl) ?_
            refine lv_iconst (v := 1) hx hb dX14_driverFor_81 (by decide) ?_
            refine sg_iald hx hb F.2.1 hB.1 dX14_driverFor_82 E57.1 (by decide) (m_ltN E57.2 (by decide)) (m_ltM E57.2 (by decide)) ?_
            refine lv_iload_n hx hb dX14_driverFor_83 rfl (lv_at hl 2 rfl) ?_
            refine lv_if_ne (tgt := 97) hx hb dX14_driverFor_84 (by decide) (fun c84 => ?_) (fun c84 => ?_)
            · refine lv_iconst (v := (-1)) hx hb dX14_driverFor_97 (by decide) ?_
              refine lv_icmp_ne (tgt := 105) hx hb dX14_driverFor_98 (by decide) (fun c98 => ?_) (fun c98 => ?_)
              · refine lv_iconst (v := 0) hx hb dX14_driverFor_105 (by decide) ?_
                refine lv_istore (lv' := [(6, .int _), (5, .ref _), (4, .int _), (3, .int _), (2, .int _), (1, .ref _), (0, .ref _)]) hx hb dX14_driverFor_106 hl (by decide) rfl (fun ls hl => ?_)
                refine lv_iload hx hb dX14_driverFor_108 (lv_at hl 0 rfl) ?_
                refine lv_if_eq (tgt := 118) hx hb dX14_driverFor_110 (by decide) (fun c110 => ?_) (fun c110 => (by first | exact absurd c110 (by decide) | exact (c110 (by decide)).elim))
                refine lv_iload_n hx hb dX14_driverFor_118 rfl (lv_at hl 4 rfl) ?_
                refine lv_istore_n (lv' := [(2, .int _), (6, .int _), (5, .ref _), (4, .int _), (3, .int _), (1, .ref _), (0, .ref _)]) hx hb dX14_driverFor_119 rfl hl (by decide) rfl (fun ls hl => ?_)
                refine lv_iinc (lv' := [(4, .int _), (2, .int _), (6, .int _), (5, .ref _), (3, .int _), (1, .ref _), (0, .ref _)]) hx hb dX14_driverFor_120 hl (k := 3) rfl rfl (by decide) rfl (fun ls hl => ?_)
                refine lv_goto (tgt := 20) hx hb dX14_driverFor_123 (by decide) ?_
                have hk0 := i_nlt c22
                rw [m_i0] at hk0
                have e9 := m_subm (x := k9) (by omega) (by omega)
                exact ih20 _ (by subst hd20; exact m_dec hk0 e9) _ _ _ _ _ _ hB (lv_sub hl [0, 4, 1, 5, 6] rfl) (by first | with_reducible exact hf8 | with_reducible exact hk9) (m_dec2 hk9 hk0 e9) rfl
              · refine lv_iconst (v := 1) hx hb dX14_driverFor_101 (by decide) ?_
                refine lv_goto (tgt := 106) hx hb dX14_driverFor_102 (by decide) ?_
                refine lv_istore (lv' := [(6, .int _), (5, .ref _), (4, .int _), (3, .int _), (2, .int _), (1, .ref _), (0, .ref _)]) hx hb dX14_driverFor_106 hl (by decide) rfl (fun ls hl => ?_)
                refine lv_iload hx hb dX14_driverFor_108 (lv_at hl 0 rfl) ?_
                refine lv_if_eq (tgt := 118) hx hb dX14_driverFor_110 (by decide) (fun c110 => (by first | exact absurd c110 (by decide) | exact (c110 (by decide)).elim)) (fun c110 => ?_)
                refine lv_iload hx hb dX14_driverFor_113 (lv_at hl 2 rfl) ?_
                refine lv_goto (tgt := 119) hx hb dX14_driverFor_115 (by decide) ?_
                refine lv_istore_n (lv' := [(2, .int _), (6, .int _), (5, .ref _), (4, .int _), (3, .int _), (1, .ref _), (0, .ref _)]) hx hb dX14_driverFor_119 rfl hl (by decide) rfl (fun ls hl => ?_)
                refine lv_iinc (lv' := [(4, .int _), (2, .int _), (6, .int _), (5, .ref _), (3, .int _), (1, .ref _), (0, .ref _)]) hx hb dX14_driverFor_120 hl (k := 3) rfl rfl (by decide) rfl (fun ls hl => ?_)
                refine lv_goto (tgt := 20) hx hb dX14_driverFor_123 (by decide) ?_
                have hk0 := i_nlt c22
                rw [m_i0] at hk0
                have e9 := m_subm (x := k9) (by omega) (by omega)
                exact ih20 _ (by subst hd20; exact m_dec hk0 e9) _ _ _ _ _ _ hB (lv_sub hl [0, 4, 1, 5, 6] rfl) (by first | with_reducible exact hf8 | with_reducible exact hk9) (m_dec2 hk9 hk0 e9) rfl
            · refine lv_aload_n hx hb dX14_driverFor_87 rfl (lv_at hl 4 rfl) ?_
              refine gf_X14_170 F hB dX14_driverFor_88 hd ?_
              refine lv_bipush (v := 10) hx hb dX14_driverFor_91 (by decide) ?_
              refine lv_irem hx hb dX14_driverFor_93 (by decide) ?_
              refine lv_goto (tgt := 98) hx hb dX14_driverFor_94 (by decide) ?_
              refine lv_icmp_ne (tgt := 105) hx hb dX14_driverFor_98 (by decide) (fun c98 => ?_) (fun c98 => ?_)
              · refine lv_iconst (v := 0) hx hb dX14_driverFor_105 (by decide) ?_
                refine lv_istore (lv' := [(6, .int _), (5, .ref _), (4, .int _), (3, .int _), (2, .int _), (1, .ref _), (0, .ref _)]) hx hb dX14_driverFor_106 hl (by decide) rfl (fun ls hl => ?_)
                refine lv_iload hx hb dX14_driverFor_108 (lv_at hl 0 rfl) ?_
                refine lv_if_eq (tgt := 118) hx hb dX14_driverFor_110 (by decide) (fun c110 => ?_) (fun c110 => (by first | exact absurd c110 (by decide) | exact (c110 (by decide)).elim))
                refine lv_iload_n hx hb dX14_driverFor_118 rfl (lv_at hl 4 rfl) ?_
                refine lv_istore_n (lv' := [(2, .int _), (6, .int _), (5, .ref _), (4, .int _), (3, .int _), (1, .ref _), (0, .ref _)]) hx hb dX14_driverFor_119 rfl hl (by decide) rfl (fun ls hl => ?_)
                refine lv_iinc (lv' := [(4, .int _), (2, .int _), (6, .int _), (5, .ref _), (3, .int _), (1, .ref _), (0, .ref _)]) hx hb dX14_driverFor_120 hl (k := 3) rfl rfl (by decide) rfl (fun ls hl => ?_)
                refine lv_goto (tgt := 20) hx hb dX14_driverFor_123 (by decide) ?_
                have hk0 := i_nlt c22
                rw [m_i0] at hk0
                have e9 := m_subm (x := k9) (by omega) (by omega)
                exact ih20 _ (by subst hd20; exact m_dec hk0 e9) _ _ _ _ _ _ hB (lv_sub hl [0, 4, 1, 5, 6] rfl) (by first | with_reducible exact hf8 | with_reducible exact hk9) (m_dec2 hk9 hk0 e9) rfl
              · refine lv_iconst (v := 1) hx hb dX14_driverFor_101 (by decide) ?_
                refine lv_goto (tgt := 106) hx hb dX14_driverFor_102 (by decide) ?_
                refine lv_istore (lv' := [(6, .int _), (5, .ref _), (4, .int _), (3, .int _), (2, .int _), (1, .ref _), (0, .ref _)]) hx hb dX14_driverFor_106 hl (by decide) rfl (fun ls hl => ?_)
                refine lv_iload hx hb dX14_driverFor_108 (lv_at hl 0 rfl) ?_
                refine lv_if_eq (tgt := 118) hx hb dX14_driverFor_110 (by decide) (fun c110 => (by first | exact absurd c110 (by decide) | exact (c110 (by decide)).elim)) (fun c110 => ?_)
                refine lv_iload hx hb dX14_driverFor_113 (lv_at hl 2 rfl) ?_
                refine lv_goto (tgt := 119) hx hb dX14_driverFor_115 (by decide) ?_
                refine lv_istore_n (lv' := [(2, .int _), (6, .int _), (5, .ref _), (4, .int _), (3, .int _), (1, .ref _), (0, .ref _)]) hx hb dX14_driverFor_119 rfl hl (by decide) rfl (fun ls hl => ?_)
                refine lv_iinc (lv' := [(4, .int _), (2, .int _), (6, .int _), (5, .ref _), (3, .int _), (1, .ref _), (0, .ref _)]) hx hb dX14_driverFor_120 hl (k := 3) rfl rfl (by decide) rfl (fun ls hl => ?_)
                refine lv_goto (tgt := 20) hx hb dX14_driverFor_123 (by decide) ?_
                have hk0 := i_nlt c22
                rw [m_i0] at hk0
                have e9 := m_subm (x := k9) (by omega) (by omega)
                exact ih20 _ (by subst hd20; exact m_dec hk0 e9) _ _ _ _ _ _ hB (lv_sub hl [0, 4, 1, 5, 6] rfl) (by first | with_reducible exact hf8 | with_reducible exact hk9) (m_dec2 hk9 hk0 e9) rfl
        · have hf0 := m_neI c31
          rw [mm1] at hf0
          obtain ⟨y39, a39, E39⟩ := inv_L h _ (inv_tR h).1 (f8 : Int32).toInt.toNat (by omega)
          have E39 : sgT σ y39 = 100 ∧ sgN σ y39 = 2 := by unfold iEl at E39; rw [(inv_tR h).2] at E39; exact E39
          refine lv_aload_n hx hb dX14_driverFor_34 rfl (lv_at hl 4 rfl) ?_
          refine gr_X14_22 F hB dX14_driverFor_35 (inv_A h) (inv_r3 h) ?_
          refine lv_iload_n hx hb dX14_driverFor_38 rfl (lv_at hl 2 rfl) ?_
          refine sg_callV (ci := 4) F hB (m_getL l D cy (inv_LS h) (inv_tR h).1 id f8 (by omega) (by omega) a39 _) (cwV 1 F.1.2.2.2.2 (mgV (mm_4 _ (List.mem_of_getElem? (i := 3) rfl)) (mm_4 _ (List.mem_of_getElem? (i := 4) rfl)) (mm_4 _ (List.mem_of_getElem? (i := 5) rfl)) (mm_0 _ (List.mem_of_getElem? (i := 35) rfl)) (mm_3 _ (List.mem_of_getElem? (i := 34) rfl))) rfl rfl rfl ⟨rfl, by decide, by decide, by decide +kernel⟩ ⟨Nat.le_of_ble_eq_true rfl, Nat.le_of_ble_eq_true rfl⟩) rfl rfl (by decide) rfl hl.1 rfl (Nat.le_of_ble_eq_true rfl) dX14_driverFor_39 (Nat.le_of_ble_eq_true rfl) (Nat.add_le_add_right (Nat.le_of_ble_eq_true rfl) _) (inv_tR h).1 (fun H locs v σ39 N hBn hX39 hP => ?_)
          clear hB; have hB := hBn; clear hBn
          obtain ⟨rfl, rfl⟩ := hP
          refine sg_castI F hB (F.1.2.2.2.2 _ (List.mem_cons_of_mem _ (mm_6 _ (List.mem_of_getElem? (i := 26) rfl)))) E39.1 dX14_driverFor_42 ?_
          refine lv_iconst (v := 1) hx hb dX14_driverFor_45 (by decide) ?_
          refine sg_iald hx hb F.2.1 hB.1 dX14_driverFor_46 E39.1 (by decide) (m_ltN E39.2 (by decide)) (m_ltM E39.2 (by decide)) ?_
          refine lv_iconst (v := (-1)) hx hb dX14_driverFor_47 (by decide) ?_
          refine lv_icmp_ne (tgt := 126) hx hb dX14_driverFor_48 (by decide) (fun c48 => ?_) (fun c48 => ?_)
          · refine lv_iinc (lv' := [(3, .int _), (4, .int _), (2, .int _), (1, .ref _), (0, .ref _)]) hx hb dX14_driverFor_126 hl (k := 1) rfl rfl (by decide) rfl (fun ls hl => ?_)
            refine lv_goto (tgt := 4) hx hb dX14_driverFor_129 (by decide) ?_
            have hi3 := i_nle c6
            have e9 : (p9 + Int32.ofInt 1).toInt = p9.toInt + 1 := m_add1 (by omega) (by omega)
            exact ih4 _ (by subst hd4; rw [e9]; omega) _ _ _ _ _ _ hB (lv_sub hl [0, 2, 3, 4] rfl) hf8 ⟨by rw [e9]; omega, by rw [e9]; omega⟩ rfl
          · have hk0 := i_nlt c22
            rw [m_i0] at hk0
            obtain ⟨y57, a57, E57⟩ := inv_L h _ (inv_tR h).1 (k9 : Int32).toInt.toNat (by omega)
            have E57 : sgT σ y57 = 100 ∧ sgN σ y57 = 2 := by unfold iEl at E57; rw [(inv_tR h).2] at E57; exact E57
            refine lv_aload_n hx hb dX14_driverFor_51 rfl (lv_at hl 4 rfl) ?_
            refine gr_X14_22 F hB dX14_driverFor_52 (inv_A h) (inv_r3 h) ?_
            refine lv_iload hx hb dX14_driverFor_55 (lv_at hl 0 rfl) ?_
            refine sg_callV (ci := 4) F hB (m_getL l D cy (inv_LS h) (inv_tR h).1 id k9 (by omega) (by omega) a57 _) (cwV 1 F.1.2.2.2.2 (mgV (mm_4 _ (List.mem_of_getElem? (i := 3) rfl)) (mm_4 _ (List.mem_of_getElem? (i := 4) rfl)) (mm_4 _ (List.mem_of_getElem? (i := 5) rfl)) (mm_0 _ (List.mem_of_getElem? (i := 35) rfl)) (mm_3 _ (List.mem_of_getElem? (i := 34) rfl))) rfl rfl rfl ⟨rfl, by decide, by decide, by decide +kernel⟩ ⟨Nat.le_of_ble_eq_true rfl, Nat.le_of_ble_eq_true rfl⟩) rfl rfl (by decide) rfl hl.1 rfl (Nat.le_of_ble_eq_true rfl) dX14_driverFor_57 (Nat.le_of_ble_eq_true rfl) (Nat.add_le_add_right (Nat.le_of_ble_eq_true rfl) _) (inv_tR h).1 (fun H locs v σ57 N hBn hX57 hP => ?_)
            clear hB; have hB := hBn; clear hBn
            obtain ⟨rfl, rfl⟩ := hP
            refine sg_castI F hB (F.1.2.2.2.2 _ (List.mem_cons_of_mem _ (mm_6 _ (List.mem_of_getElem? (i := 26) rfl)))) E57.1 dX14_driverFor_60 ?_
            refine lv_astore (lv' := [(5, .ref _), (4, .int _), (3, .int _), (2, .int _), (1, .ref _), (0, .ref _)]) hx hb dX14_driverFor_63 hl (by decide) rfl (fun ls hl => ?_)
            refine lv_aload hx hb dX14_driverFor_65 (lv_at hl 0 rfl) ?_
            refine lv_iconst (v := 0) hx hb dX14_driverFor_67 (by decide) ?_
            refine sg_iald hx hb F.2.1 hB.1 dX14_driverFor_68 E57.1 (by decide) (m_ltN E57.2 (by decide)) (m_ltM E57.2 (by decide)) ?_
            refine lv_aload_n hx hb dX14_driverFor_69 rfl (lv_at hl 4 rfl) ?_
            refine gf_X14_170 F hB dX14_driverFor_70 hd ?_
            refine lv_bipush (v := 10) hx hb dX14_driverFor_73 (by decide) ?_
            refine lv_idiv hx hb dX14_driverFor_75 (by decide) ?_
            refine lv_icmp_ne (tgt := 105) hx hb dX14_driverFor_76 (by decide) (fun c76 => ?_) (fun c76 => ?_)
            · refine lv_iconst (v := 0) hx hb dX14_driverFor_105 (by decide) ?_
              refine lv_istore (lv' := [(6, .int _), (5, .ref _), (4, .int _), (3, .int _), (2, .int _), (1, .ref _), (0, .ref _)]) hx hb dX14_driverFor_106 hl (by decide) rfl (fun ls hl => ?_)
              refine lv_iload hx hb dX14_driverFor_108 (lv_at hl 0 rfl) ?_
              refine lv_if_eq (tgt := 118) hx hb dX14_driverFor_110 (by decide) (fun c110 => ?_) (fun c110 => (by first | exact absurd c110 (by decide) | exact (c110 (by decide)).elim))
              refine lv_iload_n hx hb dX14_driverFor_118 rfl (lv_at hl 4 rfl) ?_
              refine lv_istore_n (lv' := [(2, .int _), (6, .int _), (5, .ref _), (4, .int _), (3, .int _), (1, .ref _), (0, .ref _)]) hx hb dX14_driverFor_119 rfl hl (by decide) rfl (fun ls hl => ?_)
              refine lv_iinc (lv' := [(4, .int _), (2, .int _), (6, .int _), (5, .ref _), (3, .int _), (1, .ref _), (0, .ref _)]) hx hb dX14_driverFor_120 hl (k := 3) rfl rfl (by decide) rfl (fun ls hl => ?_)
              refine lv_goto (tgt := 20) hx hb dX14_driverFor_123 (by decide) ?_
              have hk0 := i_nlt c22
              rw [m_i0] at hk0
              have e9 := m_subm (x := k9) (by omega) (by omega)
              exact ih20 _ (by subst hd20; exact m_dec hk0 e9) _ _ _ _ _ _ hB (lv_sub hl [0, 4, 1, 5, 6] rfl) (by first | with_reducible exact hf8 | with_reducible exact hk9) (m_dec2 hk9 hk0 e9) rfl
            · refine lv_aload hx hb dX14_driverFor_79 (lv_at hl 0 rfl) ?_
              refine lv_iconst (v := 1) hx hb dX14_driverFor_81 (by decide) ?_
              refine sg_iald hx hb F.2.1 hB.1 dX14_driverFor_82 E57.1 (by decide) (m_ltN E57.2 (by decide)) (m_ltM E57.2 (by decide)) ?_
              refine lv_iload_n hx hb dX14_driverFor_83 rfl (lv_at hl 2 rfl) ?_
              refine lv_if_ne (tgt := 97) hx hb dX14_driverFor_84 (by decide) (fun c84 => ?_) (fun c84 => ?_)
              · refine lv_iconst (v := (-1)) hx hb dX14_driverFor_97 (by decide) ?_
                refine lv_icmp_ne (tgt := 105) hx hb dX14_driverFor_98 (by decide) (fun c98 => ?_) (fun c98 => ?_)
                · refine lv_iconst (v := 0) hx hb dX14_driverFor_105 (by decide) ?_
                  refine lv_istore (lv' := [(6, .int _), (5, .ref _), (4, .int _), (3, .int _), (2, .int _), (1, .ref _), (0, .ref _)]) hx hb dX14_driverFor_106 hl (by decide) rfl (fun ls hl => ?_)
                  refine lv_iload hx hb dX14_driverFor_108 (lv_at hl 0 rfl) ?_
                  refine lv_if_eq (tgt := 118) hx hb dX14_driverFor_110 (by decide) (fun c110 => ?_) (fun c110 => (by first | exact absurd c110 (by decide) | exact (c110 (by decide)).elim))
                  refine lv_iload_n hx hb dX14_driverFor_118 rfl (lv_at hl 4 rfl) ?_
                  refine lv_istore_n (lv' := [(2, .int _), (6, .int _), (5, .ref _), (4, .int _), (3, .int _), (1, .ref _), (0, .ref _)]) hx hb dX14_driverFor_119 rfl hl (by decide) rfl (fun ls hl => ?_)
                  refine lv_iinc (lv' := [(4, .int _), (2, .int _), (6, .int _), (5, .ref _), (3, .int _), (1, .ref _), (0, .ref _)]) hx hb dX14_driverFor_120 hl (k := 3) rfl rfl (by decide) rfl (fun ls hl => ?_)
                  refine lv_goto (tgt := 20) hx hb dX14_driverFor_123 (by decide) ?_
                  have hk0 := i_nlt c22
                  rw [m_i0] at hk0
                  have e9 := m_subm (x := k9) (by omega) (by omega)
                  exact ih20 _ (by subst hd20; exact m_dec hk0 e9) _ _ _ _ _ _ hB (lv_sub hl [0, 4, 1, 5, 6] rfl) (by first | with_reducible exact hf8 | with_reducible exact hk9) (m_dec2 hk9 hk0 e9) rfl
                · refine lv_iconst (v := 1) hx hb dX14_driverFor_101 (by decide) ?_
                  refine lv_goto (tgt := 106) hx hb dX14_driverFor_102 (by decide) ?_
                  refine lv_istore (lv' := [(6, .int _), (5, .ref _), (4, .int _), (3, .int _), (2, .int _), (1, .ref _), (0, .ref _)]) hx hb dX14_driverFor_106 hl (by decide) rfl (fun ls hl => ?_)
                  refine lv_iload hx hb dX14_driverFor_108 (lv_at hl 0 rfl) ?_
                  refine lv_if_eq (tgt := 118) hx hb dX14_driverFor_110 (by decide) (fun c110 => (by first | exact absurd c110 (by decide) | exact (c110 (by decide)).elim)) (fun c110 => ?_)
                  refine lv_iload hx hb dX14_driverFor_113 (lv_at hl 2 rfl) ?_
                  refine lv_goto (tgt := 119) hx hb dX14_driverFor_115 (by decide) ?_
                  refine lv_istore_n (lv' := [(2, .int _), (6, .int _), (5, .ref _), (4, .int _), (3, .int _), (1, .ref _), (0, .ref _)]) hx hb dX14_driverFor_119 rfl hl (by decide) rfl (fun ls hl => ?_)
                  refine lv_iinc (lv' := [(4, .int _), (2, .int _), (6, .int _), (5, .ref _), (3, .int _), (1, .ref _), (0, .ref _)]) hx hb dX14_driverFor_120 hl (k := 3) rfl rfl (by decide) rfl (fun ls hl => ?_)
                  refine lv_goto (tgt := 20) hx hb dX14_driverFor_123 (by decide) ?_
                  have hk0 := i_nlt c22
                  rw [m_i0] at hk0
                  have e9 := m_subm (x := k9) (by omega) (by omega)
                  exact ih20 _ (by subst hd20; exact m_dec hk0 e9) _ _ _ _ _ _ hB (lv_sub hl [0, 4, 1, 5, 6] rfl) (by first | with_reducible exact hf8 | with_reducible exact hk9) (m_dec2 hk9 hk0 e9) rfl
              · refine lv_aload_n hx hb dX14_driverFor_87 rfl (lv_at hl 4 rfl) ?_
                refine gf_X14_170 F hB dX14_driverFor_88 hd ?_
                refine lv_bipush (v := 10) hx hb dX14_driverFor_91 (by decide) ?_
                refine lv_irem hx hb dX14_driverFor_93 (by decide) ?_
                refine lv_goto (tgt := 98) hx hb dX14_driverFor_94 (by decide) ?_
                refine lv_icmp_ne (tgt := 105) hx hb dX14_driverFor_98 (by decide) (fun c98 => ?_) (fun c98 => ?_)
                · refine lv_iconst (v := 0) hx hb dX14_driverFor_105 (by decide) ?_
                  refine lv_istore (lv' := [(6, .int _), (5, .ref _), (4, .int _), (3, .int _), (2, .int _), (1, .ref _), (0, .ref _)]) hx hb dX14_driverFor_106 hl (by decide) rfl (fun ls hl => ?_)
                  refine lv_iload hx hb dX14_driverFor_108 (lv_at hl 0 rfl) ?_
                  refine lv_if_eq (tgt := 118) hx hb dX14_driverFor_110 (by decide) (fun c110 => ?_) (fun c110 => (by first | exact absurd c110 (by decide) | exact (c110 (by decide)).elim))
                  refine lv_iload_n hx hb dX14_driverFor_118 rfl (lv_at hl 4 rfl) ?_
                  refine lv_istore_n (lv' := [(2, .int _), (6, .int _), (5, .ref _), (4, .int _), (3, .int _), (1, .ref _), (0, .ref _)]) hx hb dX14_driverFor_119 rfl hl (by decide) rfl (fun ls hl => ?_)
                  refine lv_iinc (lv' := [(4, .int _), (2, .int _), (6, .int _), (5, .ref _), (3, .int _), (1, .ref _), (0, .ref _)]) hx hb dX14_driverFor_120 hl (k := 3) rfl rfl (by decide) rfl (fun ls hl => ?_)
                  refine lv_goto (tgt := 20) hx hb dX14_driverFor_123 (by decide) ?_
                  have hk0 := i_nlt c22
                  rw [m_i0] at hk0
                  have e9 := m_subm (x := k9) (by omega) (by omega)
                  exact ih20 _ (by subst hd20; exact m_dec hk0 e9) _ _ _ _ _ _ hB (lv_sub hl [0, 4, 1, 5, 6] rfl) (by first | with_reducible exact hf8 | with_reducible exact hk9) (m_dec2 hk9 hk0 e9) rfl
                · refine lv_iconst (v := 1) hx hb dX14_driverFor_101 (by decide) ?_
                  refine lv_goto (tgt := 106) hx hb dX14_driverFor_102 (by decide) ?_
                  refine lv_istore (lv' := [(6, .int _), (5, .ref _), (4, .int _), (3, .int _), (2, .int _), (1, .ref _), (0, .ref _)]) hx hb dX14_driverFor_106 hl (by decide) rfl (fun ls hl => ?_)
                  refine lv_iload hx hb dX14_driverFor_108 (lv_at hl 0 rfl) ?_
                  refine lv_if_eq (tgt := 118) hx hb dX14_driverFor_110 (by decide) (fun c110 => (by first | exact absurd c110 (by decide) | exact (c110 (by decide)).elim)) (fun c110 => ?_)
                  refine lv_iload hx hb dX14_driverFor_113 (lv_at hl 2 rfl) ?_
                  refine lv_goto (tgt := 119) hx hb dX14_driverFor_115 (by decide) ?_
                  refine lv_istore_n (lv' := [(2, .int _), (6, .int _), (5, .ref _), (4, .int _), (3, .int _), (1, .ref _), (0, .ref _)]) hx hb dX14_driverFor_119 rfl hl (by decide) rfl (fun ls hl => ?_)
                  refine lv_iinc (lv' := [(4, .int _), (2, .int _), (6, .int _), (5, .ref _), (3, .int _), (1, .ref _), (0, .ref _)]) hx hb dX14_driverFor_120 hl (k := 3) rfl rfl (by decide) rfl (fun ls hl => ?_)
                  refine lv_goto (tgt := 20) hx hb dX14_driverFor_123 (by decide) ?_
                  have hk0 := i_nlt c22
                  rw [m_i0] at hk0
                  have e9 := m_subm (x := k9) (by omega) (by omega)
                  exact ih20 _ (by subst hd20; exact m_dec hk0 e9) _ _ _ _ _ _ hB (lv_sub hl [0, 4, 1, 5, 6] rfl) (by first | with_reducible exact hf8 | with_reducible exact hk9) (m_dec2 hk9 hk0 e9) rfl
end MM25
