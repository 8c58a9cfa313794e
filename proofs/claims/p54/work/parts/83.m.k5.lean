section CLK5
theorem k_res (l : Launch) (D : va_G) (cy : Nat → ClassId) {ad τ : List Nat} {Y : CY} {σ : SG} (hV : VL cy ad τ Y σ) (f u h w : Int32) (f0 : 0 ≤ f.toInt) (f1 : f.toInt < 8) (sz : Nat) : clM l D cy ad τ Y σ sz yX8_reserve (Cond.code yX8_reserve cX8_reserve 5 none :: vWall) 0 0 [.ref (yu Y), .int f, .int u, .int h, .int w] (fun v s2 => v = none ∧ (((h.toInt < 0 ∨ 16 ≤ h.toInt) ∧ (sgPI σ (yh Y) f.toInt.toNat (sgI σ (yh Y) f.toInt.toNat + u)) = s2) ∨ ((0 ≤ h.toInt ∧ h.toInt < 16) ∧ sgPI (sgPI σ (yh Y) f.toInt.toNat (sgI σ (yh Y) f.toInt.toNat + u)) (yk Y) (h * 8 + f).toInt.toNat (sgI (sgPI σ (yh Y) f.toInt.toNat (sgI σ (yh Y) f.toInt.toNat + u)) (yk Y) (h * 8 + f).toInt.toNat + w) = s2))) := by
  by_cases hh : h.toInt < 0 ∨ 16 ≤ h.toInt
  · exact clM_post (k_resA l D cy hV f u h w f0 f1 hh sz) (fun v s2 q => ⟨q.1, Or.inl ⟨hh, q.2⟩⟩)
  · exact clM_post (k_resB l D cy hV f u h w f0 f1 (by omega) (by omega) sz) (fun v s2 q => ⟨q.1, Or.inr ⟨by omega, q.2⟩⟩)

theorem dX9_reserveFor_0 : decode cX9_reserveFor 0 = .ok (.iload 4, 2) := by decide +kernel
theorem dX9_reserveFor_2 : decode cX9_reserveFor 2 = .ok (.aload_n 3, 1) := by decide +kernel
theorem dX9_reserveFor_3 : decode cX9_reserveFor 3 = .ok (.getfield 147, 3) := by decide +kernel
theorem dX9_reserveFor_6 : decode cX9_reserveFor 6 = .ok (.invokestatic 301, 3) := by decide +kernel
theorem dX9_reserveFor_9 : decode cX9_reserveFor 9 = .ok (.imul, 1) := by decide +kernel
theorem dX9_reserveFor_10 : decode cX9_reserveFor 10 = .ok (.istore 5, 2) := by decide +kernel
theorem dX9_reserveFor_12 : decode cX9_reserveFor 12 = .ok (.iload 4, 2) := by decide +kernel
theorem dX9_reserveFor_14 : decode cX9_reserveFor 14 = .ok (.aload_n 2, 1) := by decide +kernel
theorem dX9_reserveFor_15 : decode cX9_reserveFor 15 = .ok (.getfield 109, 3) := by decide +kernel
theorem dX9_reserveFor_18 : decode cX9_reserveFor 18 = .ok (.aload_n 3, 1) := by decide +kernel
theorem dX9_reserveFor_19 : decode cX9_reserveFor 19 = .ok (.getfield 147, 3) := by decide +kernel
theorem dX9_reserveFor_22 : decode cX9_reserveFor 22 = .ok (.invokestatic 304, 3) := by decide +kernel
theorem dX9_reserveFor_25 : decode cX9_reserveFor 25 = .ok (.imul, 1) := by decide +kernel
theorem dX9_reserveFor_26 : decode cX9_reserveFor 26 = .ok (.istore 6, 2) := by decide +kernel
theorem dX9_reserveFor_28 : decode cX9_reserveFor 28 = .ok (.iconst 0, 1) := by decide +kernel
theorem dX9_reserveFor_29 : decode cX9_reserveFor 29 = .ok (.istore 7, 2) := by decide +kernel
theorem dX9_reserveFor_31 : decode cX9_reserveFor 31 = .ok (.iload 7, 2) := by decide +kernel
theorem dX9_reserveFor_33 : decode cX9_reserveFor 33 = .ok (.bipush 8, 2) := by decide +kernel
theorem dX9_reserveFor_35 : decode cX9_reserveFor 35 = .ok (.if_icmp .ge 35, 3) := by decide +kernel
theorem dX9_reserveFor_38 : decode cX9_reserveFor 38 = .ok (.aload_n 1, 1) := by decide +kernel
theorem dX9_reserveFor_39 : decode cX9_reserveFor 39 = .ok (.iload 7, 2) := by decide +kernel
theorem dX9_reserveFor_41 : decode cX9_reserveFor 41 = .ok (.invokevirtual 430, 3) := by decide +kernel
theorem dX9_reserveFor_44 : decode cX9_reserveFor 44 = .ok (.ifCond .eq 20, 3) := by decide +kernel
theorem dX9_reserveFor_47 : decode cX9_reserveFor 47 = .ok (.aload_n 0, 1) := by decide +kernel
theorem dX9_reserveFor_48 : decode cX9_reserveFor 48 = .ok (.getfield 45, 3) := by decide +kernel
theorem dX9_reserveFor_51 : decode cX9_reserveFor 51 = .ok (.iload 7, 2) := by decide +kernel
theorem dX9_reserveFor_53 : decode cX9_reserveFor 53 = .ok (.iload 5, 2) := by decide +kernel
theorem dX9_reserveFor_55 : decode cX9_reserveFor 55 = .ok (.aload_n 2, 1) := by decide +kernel
theorem dX9_reserveFor_56 : decode cX9_reserveFor 56 = .ok (.getfield 182, 3) := by decide +kernel
theorem dX9_reserveFor_59 : decode cX9_reserveFor 59 = .ok (.iload 6, 2) := by decide +kernel
theorem dX9_reserveFor_61 : decode cX9_reserveFor 61 = .ok (.invokevirtual 570, 3) := by decide +kernel
theorem dX9_reserveFor_64 : decode cX9_reserveFor 64 = .ok (.iinc 7 1, 3) := by decide +kernel
theorem dX9_reserveFor_67 : decode cX9_reserveFor 67 = .ok (.goto (-36), 3) := by decide +kernel
theorem dX9_reserveFor_70 : decode cX9_reserveFor 70 = .ok (.return_, 1) := by decide +kernel
set_option maxRecDepth 100000 in
set_option maxHeartbeats 4000000 in
theorem k_resF (l : Launch) (D : va_G) (cy : Nat → ClassId) {ad τ : List Nat} {Y : CY} {σ : SG} (hV : VL cy ad τ Y σ) {j d9 e9 : Nat} (hj : j < 12) (hd : sgT σ d9 = 7) (he : sgT σ e9 = 8) (sn : Int32) (sz : Nat) : clM l D cy ad τ Y σ sz yX9_reserveFor (Cond.code yX9_reserveFor cX9_reserveFor 8 none :: vWall) 1 24 [.ref (yX Y), .ref (yp Y j), .ref d9, .ref e9, .int sn] (fun v s2 => v = none ∧ ∃ z22 : Int32, z22.toInt = hubC (sgI σ d9 11) (sgI σ e9 3).toInt ∧ resN Y σ (yp Y j) (sn * (2 + sgI σ e9 3)) (sn * z22) (sgI σ d9 12) 8 s2) := by
  refine cl_ofW (cc := cX9_reserveFor) (maxL := 8) (ret := none) hV (by decide) rfl (Nat.le_of_ble_eq_true rfl) (lv := [(0, .ref (yX Y)), (1, .ref (yp Y j)), (2, .ref d9), (3, .ref e9), (4, .int sn)]) rfl (fun p e s m below meth c ls H hrt hnm F hB hl => ?_) sz
  have hx := F.1.1
  have hb := F.1.2.1
  have hown := F.1.2.2.2.1
  generalize hlo : ([] : List Loc) = locs at hB ⊢
  clear hlo
  obtain ⟨LX, LD, Ld, LE, Le, LP9, Lp, Lt, LU, LA, Lz⟩ := hV.2
  have hgr := en_gr hV he
  have e0 : (0 : Int32).toInt = 0 := rfl
  have e8 : (8 : Int32).toInt = 8 := rfl
  have hyk : yh Y ≠ yk Y := Lz.2.2.2.2.2.2
  refine lv_iload hx hb dX9_reserveFor_0 (lv_at hl 4 rfl) ?_
  refine lv_aload_n hx hb dX9_reserveFor_2 rfl (lv_at hl 3 rfl) ?_
  refine gf_X9_147 F hB dX9_reserveFor_3 he ?_
  refine cl_callS F hB (k_hostCost l D cy hB.2 _ _) (cwS 1 F.1.2.2.2.2 (vgS (vm_5 _ (List.mem_of_getElem? (i := 10) rfl)) (vm_5 _ (List.mem_of_getElem? (i := 11) rfl)) (vm_4 _ (List.mem_of_getElem? (i := 20) rfl)) (vm_5 _ (List.mem_of_getElem? (i := 7) rfl))) rfl rfl rfl ⟨rfl, by decide, by decide, by decide +kernel⟩ ⟨Nat.le_of_ble_eq_true rfl, Nat.le_of_ble_eq_true rfl⟩) rfl hl.1 rfl (Nat.le_of_ble_eq_true rfl) dX9_reserveFor_6 ⟨Nat.le_of_ble_eq_true rfl, Nat.le_of_ble_eq_true rfl⟩ (fun H locs v σ6 hB hP => ?_)
  obtain ⟨rfl, rfl⟩ := hP
  refine lv_imul hx hb dX9_reserveFor_9 ?_
  refine lv_istore (lv' := [(5, .int _), (0, .ref _), (1, .ref _), (2, .ref _), (3, .ref _), (4, .int _)]) hx hb dX9_reserveFor_10 hl (by decide) rfl (fun ls hl => ?_)
  refine lv_iload hx hb dX9_reserveFor_12 (lv_at hl 5 rfl) ?_
  refine lv_aload_n hx hb dX9_reserveFor_14 rfl (lv_at hl 3 rfl) ?_
  refine gf_X9_109 F hB dX9_reserveFor_15 hd ?_
  refine lv_aload_n hx hb dX9_reserveFor_18 rfl (lv_at hl 4 rfl) ?_
  refine gf_X9_147 F hB dX9_reserveFor_19 he ?_
  refine cl_callS F hB (k_hubCost l D cy hB.2 _ _ hgr.1 (by omega) _) (cwS 2 F.1.2.2.2.2 (vgS (vm_5 _ (List.mem_of_getElem? (i := 12) rfl)) (vm_5 _ (List.mem_of_getElem? (i := 13) rfl)) (vm_4 _ (List.mem_of_getElem? (i := 20) rfl)) (vm_5 _ (List.mem_of_getElem? (i := 8) rfl))) rfl rfl rfl ⟨rfl, by decide, by decide, by decide +kernel⟩ ⟨Nat.le_of_ble_eq_true rfl, Nat.le_of_ble_eq_true rfl⟩) rfl hl.1 rfl (Nat.le_of_ble_eq_true rfl) dX9_reserveFor_22 ⟨Nat.le_of_ble_eq_true rfl, Nat.le_of_ble_eq_true rfl⟩ (fun H locs v σ22 hB hP => ?_)
  obtain ⟨⟨z22, rfl, hz22⟩, rfl⟩ := hP
  refine lv_imul hx hb dX9_reserveFor_25 ?_
  refine lv_istore (lv' := [(6, .int _), (5, .int _), (0, .ref _), (1, .ref _), (2, .ref _), (3, .ref _), (4, .int _)]) hx hb dX9_reserveFor_26 hl (by decide) rfl (fun ls hl => ?_)
  refine lv_iconst (v := 0) hx hb dX9_reserveFor_28 (by decide) ?_
  refine lv_istore (lv' := [(7, .int _), (6, .int _), (5, .int _), (0, .ref _), (1, .ref _), (2, .ref _), (3, .ref _), (4, .int _)]) hx hb dX9_reserveFor_29 hl (by decide) rfl (fun ls hl => ?_)
  have key31 : ∃ (i7 : Int32) (σ3 : SG), clB D cy ad τ Y s σ3 H locs ∧ lv_has ls 8 [(7, .int i7), (6, .int (sn * z22)), (5, .int (sn * (2 + sgI σ e9 3))), (4, .int sn), (3, .ref e9), (2, .ref d9), (1, .ref (yp Y j)), (0, .ref (yX Y))] ∧ (0 ≤ i7.toInt ∧ i7.toInt ≤ 8) ∧ resN Y σ (yp Y j) (sn * (2 + sgI σ e9 3)) (sn * z22) (sgI σ d9 12) i7.toInt σ3 := ⟨_, _, hB, (lv_sub hl [0, 1, 2, 7, 6, 5, 4, 3] rfl), ⟨by decide, by decide⟩, resN_0⟩
  clear hB hl
  obtain ⟨i7, σ3, hB, hl, hi7, hN⟩ := key31
  obtain ⟨d31, hd31⟩ : ∃ d : Nat, d = 20 - i7.toInt.toNat := ⟨_, rfl⟩
  induction d31 using Nat.strongRecOn generalizing H locs ls i7 σ3
  rename_i d31 ih31
  refine lv_iload hx hb dX9_reserveFor_31 (lv_at hl 0 rfl) ?_
  refine lv_bipush (v := 8) hx hb dX9_reserveFor_33 (by decide) ?_
  refine lv_icmp_ge (tgt := 70) hx hb dX9_reserveFor_35 (by decide) (fun c35 => ?_) (fun c35 => ?_)
  · exact cl_vret F hB hrt dX9_reserveFor_70 (⟨rfl, z22, hz22, (show i7.toInt = 8 from (by have h9 := i_le c35; omega)) ▸ hN⟩)
  · refine lv_aload_n hx hb dX9_reserveFor_38 rfl (lv_at hl 6 rfl) ?_
    refine lv_iload hx hb dX9_reserveFor_39 (lv_at hl 0 rfl) ?_
    have h8 : i7.toInt < 8 := by have := i_nle c35; omega
    have ha : ∀ a j, a ≠ yh Y → a ≠ yk Y → sgI σ3 a j = sgI σ a j := hN.2.2.1
    have np : yp Y j ≠ yh Y ∧ yp Y j ≠ yk Y := ⟨fun z => by have := (Lp j hj).1; rw [z, LA.1] at this; exact absurd this (by decide), fun z => by have := (Lp j hj).1; rw [z, LA.2.2.1] at this; exact absurd this (by decide)⟩
    have nd : d9 ≠ yh Y ∧ d9 ≠ yk Y := ⟨fun z => by rw [z, LA.1] at hd; exact absurd hd (by decide), fun z => by rw [z, LA.2.2.1] at hd; exact absurd hd (by decide)⟩
    have hdu : due σ3 (yp Y j) i7 ↔ due σ (yp Y j) i7 := by show (_ &&& (sgI σ3 (yp Y j) 4 - 1) = sgI σ3 (yp Y j) 5) ↔ _; rw [ha _ _ np.1 np.2, ha _ _ np.1 np.2]
    have etr := ha d9 12 nd.1 nd.2
    refine cl_callN (ci := 10) F hB (k_isDueIn l D cy hB.2 (hB.2.2.2.2.2.2.2.2.1 j hj).1 _ _) ⟨va_cnB 1 F.1.2.2.2.2 (vgN (vm_2 _ (List.mem_of_getElem? (i := 24) rfl))) rfl rfl rfl (F.2.2.1.1 _ nf_127) (F.1.2.2.2.2 _ (List.mem_cons_of_mem _ (vm_2 _ (List.mem_of_getElem? (i := 22) rfl)))) ⟨by decide, by decide, by decide +kernel⟩ ⟨Nat.le_of_ble_eq_true rfl, Nat.le_of_ble_eq_true rfl⟩, F.1.2.2.2.2 _ (List.mem_cons_of_mem _ (vm_5 _ (List.mem_of_getElem? (i := 14) rfl))), F.1.2.2.2.2 _ (List.mem_cons_of_mem _ (vm_5 _ (List.mem_of_getElem? (i := 15) rfl)))⟩ rfl rfl (by decide) rfl hl.1 rfl (Nat.le_of_ble_eq_true rfl) dX9_reserveFor_41 ⟨Nat.le_of_ble_eq_true rfl, Nat.le_of_ble_eq_true rfl⟩ (hB.2.2.2.2.2.2.2.2.1 j hj).1 (fun H locs v σ41 hB hP => ?_)
    obtain ⟨⟨b41, rfl, hb41⟩, rfl⟩ := hP
    refine lv_if_eq (tgt := 64) hx hb dX9_reserveFor_44 (by decide) (fun c44 => ?_) (fun c44 => ?_)
    · refine lv_iinc (lv' := [(7, .int _), (6, .int _), (5, .int _), (4, .int _), (3, .ref _), (2, .ref _), (1, .ref _), (0, .ref _)]) hx hb dX9_reserveFor_64 hl (k := 0) rfl rfl (by decide) rfl (fun ls hl => ?_)
      refine lv_goto (tgt := 31) hx hb dX9_reserveFor_67 (by decide) ?_
      have q31 := cl_add1 (x := i7) (by omega) (by omega)
      exact ih31 _ (by subst hd31; rw [q31]; omega) _ _ _ _ _ hB (lv_sub hl [0, 1, 2, 3, 4, 5, 6, 7] rfl) ⟨by rw [q31]; omega, by rw [q31]; omega⟩ (by rw [q31]; first | exact resN_n hN (fun z => sgb_f hb41 c44 (hdu.mpr z)) | exact hN61 | fail "no road") rfl
    · refine lv_aload_n hx hb dX9_reserveFor_47 rfl (lv_at hl 7 rfl) ?_
      refine gr_X9_45 F hB dX9_reserveFor_48 hB.2.2.1.1 hB.2.2.1.2.2.2.1 ?_
      refine lv_iload hx hb dX9_reserveFor_51 (lv_at hl 0 rfl) ?_
      refine lv_iload hx hb dX9_reserveFor_53 (lv_at hl 2 rfl) ?_
      refine lv_aload_n hx hb dX9_reserveFor_55 rfl (lv_at hl 5 rfl) ?_
      refine gf_X9_182 F hB dX9_reserveFor_56 ((hN.1 d9).1.trans hd) ?_
      rw [etr]
      refine lv_iload hx hb dX9_reserveFor_59 (lv_at hl 1 rfl) ?_
      refine cl_callN (ci := 13) F hB (k_res l D cy hB.2 _ _ _ _ hi7.1 h8 _) ⟨va_cnB 4 F.1.2.2.2.2 (vgN (vm_3 _ (List.mem_of_getElem? (i := 5) rfl))) rfl rfl rfl (F.2.2.1.1 _ nf_128) (F.1.2.2.2.2 _ (List.mem_cons_of_mem _ (vm_3 _ (List.mem_of_getElem? (i := 15) rfl)))) ⟨by decide, by decide, by decide +kernel⟩ ⟨Nat.le_of_ble_eq_true rfl, Nat.le_of_ble_eq_true rfl⟩, F.1.2.2.2.2 _ (List.mem_cons_of_mem _ (vm_5 _ (List.mem_of_getElem? (i := 16) rfl))), F.1.2.2.2.2 _ (List.mem_cons_of_mem _ (vm_5 _ (List.mem_of_getElem? (i := 17) rfl)))⟩ rfl rfl (by decide) rfl hl.1 rfl (Nat.le_of_ble_eq_true rfl) dX9_reserveFor_61 ⟨Nat.le_of_ble_eq_true rfl, Nat.le_of_ble_eq_true rfl⟩ hB.2.2.2.2.2.2.2.2.2.2.1.1 (fun H locs v σ61 hB hP => ?_)
      obtain ⟨rfl, hR⟩ := hP
      have hdd := hdu.mp (sgb_t hb41 c44)
      have hN61 : resN Y σ (yp Y j) (sn * (2 + sgI σ e9 3)) (sn * z22) (sgI σ d9 12) (i7.toInt + 1) σ61 := by
        rcases hR with ⟨hh, e⟩ | ⟨hh, e⟩
        · rw [← e]; exact resN_A hN hyk hi7.1 h8 hdd hh
        · rw [← e]; exact resN_B hN hyk hi7.1 h8 hdd hh.1 hh.2 rfl
      refine lv_iinc (lv' := [(7, .int _), (6, .int _), (5, .int _), (4, .int _), (3, .ref _), (2, .ref _), (1, .ref _), (0, .ref _)]) hx hb dX9_reserveFor_64 hl (k := 0) rfl rfl (by decide) rfl (fun ls hl => ?_)
      refine lv_goto (tgt := 31) hx hb dX9_reserveFor_67 (by decide) ?_
      have q31 := cl_add1 (x := i7) (by omega) (by omega)
      exact ih31 _ (by subst hd31; rw [q31]; omega) _ _ _ _ _ hB (lv_sub hl [0, 1, 2, 3, 4, 5, 6, 7] rfl) ⟨by rw [q31]; omega, by rw [q31]; omega⟩ (by rw [q31]; first | exact resN_n hN (fun z => sgb_f hb41 c44 (hdu.mpr z)) | exact hN61 | fail "no road") rfl
end CLK5
