section CLK13
theorem dX8_hostPeak_0 : decode cX8_hostPeak 0 = .ok (.iconst 0, 1) := by decide +kernel
theorem dX8_hostPeak_1 : decode cX8_hostPeak 1 = .ok (.istore 4, 2) := by decide +kernel
theorem dX8_hostPeak_3 : decode cX8_hostPeak 3 = .ok (.iconst 0, 1) := by decide +kernel
theorem dX8_hostPeak_4 : decode cX8_hostPeak 4 = .ok (.istore 5, 2) := by decide +kernel
theorem dX8_hostPeak_6 : decode cX8_hostPeak 6 = .ok (.iload 5, 2) := by decide +kernel
theorem dX8_hostPeak_8 : decode cX8_hostPeak 8 = .ok (.bipush 8, 2) := by decide +kernel
theorem dX8_hostPeak_10 : decode cX8_hostPeak 10 = .ok (.if_icmp .ge 57, 3) := by decide +kernel
theorem dX8_hostPeak_13 : decode cX8_hostPeak 13 = .ok (.iload 5, 2) := by decide +kernel
theorem dX8_hostPeak_15 : decode cX8_hostPeak 15 = .ok (.iload_n 1, 1) := by decide +kernel
theorem dX8_hostPeak_16 : decode cX8_hostPeak 16 = .ok (.iconst 1, 1) := by decide +kernel
theorem dX8_hostPeak_17 : decode cX8_hostPeak 17 = .ok (.isub, 1) := by decide +kernel
theorem dX8_hostPeak_18 : decode cX8_hostPeak 18 = .ok (.iand, 1) := by decide +kernel
theorem dX8_hostPeak_19 : decode cX8_hostPeak 19 = .ok (.iload_n 2, 1) := by decide +kernel
theorem dX8_hostPeak_20 : decode cX8_hostPeak 20 = .ok (.if_icmp .ne 7, 3) := by decide +kernel
theorem dX8_hostPeak_23 : decode cX8_hostPeak 23 = .ok (.iconst 1, 1) := by decide +kernel
theorem dX8_hostPeak_24 : decode cX8_hostPeak 24 = .ok (.goto 4, 3) := by decide +kernel
theorem dX8_hostPeak_27 : decode cX8_hostPeak 27 = .ok (.iconst 0, 1) := by decide +kernel
theorem dX8_hostPeak_28 : decode cX8_hostPeak 28 = .ok (.istore 6, 2) := by decide +kernel
theorem dX8_hostPeak_30 : decode cX8_hostPeak 30 = .ok (.iload 4, 2) := by decide +kernel
theorem dX8_hostPeak_32 : decode cX8_hostPeak 32 = .ok (.iload 6, 2) := by decide +kernel
theorem dX8_hostPeak_34 : decode cX8_hostPeak 34 = .ok (.ifCond .eq 15, 3) := by decide +kernel
theorem dX8_hostPeak_37 : decode cX8_hostPeak 37 = .ok (.aload_n 0, 1) := by decide +kernel
theorem dX8_hostPeak_38 : decode cX8_hostPeak 38 = .ok (.getfield 9, 3) := by decide +kernel
theorem dX8_hostPeak_41 : decode cX8_hostPeak 41 = .ok (.iload 5, 2) := by decide +kernel
theorem dX8_hostPeak_43 : decode cX8_hostPeak 43 = .ok (.iaload, 1) := by decide +kernel
theorem dX8_hostPeak_44 : decode cX8_hostPeak 44 = .ok (.iload_n 3, 1) := by decide +kernel
theorem dX8_hostPeak_45 : decode cX8_hostPeak 45 = .ok (.iadd, 1) := by decide +kernel
theorem dX8_hostPeak_46 : decode cX8_hostPeak 46 = .ok (.goto 10, 3) := by decide +kernel
theorem dX8_hostPeak_49 : decode cX8_hostPeak 49 = .ok (.aload_n 0, 1) := by decide +kernel
theorem dX8_hostPeak_50 : decode cX8_hostPeak 50 = .ok (.getfield 9, 3) := by decide +kernel
theorem dX8_hostPeak_53 : decode cX8_hostPeak 53 = .ok (.iload 5, 2) := by decide +kernel
theorem dX8_hostPeak_55 : decode cX8_hostPeak 55 = .ok (.iaload, 1) := by decide +kernel
theorem dX8_hostPeak_56 : decode cX8_hostPeak 56 = .ok (.invokestatic 36, 3) := by decide +kernel
theorem dX8_hostPeak_59 : decode cX8_hostPeak 59 = .ok (.istore 4, 2) := by decide +kernel
theorem dX8_hostPeak_61 : decode cX8_hostPeak 61 = .ok (.iinc 5 1, 3) := by decide +kernel
theorem dX8_hostPeak_64 : decode cX8_hostPeak 64 = .ok (.goto (-58), 3) := by decide +kernel
theorem dX8_hostPeak_67 : decode cX8_hostPeak 67 = .ok (.iload 4, 2) := by decide +kernel
theorem dX8_hostPeak_69 : decode cX8_hostPeak 69 = .ok (.ireturn, 1) := by decide +kernel
set_option maxRecDepth 100000 in
set_option maxHeartbeats 4000000 in
theorem k_hpk (l : Launch) (D : va_G) (cy : Nat → ClassId) {ad τ : List Nat} {Y : CY} {σ : SG} (hV : VL cy ad τ Y σ) (iv ph mo : Int32) (hH : ∀ f : Int32, 0 ≤ f.toInt → f.toInt < 8 → 0 ≤ (sgI σ (yh Y) f.toInt.toNat).toInt ∧ (sgI σ (yh Y) f.toInt.toNat).toInt ≤ 80) (hmo : 0 ≤ mo.toInt ∧ mo.toInt ≤ 16) (sz : Nat) : clM l D cy ad τ Y σ sz yX8_hostPeak (Cond.code yX8_hostPeak cX8_hostPeak 7 (some .int) :: vWall) 1 13 [.ref (yu Y), .int iv, .int ph, .int mo] (fun v s2 => (∃ z : Int32, v = some (.int z) ∧ (∀ f : Int32, 0 ≤ f.toInt → f.toInt < 8 → f &&& (iv - 1) = ph → (sgI σ (yh Y) f.toInt.toNat).toInt + mo.toInt ≤ z.toInt)) ∧ σ = s2) := by
  refine cl_ofW (cc := cX8_hostPeak) (maxL := 7) (ret := (some .int)) hV (by decide) rfl (Nat.le_of_ble_eq_true rfl) (lv := [(0, .ref (yu Y)), (1, .int iv), (2, .int ph), (3, .int mo)]) rfl (fun p e s m below meth c ls H hrt hnm F hB hl => ?_) sz
  have hx := F.1.1
  have hb := F.1.2.1
  have hown := F.1.2.2.2.1
  generalize hlo : ([] : List Loc) = locs at hB ⊢
  clear hlo
  obtain ⟨LX, LD, Ld, LE, Le, LP9, Lp, Lt, LU, LA, Lz⟩ := hV.2
  have e0 : (0 : Int32).toInt = 0 := rfl
  have e1 : (1 : Int32).toInt = 1 := rfl
  have e16 : (16 : Int32).toInt = 16 := rfl
  have e12 : (12 : Int32).toInt = 12 := rfl
  have e4 : (4 : Int32).toInt = 4 := rfl
  have e8 : (8 : Int32).toInt = 8 := rfl
  refine lv_iconst (v := 0) hx hb dX8_hostPeak_0 (by decide) ?_
  refine lv_istore (lv' := [(4, .int _), (0, .ref _), (1, .int _), (2, .int _), (3, .int _)]) hx hb dX8_hostPeak_1 hl (by decide) rfl (fun ls hl => ?_)
  refine lv_iconst (v := 0) hx hb dX8_hostPeak_3 (by decide) ?_
  refine lv_istore (lv' := [(5, .int _), (4, .int _), (0, .ref _), (1, .int _), (2, .int _), (3, .int _)]) hx hb dX8_hostPeak_4 hl (by decide) rfl (fun ls hl => ?_)
  have key6 : ∃ i5 p4 : Int32, clB D cy ad τ Y s σ H locs ∧ lv_has ls 7 [(5, .int i5), (4, .int p4), (3, .int mo), (2, .int ph), (1, .int iv), (0, .ref (yu Y))] ∧ (0 ≤ i5.toInt ∧ i5.toInt ≤ 8) ∧ (∀ f : Int32, 0 ≤ f.toInt → f.toInt < i5.toInt → f &&& (iv - 1) = ph → (sgI σ (yh Y) f.toInt.toNat).toInt + mo.toInt ≤ p4.toInt) := ⟨_, _, hB, (lv_sub hl [0, 1, 5, 4, 3, 2] rfl), ⟨by decide, by decide⟩, fun f f0 f1 => by rw [e0] at f1; omega⟩
  clear hB hl
  obtain ⟨i5, p4, hB, hl, hi5, hp4⟩ := key6
  obtain ⟨d6, hd6⟩ : ∃ d : Nat, d = 20 - i5.toInt.toNat := ⟨_, rfl⟩
  induction d6 using Nat.strongRecOn generalizing H locs ls i5 p4
  rename_i d6 ih6
  refine lv_iload hx hb dX8_hostPeak_6 (lv_at hl 0 rfl) ?_
  refine lv_bipush (v := 8) hx hb dX8_hostPeak_8 (by decide) ?_
  refine lv_icmp_ge (tgt := 67) hx hb dX8_hostPeak_10 (by decide) (fun c10 => ?_) (fun c10 => ?_)
  · refine lv_iload hx hb dX8_hostPeak_67 (lv_at hl 1 rfl) ?_
    exact cl_iret F hB hrt dX8_hostPeak_69 (⟨⟨_, rfl, fun f f0 f1 hf => hp4 f f0 (by have := i_le c10; omega) hf⟩, rfl⟩)
  · refine lv_iload hx hb dX8_hostPeak_13 (lv_at hl 0 rfl) ?_
    refine lv_iload_n hx hb dX8_hostPeak_15 rfl (lv_at hl 4 rfl) ?_
    refine lv_iconst (v := 1) hx hb dX8_hostPeak_16 (by decide) ?_
    refine lv_isub hx hb dX8_hostPeak_17 ?_
    refine lv_iand hx hb dX8_hostPeak_18 ?_
    refine lv_iload_n hx hb dX8_hostPeak_19 rfl (lv_at hl 3 rfl) ?_
    refine lv_icmp_ne (tgt := 27) hx hb dX8_hostPeak_20 (by decide) (fun c20 => ?_) (fun c20 => ?_)
    · refine lv_iconst (v := 0) hx hb dX8_hostPeak_27 (by decide) ?_
      refine lv_istore (lv' := [(6, .int _), (5, .int _), (4, .int _), (3, .int _), (2, .int _), (1, .int _), (0, .ref _)]) hx hb dX8_hostPeak_28 hl (by decide) rfl (fun ls hl => ?_)
      refine lv_iload hx hb dX8_hostPeak_30 (lv_at hl 2 rfl) ?_
      refine lv_iload hx hb dX8_hostPeak_32 (lv_at hl 0 rfl) ?_
      refine lv_if_eq (tgt := 49) hx hb dX8_hostPeak_34 (by decide) (fun c34 => ?_) (fun c34 => (by first | exact absurd c34 (by decide) | exact (c34 (by decide)).elim))
      refine lv_aload_n hx hb dX8_hostPeak_49 rfl (lv_at hl 6 rfl) ?_
      have hn : i5.toInt < 8 := by have := i_nle c10; omega
      refine gr_X8_9 F hB dX8_hostPeak_50 LU.1 LU.2.1 ?_
      refine lv_iload hx hb dX8_hostPeak_53 (lv_at hl 1 rfl) ?_
      refine sg_iald hx hb F.2.1 hB.1 dX8_hostPeak_55 LA.1 (by omega) (by rw [LA.2.1]; omega) (by rw [LA.2.1]; decide) ?_
      refine va_mmax hx hb (F.1.2.2.1.trans hl.1.symm) hown (F.1.2.2.2.2 _ (List.mem_cons_of_mem _ (vm_3 _ (List.mem_of_getElem? (i := 7) rfl)))) (F.1.2.2.2.2 _ (List.mem_cons_of_mem _ (vm_3 _ (List.mem_of_getElem? (i := 8) rfl)))) (F.1.2.2.2.2 _ (List.mem_cons_of_mem _ (vm_0 _ (List.mem_of_getElem? (i := 14) rfl)))) (F.1.2.2.2.2 _ (List.mem_cons_of_mem _ (vm_3 _ (List.mem_of_getElem? (i := 9) rfl)))) (Nat.le_of_ble_eq_true rfl) (Nat.le_of_ble_eq_true rfl) (Nat.le_of_ble_eq_true rfl) (Nat.le_of_ble_eq_true rfl) dX8_hostPeak_56 ?_
      refine lv_istore (lv' := [(4, .int _), (6, .int _), (5, .int _), (3, .int _), (2, .int _), (1, .int _), (0, .ref _)]) hx hb dX8_hostPeak_59 hl (by decide) rfl (fun ls hl => ?_)
      refine lv_iinc (lv' := [(5, .int _), (4, .int _), (6, .int _), (3, .int _), (2, .int _), (1, .int _), (0, .ref _)]) hx hb dX8_hostPeak_61 hl (k := 2) rfl rfl (by decide) rfl (fun ls hl => ?_)
      refine lv_goto (tgt := 6) hx hb dX8_hostPeak_64 (by decide) ?_
      have q9 := cl_add1 (x := i5) (by omega) (by omega)
      have hh5 := hH i5 hi5.1 hn
      first | (have cc : i5 &&& (iv - 1) = ph := c20; exact ih6 _ (by subst hd6; rw [q9]; omega) _ _ _ _ _ hB (lv_sub hl [0, 1, 3, 4, 5, 6] rfl) ⟨by rw [q9]; omega, by rw [q9]; omega⟩ ((by rw [q9]; exact pk_st (P := fun f => f &&& (iv - 1) = ph) (F := fun f => (sgI σ (yh Y) f.toInt.toNat).toInt + mo.toInt) (x := sgI σ (yh Y) i5.toInt.toNat + mo) hp4 (fun _ => by rw [i_add (by omega) (by omega)]; exact Int.le_refl _))) rfl) | (have cc : ¬ i5 &&& (iv - 1) = ph := c20; exact ih6 _ (by subst hd6; rw [q9]; omega) _ _ _ _ _ hB (lv_sub hl [0, 1, 3, 4, 5, 6] rfl) ⟨by rw [q9]; omega, by rw [q9]; omega⟩ ((by rw [q9]; exact pk_st (P := fun f => f &&& (iv - 1) = ph) (F := fun f => (sgI σ (yh Y) f.toInt.toNat).toInt + mo.toInt) (x := sgI σ (yh Y) i5.toInt.toNat) hp4 (fun z => absurd z cc))) rfl) | fail "no road"
    · refine lv_iconst (v := 1) hx hb dX8_hostPeak_23 (by decide) ?_
      refine lv_goto (tgt := 28) hx hb dX8_hostPeak_24 (by decide) ?_
      refine lv_istore (lv' := [(6, .int _), (5, .int _), (4, .int _), (3, .int _), (2, .int _), (1, .int _), (0, .ref _)]) hx hb dX8_hostPeak_28 hl (by decide) rfl (fun ls hl => ?_)
      refine lv_iload hx hb dX8_hostPeak_30 (lv_at hl 2 rfl) ?_
      refine lv_iload hx hb dX8_hostPeak_32 (lv_at hl 0 rfl) ?_
      refine lv_if_eq (tgt := 49) hx hb dX8_hostPeak_34 (by decide) (fun c34 => (by first | exact absurd c34 (by decide) | exact (c34 (by decide)).elim)) (fun c34 => ?_)
      refine lv_aload_n hx hb dX8_hostPeak_37 rfl (lv_at hl 6 rfl) ?_
      have hn : i5.toInt < 8 := by have := i_nle c10; omega
      refine gr_X8_9 F hB dX8_hostPeak_38 LU.1 LU.2.1 ?_
      refine lv_iload hx hb dX8_hostPeak_41 (lv_at hl 1 rfl) ?_
      refine sg_iald hx hb F.2.1 hB.1 dX8_hostPeak_43 LA.1 (by omega) (by rw [LA.2.1]; omega) (by rw [LA.2.1]; decide) ?_
      refine lv_iload_n hx hb dX8_hostPeak_44 rfl (lv_at hl 3 rfl) ?_
      refine lv_iadd hx hb dX8_hostPeak_45 ?_
      refine lv_goto (tgt := 56) hx hb dX8_hostPeak_46 (by decide) ?_
      refine va_mmax hx hb (F.1.2.2.1.trans hl.1.symm) hown (F.1.2.2.2.2 _ (List.mem_cons_of_mem _ (vm_3 _ (List.mem_of_getElem? (i := 7) rfl)))) (F.1.2.2.2.2 _ (List.mem_cons_of_mem _ (vm_3 _ (List.mem_of_getElem? (i := 8) rfl)))) (F.1.2.2.2.2 _ (List.mem_cons_of_mem _ (vm_0 _ (List.mem_of_getElem? (i := 14) rfl)))) (F.1.2.2.2.2 _ (List.mem_cons_of_mem _ (vm_3 _ (List.mem_of_getElem? (i := 9) rfl)))) (Nat.le_of_ble_eq_true rfl) (Nat.le_of_ble_eq_true rfl) (Nat.le_of_ble_eq_true rfl) (Nat.le_of_ble_eq_true rfl) dX8_hostPeak_56 ?_
      refine lv_istore (lv' := [(4, .int _), (6, .int _), (5, .int _), (3, .int _), (2, .int _), (1, .int _), (0, .ref _)]) hx hb dX8_hostPeak_59 hl (by decide) rfl (fun ls hl => ?_)
      refine lv_iinc (lv' := [(5, .int _), (4, .int _), (6, .int _), (3, .int _), (2, .int _), (1, .int _), (0, .ref _)]) hx hb dX8_hostPeak_61 hl (k := 2) rfl rfl (by decide) rfl (fun ls hl => ?_)
      refine lv_goto (tgt := 6) hx hb dX8_hostPeak_64 (by decide) ?_
      have q9 := cl_add1 (x := i5) (by omega) (by omega)
      have hh5 := hH i5 hi5.1 hn
      first | (have cc : i5 &&& (iv - 1) = ph := c20; exact ih6 _ (by subst hd6; rw [q9]; omega) _ _ _ _ _ hB (lv_sub hl [0, 1, 3, 4, 5, 6] rfl) ⟨by rw [q9]; omega, by rw [q9]; omega⟩ ((by rw [q9]; exact pk_st (P := fun f => f &&& (iv - 1) = ph) (F := fun f => (sgI σ (yh Y) f.toInt.toNat).toInt + mo.toInt) (x := sgI σ (yh Y) i5.toInt.toNat + mo) hp4 (fun _ => by rw [i_add (by omega) (by omega)]; exact Int.le_refl _))) rfl) | (have cc : ¬ i5 &&& (iv - 1) = ph := c20; exact ih6 _ (by subst hd6; rw [q9]; omega) _ _ _ _ _ hB (lv_sub hl [0, 1, 3, 4, 5, 6] rfl) ⟨by rw [q9]; omega, by rw [q9]; omega⟩ ((by rw [q9]; exact pk_st (P := fun f => f &&& (iv - 1) = ph) (F := fun f => (sgI σ (yh Y) f.toInt.toNat).toInt + mo.toInt) (x := sgI σ (yh Y) i5.toInt.toNat) hp4 (fun z => absurd z cc))) rfl) | fail "no road"

theorem dX8_hubPeak_0 : decode cX8_hubPeak 0 = .ok (.iconst 0, 1) := by decide +kernel
theorem dX8_hubPeak_1 : decode cX8_hubPeak 1 = .ok (.istore 5, 2) := by decide +kernel
theorem dX8_hubPeak_3 : decode cX8_hubPeak 3 = .ok (.iconst 0, 1) := by decide +kernel
theorem dX8_hubPeak_4 : decode cX8_hubPeak 4 = .ok (.istore 6, 2) := by decide +kernel
theorem dX8_hubPeak_6 : decode cX8_hubPeak 6 = .ok (.iload 6, 2) := by decide +kernel
theorem dX8_hubPeak_8 : decode cX8_hubPeak 8 = .ok (.bipush 8, 2) := by decide +kernel
theorem dX8_hubPeak_10 : decode cX8_hubPeak 10 = .ok (.if_icmp .ge 72, 3) := by decide +kernel
theorem dX8_hubPeak_13 : decode cX8_hubPeak 13 = .ok (.iload_n 3, 1) := by decide +kernel
theorem dX8_hubPeak_14 : decode cX8_hubPeak 14 = .ok (.ifCond .lt 68, 3) := by decide +kernel
theorem dX8_hubPeak_17 : decode cX8_hubPeak 17 = .ok (.iload_n 3, 1) := by decide +kernel
theorem dX8_hubPeak_18 : decode cX8_hubPeak 18 = .ok (.bipush 16, 2) := by decide +kernel
theorem dX8_hubPeak_20 : decode cX8_hubPeak 20 = .ok (.if_icmp .ge 62, 3) := by decide +kernel
theorem dX8_hubPeak_23 : decode cX8_hubPeak 23 = .ok (.iload 6, 2) := by decide +kernel
theorem dX8_hubPeak_25 : decode cX8_hubPeak 25 = .ok (.iload_n 1, 1) := by decide +kernel
theorem dX8_hubPeak_26 : decode cX8_hubPeak 26 = .ok (.iconst 1, 1) := by decide +kernel
theorem dX8_hubPeak_27 : decode cX8_hubPeak 27 = .ok (.isub, 1) := by decide +kernel
theorem dX8_hubPeak_28 : decode cX8_hubPeak 28 = .ok (.iand, 1) := by decide +kernel
theorem dX8_hubPeak_29 : decode cX8_hubPeak 29 = .ok (.iload_n 2, 1) := by decide +kernel
theorem dX8_hubPeak_30 : decode cX8_hubPeak 30 = .ok (.if_icmp .ne 7, 3) := by decide +kernel
theorem dX8_hubPeak_33 : decode cX8_hubPeak 33 = .ok (.iconst 1, 1) := by decide +kernel
theorem dX8_hubPeak_34 : decode cX8_hubPeak 34 = .ok (.goto 4, 3) := by decide +kernel
theorem dX8_hubPeak_37 : decode cX8_hubPeak 37 = .ok (.iconst 0, 1) := by decide +kernel
theorem dX8_hubPeak_38 : decode cX8_hubPeak 38 = .ok (.istore 7, 2) := by decide +kernel
theorem dX8_hubPeak_40 : decode cX8_hubPeak 40 = .ok (.aload_n 0, 1) := by decide +kernel
theorem dX8_hubPeak_41 : decode cX8_hubPeak 41 = .ok (.getfield 15, 3) := by decide +kernel
theorem dX8_hubPeak_44 : decode cX8_hubPeak 44 = .ok (.iload_n 3, 1) := by decide +kernel
theorem dX8_hubPeak_45 : decode cX8_hubPeak 45 = .ok (.bipush 8, 2) := by decide +kernel
theorem dX8_hubPeak_47 : decode cX8_hubPeak 47 = .ok (.imul, 1) := by decide +kernel
theorem dX8_hubPeak_48 : decode cX8_hubPeak 48 = .ok (.iload 6, 2) := by decide +kernel
theorem dX8_hubPeak_50 : decode cX8_hubPeak 50 = .ok (.iadd, 1) := by decide +kernel
theorem dX8_hubPeak_51 : decode cX8_hubPeak 51 = .ok (.iaload, 1) := by decide +kernel
theorem dX8_hubPeak_52 : decode cX8_hubPeak 52 = .ok (.istore 8, 2) := by decide +kernel
theorem dX8_hubPeak_54 : decode cX8_hubPeak 54 = .ok (.iload 5, 2) := by decide +kernel
theorem dX8_hubPeak_56 : decode cX8_hubPeak 56 = .ok (.iload 7, 2) := by decide +kernel
theorem dX8_hubPeak_58 : decode cX8_hubPeak 58 = .ok (.ifCond .eq 11, 3) := by decide +kernel
theorem dX8_hubPeak_61 : decode cX8_hubPeak 61 = .ok (.iload 8, 2) := by decide +kernel
theorem dX8_hubPeak_63 : decode cX8_hubPeak 63 = .ok (.iload 4, 2) := by decide +kernel
theorem dX8_hubPeak_65 : decode cX8_hubPeak 65 = .ok (.iadd, 1) := by decide +kernel
theorem dX8_hubPeak_66 : decode cX8_hubPeak 66 = .ok (.goto 5, 3) := by decide +kernel
theorem dX8_hubPeak_69 : decode cX8_hubPeak 69 = .ok (.iload 8, 2) := by decide +kernel
theorem dX8_hubPeak_71 : decode cX8_hubPeak 71 = .ok (.invokestatic 36, 3) := by decide +kernel
theorem dX8_hubPeak_74 : decode cX8_hubPeak 74 = .ok (.istore 5, 2) := by decide +kernel
theorem dX8_hubPeak_76 : decode cX8_hubPeak 76 = .ok (.iinc 6 1, 3) := by decide +kernel
theorem dX8_hubPeak_79 : decode cX8_hubPeak 79 = .ok (.goto (-73), 3) := by decide +kernel
theorem dX8_hubPeak_82 : decode cX8_hubPeak 82 = .ok (.iload 5, 2) := by decide +kernel
theorem dX8_hubPeak_84 : decode cX8_hubPeak 84 = .ok (.ireturn, 1) := by decide +kernel
set_option maxRecDepth 100000 in
set_option maxHeartbeats 4000000 in
theorem k_upk (l : Launch) (D : va_G) (cy : Nat → ClassId) {ad τ : List Nat} {Y : CY} {σ : SG} (hV : VL cy ad τ Y σ) (iv ph ub mo : Int32) (hH : ∀ f : Int32, 0 ≤ f.toInt → f.toInt < 8 → 0 ≤ ub.toInt → ub.toInt < 16 → 0 ≤ (sgI σ (yk Y) (ub.toInt * 8 + f.toInt).toNat).toInt ∧ (sgI σ (yk Y) (ub.toInt * 8 + f.toInt).toNat).toInt ≤ 48) (hmo : 0 ≤ mo.toInt ∧ mo.toInt ≤ 100) (sz : Nat) : clM l D cy ad τ Y σ sz yX8_hubPeak (Cond.code yX8_hubPeak cX8_hubPeak 9 (some .int) :: vWall) 1 13 [.ref (yu Y), .int iv, .int ph, .int ub, .int mo] (fun v s2 => (∃ z : Int32, v = some (.int z) ∧ (0 ≤ ub.toInt → ub.toInt < 16 → ∀ f : Int32, 0 ≤ f.toInt → f.toInt < 8 → f &&& (iv - 1) = ph → (sgI σ (yk Y) (ub.toInt * 8 + f.toInt).toNat).toInt + mo.toInt ≤ z.toInt)) ∧ σ = s2) := by
  refine cl_ofW (cc := cX8_hubPeak) (maxL := 9) (ret := (some .int)) hV (by decide) rfl (Nat.le_of_ble_eq_true rfl) (lv := [(0, .ref (yu Y)), (1, .int iv), (2, .int ph), (3, .int ub), (4, .int mo)]) rfl (fun p e s m below meth c ls H hrt hnm F hB hl => ?_) sz
  have hx := F.1.1
  have hb := F.1.2.1
  have hown := F.1.2.2.2.1
  generalize hlo : ([] : List Loc) = locs at hB ⊢
  clear hlo
  obtain ⟨LX, LD, Ld, LE, Le, LP9, Lp, Lt, LU, LA, Lz⟩ := hV.2
  have e0 : (0 : Int32).toInt = 0 := rfl
  have e1 : (1 : Int32).toInt = 1 := rfl
  have e16 : (16 : Int32).toInt = 16 := rfl
  have e12 : (12 : Int32).toInt = 12 := rfl
  have e4 : (4 : Int32).toInt = 4 := rfl
  have e8 : (8 : Int32).toInt = 8 := rfl
  refine lv_iconst (v := 0) hx hb dX8_hubPeak_0 (by decide) ?_
  refine lv_istore (lv' := [(5, .int _), (0, .ref _), (1, .int _), (2, .int _), (3, .int _), (4, .int _)]) hx hb dX8_hubPeak_1 hl (by decide) rfl (fun ls hl => ?_)
  refine lv_iconst (v := 0) hx hb dX8_hubPeak_3 (by decide) ?_
  refine lv_istore (lv' := [(6, .int _), (5, .int _), (0, .ref _), (1, .int _), (2, .int _), (3, .int _), (4, .int _)]) hx hb dX8_hubPeak_4 hl (by decide) rfl (fun ls hl => ?_)
  have key6 : ∃ i6 p5 : Int32, clB D cy ad τ Y s σ H locs ∧ lv_has ls 9 [(6, .int i6), (5, .int p5), (4, .int mo), (3, .int ub), (2, .int ph), (1, .int iv), (0, .ref (yu Y))] ∧ (0 ≤ i6.toInt ∧ i6.toInt ≤ 8) ∧ (0 ≤ ub.toInt → ub.toInt < 16 → ∀ f : Int32, 0 ≤ f.toInt → f.toInt < i6.toInt → f &&& (iv - 1) = ph → (sgI σ (yk Y) (ub.toInt * 8 + f.toInt).toNat).toInt + mo.toInt ≤ p5.toInt) := ⟨_, _, hB, (lv_sub hl [0, 1, 6, 5, 4, 3, 2] rfl), ⟨by decide, by decide⟩, fun _ _ f f0 f1 => by rw [e0] at f1; omega⟩
  clear hB hl
  obtain ⟨i6, p5, hB, hl, hi6, hp5⟩ := key6
  obtain ⟨d6, hd6⟩ : ∃ d : Nat, d = 20 - i6.toInt.toNat := ⟨_, rfl⟩
  induction d6 using Nat.strongRecOn generalizing H locs ls i6 p5
  rename_i d6 ih6
  refine lv_iload hx hb dX8_hubPeak_6 (lv_at hl 0 rfl) ?_
  refine lv_bipush (v := 8) hx hb dX8_hubPeak_8 (by decide) ?_
  refine lv_icmp_ge (tgt := 82) hx hb dX8_hubPeak_10 (by decide) (fun c10 => ?_) (fun c10 => ?_)
  · refine lv_iload hx hb dX8_hubPeak_82 (lv_at hl 1 rfl) ?_
    exact cl_iret F hB hrt dX8_hubPeak_84 (by first | exact ⟨⟨_, rfl, fun u0 u1 f f0 f1 hf => hp5 u0 u1 f f0 (by have := i_le c10; omega) hf⟩, rfl⟩ | exact ⟨⟨_, rfl, fun u0 u1 f f0 f1 hf => absurd u0 (by have := i_lt c14; omega)⟩, rfl⟩ | exact ⟨⟨_, rfl, fun u0 u1 f f0 f1 hf => absurd u1 (by have := i_le c20; omega)⟩, rfl⟩ | fail "no road")
  · refine lv_iload_n hx hb dX8_hubPeak_13 rfl (lv_at hl 3 rfl) ?_
    refine lv_if_lt (tgt := 82) hx hb dX8_hubPeak_14 (by decide) (fun c14 => ?_) (fun c14 => ?_)
    · refine lv_iload hx hb dX8_hubPeak_82 (lv_at hl 1 rfl) ?_
      exact cl_iret F hB hrt dX8_hubPeak_84 (by first | exact ⟨⟨_, rfl, fun u0 u1 f f0 f1 hf => hp5 u0 u1 f f0 (by have := i_le c10; omega) hf⟩, rfl⟩ | exact ⟨⟨_, rfl, fun u0 u1 f f0 f1 hf => absurd u0 (by have := i_lt c14; omega)⟩, rfl⟩ | exact ⟨⟨_, rfl, fun u0 u1 f f0 f1 hf => absurd u1 (by have := i_le c20; omega)⟩, rfl⟩ | fail "no road")
    · refine lv_iload_n hx hb dX8_hubPeak_17 rfl (lv_at hl 3 rfl) ?_
      refine lv_bipush (v := 16) hx hb dX8_hubPeak_18 (by decide) ?_
      refine lv_icmp_ge (tgt := 82) hx hb dX8_hubPeak_20 (by decide) (fun c20 => ?_) (fun c20 => ?_)
      · refine lv_iload hx hb dX8_hubPeak_82 (lv_at hl 1 rfl) ?_
        exact cl_iret F hB hrt dX8_hubPeak_84 (by first | exact ⟨⟨_, rfl, fun u0 u1 f f0 f1 hf => hp5 u0 u1 f f0 (by have := i_le c10; omega) hf⟩, rfl⟩ | exact ⟨⟨_, rfl, fun u0 u1 f f0 f1 hf => absurd u0 (by have := i_lt c14; omega)⟩, rfl⟩ | exact ⟨⟨_, rfl, fun u0 u1 f f0 f1 hf => absurd u1 (by have := i_le c20; omega)⟩, rfl⟩ | fail "no road")
      · refine lv_iload hx hb dX8_hubPeak_23 (lv_at hl 0 rfl) ?_
        refine lv_iload_n hx hb dX8_hubPeak_25 rfl (lv_at hl 5 rfl) ?_
        refine lv_iconst (v := 1) hx hb dX8_hubPeak_26 (by decide) ?_
        refine lv_isub hx hb dX8_hubPeak_27 ?_
        refine lv_iand hx hb dX8_hubPeak_28 ?_
        refine lv_iload_n hx hb dX8_hubPeak_29 rfl (lv_at hl 4 rfl) ?_
        refine lv_icmp_ne (tgt := 37) hx hb dX8_hubPeak_30 (by decide) (fun c30 => ?_) (fun c30 => ?_)
        · refine lv_iconst (v := 0) hx hb dX8_hubPeak_37 (by decide) ?_
          refine lv_istore (lv' := [(7, .int _), (6, .int _), (5, .int _), (4, .int _), (3, .int _), (2, .int _), (1, .int _), (0, .ref _)]) hx hb dX8_hubPeak_38 hl (by decide) rfl (fun ls hl => ?_)
          refine lv_aload_n hx hb dX8_hubPeak_40 rfl (lv_at hl 7 rfl) ?_
          have hn : i6.toInt < 8 := by have := i_nle c10; omega
          have u0 := i_nlt c14
          have u1 := i_nle c20
          have hix := ix_t (h := ub) (f := i6) (by omega) (by omega) (by omega) hn
          refine gr_X8_15 F hB dX8_hubPeak_41 LU.1 LU.2.2 ?_
          refine lv_iload_n hx hb dX8_hubPeak_44 rfl (lv_at hl 4 rfl) ?_
          refine lv_bipush (v := 8) hx hb dX8_hubPeak_45 (by decide) ?_
          refine lv_imul hx hb dX8_hubPeak_47 ?_
          refine lv_iload hx hb dX8_hubPeak_48 (lv_at hl 1 rfl) ?_
          refine lv_iadd hx hb dX8_hubPeak_50 ?_
          refine sg_iald hx hb F.2.1 hB.1 dX8_hubPeak_51 LA.2.2.1 (by rw [hix]; omega) (by rw [LA.2.2.2, hix]; omega) (by rw [LA.2.2.2]; decide) ?_
          refine lv_istore (lv' := [(8, .int _), (7, .int _), (6, .int _), (5, .int _), (4, .int _), (3, .int _), (2, .int _), (1, .int _), (0, .ref _)]) hx hb dX8_hubPeak_52 hl (by decide) rfl (fun ls hl => ?_)
          refine lv_iload hx hb dX8_hubPeak_54 (lv_at hl 3 rfl) ?_
          refine lv_iload hx hb dX8_hubPeak_56 (lv_at hl 1 rfl) ?_
          refine lv_if_eq (tgt := 69) hx hb dX8_hubPeak_58 (by decide) (fun c58 => ?_) (fun c58 => (by first | exact absurd c58 (by decide) | exact (c58 (by decide)).elim))
          refine lv_iload hx hb dX8_hubPeak_69 (lv_at hl 0 rfl) ?_
          refine va_mmax hx hb (F.1.2.2.1.trans hl.1.symm) hown (F.1.2.2.2.2 _ (List.mem_cons_of_mem _ (vm_3 _ (List.mem_of_getElem? (i := 7) rfl)))) (F.1.2.2.2.2 _ (List.mem_cons_of_mem _ (vm_3 _ (List.mem_of_getElem? (i := 8) rfl)))) (F.1.2.2.2.2 _ (List.mem_cons_of_mem _ (vm_0 _ (List.mem_of_getElem? (i := 14) rfl)))) (F.1.2.2.2.2 _ (List.mem_cons_of_mem _ (vm_3 _ (List.mem_of_getElem? (i := 9) rfl)))) (Nat.le_of_ble_eq_true rfl) (Nat.le_of_ble_eq_true rfl) (Nat.le_of_ble_eq_true rfl) (Nat.le_of_ble_eq_true rfl) dX8_hubPeak_71 ?_
          refine lv_istore (lv' := [(5, .int _), (8, .int _), (7, .int _), (6, .int _), (4, .int _), (3, .int _), (2, .int _), (1, .int _), (0, .ref _)]) hx hb dX8_hubPeak_74 hl (by decide) rfl (fun ls hl => ?_)
          refine lv_iinc (lv' := [(6, .int _), (5, .int _), (8, .int _), (7, .int _), (4, .int _), (3, .int _), (2, .int _), (1, .int _), (0, .ref _)]) hx hb dX8_hubPeak_76 hl (k := 3) rfl rfl (by decide) rfl (fun ls hl => ?_)
          refine lv_goto (tgt := 6) hx hb dX8_hubPeak_79 (by decide) ?_
          have q9 := cl_add1 (x := i6) (by omega) (by omega)
          have hh6 := hH i6 hi6.1 hn u0 (by omega)
          first | (have cc : i6 &&& (iv - 1) = ph := c30; exact ih6 _ (by subst hd6; rw [q9]; omega) _ _ _ _ _ hB (lv_sub hl [0, 1, 4, 5, 6, 7, 8] rfl) ⟨by rw [q9]; omega, by rw [q9]; omega⟩ ((fun u8 u9 => by rw [q9]; exact pk_st (P := fun f => f &&& (iv - 1) = ph) (F := fun f => (sgI σ (yk Y) (ub.toInt * 8 + f.toInt).toNat).toInt + mo.toInt) (x := sgI σ (yk Y) (ub * 8 + i6).toInt.toNat + mo) (hp5 u8 u9) (fun _ => by rw [hix, i_add (by omega) (by omega)]; exact Int.le_refl _))) rfl) | (have cc : ¬ i6 &&& (iv - 1) = ph := c30; exact ih6 _ (by subst hd6; rw [q9]; omega) _ _ _ _ _ hB (lv_sub hl [0, 1, 4, 5, 6, 7, 8] rfl) ⟨by rw [q9]; omega, by rw [q9]; omega⟩ ((fun u8 u9 => by rw [q9]; exact pk_st (P := fun f => f &&& (iv - 1) = ph) (F := fun f => (sgI σ (yk Y) (ub.toInt * 8 + f.toInt).toNat).toInt + mo.toInt) (x := sgI σ (yk Y) (ub * 8 + i6).toInt.toNat) (hp5 u8 u9) (fun z => absurd z cc))) rfl) | fail "no road"
        · refine lv_iconst (v := 1) hx hb dX8_hubPeak_33 (by decide) ?_
          refine lv_goto (tgt := 38) hx hb dX8_hubPeak_34 (by decide) ?_
          refine lv_istore (lv' := [(7, .int _), (6, .int _), (5, .int _), (4, .int _), (3, .int _), (2, .int _), (1, .int _), (0, .ref _)]) hx hb dX8_hubPeak_38 hl (by decide) rfl (fun ls hl => ?_)
          refine lv_aload_n hx hb dX8_hubPeak_40 rfl (lv_at hl 7 rfl) ?_
          have hn : i6.toInt < 8 := by have := i_nle c10; omega
          have u0 := i_nlt c14
          have u1 := i_nle c20
          have hix := ix_t (h := ub) (f := i6) (by omega) (by omega) (by omega) hn
          refine gr_X8_15 F hB dX8_hubPeak_41 LU.1 LU.2.2 ?_
          refine lv_iload_n hx hb dX8_hubPeak_44 rfl (lv_at hl 4 rfl) ?_
          refine lv_bipush (v := 8) hx hb dX8_hubPeak_45 (by decide) ?_
          refine lv_imul hx hb dX8_hubPeak_47 ?_
          refine lv_iload hx hb dX8_hubPeak_48 (lv_at hl 1 rfl) ?_
          refine lv_iadd hx hb dX8_hubPeak_50 ?_
          refine sg_iald hx hb F.2.1 hB.1 dX8_hubPeak_51 LA.2.2.1 (by rw [hix]; omega) (by rw [LA.2.2.2, hix]; omega) (by rw [LA.2.2.2]; decide) ?_
          refine lv_istore (lv' := [(8, .int _), (7, .int _), (6, .int _), (5, .int _), (4, .int _), (3, .int _), (2, .int _), (1, .int _), (0, .ref _)]) hx hb dX8_hubPeak_52 hl (by decide) rfl (fun ls hl => ?_)
          refine lv_iload hx hb dX8_hubPeak_54 (lv_at hl 3 rfl) ?_
          refine lv_iload hx hb dX8_hubPeak_56 (lv_at hl 1 rfl) ?_
          refine lv_if_eq (tgt := 69) hx hb dX8_hubPeak_58 (by decide) (fun c58 => (by first | exact absurd c58 (by decide) | exact (c58 (by decide)).elim)) (fun c58 => ?_)
          refine lv_iload hx hb dX8_hubPeak_61 (lv_at hl 0 rfl) ?_
          refine lv_iload hx hb dX8_hubPeak_63 (lv_at hl 4 rfl) ?_
          refine lv_iadd hx hb dX8_hubPeak_65 ?_
          refine lv_goto (tgt := 71) hx hb dX8_hubPeak_66 (by decide) ?_
          refine va_mmax hx hb (F.1.2.2.1.trans hl.1.symm) hown (F.1.2.2.2.2 _ (List.mem_cons_of_mem _ (vm_3 _ (List.mem_of_getElem? (i := 7) rfl)))) (F.1.2.2.2.2 _ (List.mem_cons_of_mem _ (vm_3 _ (List.mem_of_getElem? (i := 8) rfl)))) (F.1.2.2.2.2 _ (List.mem_cons_of_mem _ (vm_0 _ (List.mem_of_getElem? (i := 14) rfl)))) (F.1.2.2.2.2 _ (List.mem_cons_of_mem _ (vm_3 _ (List.mem_of_getElem? (i := 9) rfl)))) (Nat.le_of_ble_eq_true rfl) (Nat.le_of_ble_eq_true rfl) (Nat.le_of_ble_eq_true rfl) (Nat.le_of_ble_eq_true rfl) dX8_hubPeak_71 ?_
          refine lv_istore (lv' := [(5, .int _), (8, .int _), (7, .int _), (6, .int _), (4, .int _), (3, .int _), (2, .int _), (1, .int _), (0, .ref _)]) hx hb dX8_hubPeak_74 hl (by decide) rfl (fun ls hl => ?_)
          refine lv_iinc (lv' := [(6, .int _), (5, .int _), (8, .int _), (7, .int _), (4, .int _), (3, .int _), (2, .int _), (1, .int _), (0, .ref _)]) hx hb dX8_hubPeak_76 hl (k := 3) rfl rfl (by decide) rfl (fun ls hl => ?_)
          refine lv_goto (tgt := 6) hx hb dX8_hubPeak_79 (by decide) ?_
          have q9 := cl_add1 (x := i6) (by omega) (by omega)
          have hh6 := hH i6 hi6.1 hn u0 (by omega)
          first | (have cc : i6 &&& (iv - 1) = ph := c30; exact ih6 _ (by subst hd6; rw [q9]; omega) _ _ _ _ _ hB (lv_sub hl [0, 1, 4, 5, 6, 7, 8] rfl) ⟨by rw [q9]; omega, by rw [q9]; omega⟩ ((fun u8 u9 => by rw [q9]; exact pk_st (P := fun f => f &&& (iv - 1) = ph) (F := fun f => (sgI σ (yk Y) (ub.toInt * 8 + f.toInt).toNat).toInt + mo.toInt) (x := sgI σ (yk Y) (ub * 8 + i6).toInt.toNat + mo) (hp5 u8 u9) (fun _ => by rw [hix, i_add (by omega) (by omega)]; exact Int.le_refl _))) rfl) | (have cc : ¬ i6 &&& (iv - 1) = ph := c30; exact ih6 _ (by subst hd6; rw [q9]; omega) _ _ _ _ _ hB (lv_sub hl [0, 1, 4, 5, 6, 7, 8] rfl) ⟨by rw [q9]; omega, by rw [q9]; omega⟩ ((fun u8 u9 => by rw [q9]; exact pk_st (P := fun f => f &&& (iv - 1) = ph) (F := fun f => (sgI σ (yk Y) (ub.toInt * 8 + f.toInt).toNat).toInt + mo.toInt) (x := sgI σ (yk Y) (ub * 8 + i6).toInt.toNat) (hp5 u8 u9) (fun z => absurd z cc))) rfl) | fail "no road"

theorem dX8_bestPhase_0 : decode cX8_bestPhase 0 = .ok (.iconst (-1), 1) := by decide +kernel
theorem dX8_bestPhase_1 : decode cX8_bestPhase 1 = .ok (.istore 5, 2) := by decide +kernel
theorem dX8_bestPhase_3 : decode cX8_bestPhase 3 = .ok (.bipush 81, 2) := by decide +kernel
theorem dX8_bestPhase_5 : decode cX8_bestPhase 5 = .ok (.istore 6, 2) := by decide +kernel
theorem dX8_bestPhase_7 : decode cX8_bestPhase 7 = .ok (.iconst 0, 1) := by decide +kernel
theorem dX8_bestPhase_8 : decode cX8_bestPhase 8 = .ok (.istore 7, 2) := by decide +kernel
theorem dX8_bestPhase_10 : decode cX8_bestPhase 10 = .ok (.iload 7, 2) := by decide +kernel
theorem dX8_bestPhase_12 : decode cX8_bestPhase 12 = .ok (.iload_n 1, 1) := by decide +kernel
theorem dX8_bestPhase_13 : decode cX8_bestPhase 13 = .ok (.if_icmp .ge 49, 3) := by decide +kernel
theorem dX8_bestPhase_16 : decode cX8_bestPhase 16 = .ok (.aload_n 0, 1) := by decide +kernel
theorem dX8_bestPhase_17 : decode cX8_bestPhase 17 = .ok (.iload_n 1, 1) := by decide +kernel
theorem dX8_bestPhase_18 : decode cX8_bestPhase 18 = .ok (.iload 7, 2) := by decide +kernel
theorem dX8_bestPhase_20 : decode cX8_bestPhase 20 = .ok (.iload_n 2, 1) := by decide +kernel
theorem dX8_bestPhase_21 : decode cX8_bestPhase 21 = .ok (.invokevirtual 28, 3) := by decide +kernel
theorem dX8_bestPhase_24 : decode cX8_bestPhase 24 = .ok (.istore 8, 2) := by decide +kernel
theorem dX8_bestPhase_26 : decode cX8_bestPhase 26 = .ok (.iload 8, 2) := by decide +kernel
theorem dX8_bestPhase_28 : decode cX8_bestPhase 28 = .ok (.iload 6, 2) := by decide +kernel
theorem dX8_bestPhase_30 : decode cX8_bestPhase 30 = .ok (.if_icmp .ge 26, 3) := by decide +kernel
theorem dX8_bestPhase_33 : decode cX8_bestPhase 33 = .ok (.aload_n 0, 1) := by decide +kernel
theorem dX8_bestPhase_34 : decode cX8_bestPhase 34 = .ok (.iload_n 1, 1) := by decide +kernel
theorem dX8_bestPhase_35 : decode cX8_bestPhase 35 = .ok (.iload 7, 2) := by decide +kernel
theorem dX8_bestPhase_37 : decode cX8_bestPhase 37 = .ok (.iload_n 3, 1) := by decide +kernel
theorem dX8_bestPhase_38 : decode cX8_bestPhase 38 = .ok (.iload 4, 2) := by decide +kernel
theorem dX8_bestPhase_40 : decode cX8_bestPhase 40 = .ok (.invokevirtual 32, 3) := by decide +kernel
theorem dX8_bestPhase_43 : decode cX8_bestPhase 43 = .ok (.bipush 48, 2) := by decide +kernel
theorem dX8_bestPhase_45 : decode cX8_bestPhase 45 = .ok (.if_icmp .gt 11, 3) := by decide +kernel
theorem dX8_bestPhase_48 : decode cX8_bestPhase 48 = .ok (.iload 7, 2) := by decide +kernel
theorem dX8_bestPhase_50 : decode cX8_bestPhase 50 = .ok (.istore 5, 2) := by decide +kernel
theorem dX8_bestPhase_52 : decode cX8_bestPhase 52 = .ok (.iload 8, 2) := by decide +kernel
theorem dX8_bestPhase_54 : decode cX8_bestPhase 54 = .ok (.istore 6, 2) := by decide +kernel
theorem dX8_bestPhase_56 : decode cX8_bestPhase 56 = .ok (.iinc 7 1, 3) := by decide +kernel
theorem dX8_bestPhase_59 : decode cX8_bestPhase 59 = .ok (.goto (-49), 3) := by decide +kernel
theorem dX8_bestPhase_62 : decode cX8_bestPhase 62 = .ok (.iload 5, 2) := by decide +kernel
theorem dX8_bestPhase_64 : decode cX8_bestPhase 64 = .ok (.ireturn, 1) := by decide +kernel
set_option maxRecDepth 100000 in
set_option maxHeartbeats 4000000 in
theorem k_best (l : Launch) (D : va_G) (cy : Nat → ClassId) {ad τ : List Nat} {Y : CY} {σ : SG} (hV : VL cy ad τ Y σ) (hC : sC Y σ) (iv ho ub mo : Int32) (hho : 0 ≤ ho.toInt ∧ ho.toInt ≤ 16) (hmo : 0 ≤ mo.toInt ∧ mo.toInt ≤ 100) (sz : Nat) : clM l D cy ad τ Y σ sz yX8_bestPhase (Cond.code yX8_bestPhase cX8_bestPhase 9 (some .int) :: vWall) 2 41 [.ref (yu Y), .int iv, .int ho, .int ub, .int mo] (fun v s2 => (∃ z : Int32, v = some (.int z) ∧ (0 ≤ z.toInt → (∀ f : Int32, 0 ≤ f.toInt → f.toInt < 8 → f &&& (iv - 1) = z → (sgI σ (yh Y) f.toInt.toNat).toInt + ho.toInt ≤ 80) ∧ (0 ≤ ub.toInt → ub.toInt < 16 → ∀ f : Int32, 0 ≤ f.toInt → f.toInt < 8 → f &&& (iv - 1) = z → (sgI σ (yk Y) (ub.toInt * 8 + f.toInt).toNat).toInt + mo.toInt ≤ 48))) ∧ σ = s2) := by
  refine cl_ofW (cc := cX8_bestPhase) (maxL := 9) (ret := (some .int)) hV (by decide) rfl (Nat.le_of_ble_eq_true rfl) (lv := [(0, .ref (yu Y)), (1, .int iv), (2, .int ho), (3, .int ub), (4, .int mo)]) rfl (fun p e s m below meth c ls H hrt hnm F hB hl => ?_) sz
  have hx := F.1.1
  have hb := F.1.2.1
  have hown := F.1.2.2.2.1
  generalize hlo : ([] : List Loc) = locs at hB ⊢
  clear hlo
  obtain ⟨LX, LD, Ld, LE, Le, LP9, Lp, Lt, LU, LA, Lz⟩ := hV.2
  have e0 : (0 : Int32).toInt = 0 := rfl
  have e1 : (1 : Int32).toInt = 1 := rfl
  have e16 : (16 : Int32).toInt = 16 := rfl
  have e12 : (12 : Int32).toInt = 12 := rfl
  have e4 : (4 : Int32).toInt = 4 := rfl
  have e8 : (8 : Int32).toInt = 8 := rfl
  have e81 : (81 : Int32).toInt = 81 := rfl
  have e48 : (48 : Int32).toInt = 48 := rfl
  have em1 : (-1 : Int32).toInt = -1 := rfl
  refine lv_iconst (v := (-1)) hx hb dX8_bestPhase_0 (by decide) ?_
  refine lv_istore (lv' := [(5, .int _), (0, .ref _), (1, .int _), (2, .int _), (3, .int _), (4, .int _)]) hx hb dX8_bestPhase_1 hl (by decide) rfl (fun ls hl => ?_)
  refine lv_bipush (v := 81) hx hb dX8_bestPhase_3 (by decide) ?_
  refine lv_istore (lv' := [(6, .int _), (5, .int _), (0, .ref _), (1, .int _), (2, .int _), (3, .int _), (4, .int _)]) hx hb dX8_bestPhase_5 hl (by decide) rfl (fun ls hl => ?_)
  refine lv_iconst (v := 0) hx hb dX8_bestPhase_7 (by decide) ?_
  refine lv_istore (lv' := [(7, .int _), (6, .int _), (5, .int _), (0, .ref _), (1, .int _), (2, .int _), (3, .int _), (4, .int _)]) hx hb dX8_bestPhase_8 hl (by decide) rfl (fun ls hl => ?_)
  have key10 : ∃ i7 l6 b5 : Int32, clB D cy ad τ Y s σ H locs ∧ lv_has ls 9 [(7, .int i7), (6, .int l6), (5, .int b5), (4, .int mo), (3, .int ub), (2, .int ho), (1, .int iv), (0, .ref (yu Y))] ∧ 0 ≤ i7.toInt ∧ l6.toInt ≤ 81 ∧ (0 ≤ b5.toInt → (∀ f : Int32, 0 ≤ f.toInt → f.toInt < 8 → f &&& (iv - 1) = b5 → (sgI σ (yh Y) f.toInt.toNat).toInt + ho.toInt ≤ 80) ∧ (0 ≤ ub.toInt → ub.toInt < 16 → ∀ f : Int32, 0 ≤ f.toInt → f.toInt < 8 → f &&& (iv - 1) = b5 → (sgI σ (yk Y) (ub.toInt * 8 + f.toInt).toNat).toInt + mo.toInt ≤ 48)) := ⟨_, _, _, hB, (lv_sub hl [0, 1, 2, 7, 6, 5, 4, 3] rfl), by decide, by decide, fun z => absurd z (by rw [em1]; decide)⟩
  clear hB hl
  obtain ⟨i7, l6, b5, hB, hl, hi7, hl6, hb5⟩ := key10
  obtain ⟨d10, hd10⟩ : ∃ d : Nat, d = (iv.toInt - i7.toInt).toNat := ⟨_, rfl⟩
  induction d10 using Nat.strongRecOn generalizing H locs ls i7 l6 b5
  rename_i d10 ih10
  refine lv_iload hx hb dX8_bestPhase_10 (lv_at hl 0 rfl) ?_
  refine lv_iload_n hx hb dX8_bestPhase_12 rfl (lv_at hl 6 rfl) ?_
  refine lv_icmp_ge (tgt := 62) hx hb dX8_bestPhase_13 (by decide) (fun c13 => ?_) (fun c13 => ?_)
  · refine lv_iload hx hb dX8_bestPhase_62 (lv_at hl 2 rfl) ?_
    exact cl_iret F hB hrt dX8_bestPhase_64 (⟨⟨_, rfl, hb5⟩, rfl⟩)
  · refine lv_aload_n hx hb dX8_bestPhase_16 rfl (lv_at hl 7 rfl) ?_
    refine lv_iload_n hx hb dX8_bestPhase_17 rfl (lv_at hl 6 rfl) ?_
    refine lv_iload hx hb dX8_bestPhase_18 (lv_at hl 0 rfl) ?_
    refine lv_iload_n hx hb dX8_bestPhase_20 rfl (lv_at hl 5 rfl) ?_
    refine cl_callV (ci := 13) F hB (k_hpk l D cy hB.2 _ _ _ (fun f f0 f1 => sC_rg hV hC f0 f1) hho _) (cwV 3 F.1.2.2.2.2 (vgV (vm_3 _ (List.mem_of_getElem? (i := 12) rfl)) (vm_3 _ (List.mem_of_getElem? (i := 13) rfl)) (vm_3 _ (List.mem_of_getElem? (i := 14) rfl)) (vm_3 _ (List.mem_of_getElem? (i := 15) rfl)) (vm_3 _ (List.mem_of_getElem? (i := 6) rfl))) rfl rfl rfl ⟨rfl, by decide, by decide, by decide +kernel⟩ ⟨Nat.le_of_ble_eq_true rfl, Nat.le_of_ble_eq_true rfl⟩) rfl rfl (by decide) rfl hl.1 rfl (Nat.le_of_ble_eq_true rfl) dX8_bestPhase_21 ⟨Nat.le_of_ble_eq_true rfl, Nat.le_of_ble_eq_true rfl⟩ LU.1 (fun H locs v σ21 hB hP => ?_)
    obtain ⟨⟨z21, rfl, h21⟩, rfl⟩ := hP
    refine lv_istore (lv' := [(8, .int _), (7, .int _), (6, .int _), (5, .int _), (4, .int _), (3, .int _), (2, .int _), (1, .int _), (0, .ref _)]) hx hb dX8_bestPhase_24 hl (by decide) rfl (fun ls hl => ?_)
    refine lv_iload hx hb dX8_bestPhase_26 (lv_at hl 0 rfl) ?_
    refine lv_iload hx hb dX8_bestPhase_28 (lv_at hl 2 rfl) ?_
    refine lv_icmp_ge (tgt := 56) hx hb dX8_bestPhase_30 (by decide) (fun c30 => ?_) (fun c30 => ?_)
    · refine lv_iinc (lv' := [(7, .int _), (8, .int _), (6, .int _), (5, .int _), (4, .int _), (3, .int _), (2, .int _), (1, .int _), (0, .ref _)]) hx hb dX8_bestPhase_56 hl (k := 1) rfl rfl (by decide) rfl (fun ls hl => ?_)
      refine lv_goto (tgt := 10) hx hb dX8_bestPhase_59 (by decide) ?_
      have h13 := i_nle c13
      have hiv := Int32.toInt_lt iv
      have q9 := cl_add1 (x := i7) (by omega) (by omega)
      first | exact ih10 _ (by subst hd10; rw [q9]; omega) _ _ _ _ _ _ hB (lv_sub hl [0, 2, 3, 4, 5, 6, 7, 8] rfl) (by rw [q9]; omega) (by have := i_nle c30; omega) (fun _ => ⟨fun f f0 f1 hf => by have := h21 f f0 f1 hf; have := i_nle c30; omega, fun u0 u1 f f0 f1 hf => by have := h40 u0 u1 f f0 f1 hf; have := i_nlt c45; omega⟩) rfl | exact ih10 _ (by subst hd10; rw [q9]; omega) _ _ _ _ _ _ hB (lv_sub hl [0, 2, 3, 4, 5, 6, 7, 8] rfl) (by rw [q9]; omega) (hl6) (hb5) rfl | fail "no road"
    · refine lv_aload_n hx hb dX8_bestPhase_33 rfl (lv_at hl 8 rfl) ?_
      refine lv_iload_n hx hb dX8_bestPhase_34 rfl (lv_at hl 7 rfl) ?_
      refine lv_iload hx hb dX8_bestPhase_35 (lv_at hl 1 rfl) ?_
      refine lv_iload_n hx hb dX8_bestPhase_37 rfl (lv_at hl 5 rfl) ?_
      refine lv_iload hx hb dX8_bestPhase_38 (lv_at hl 4 rfl) ?_
      refine cl_callV (ci := 13) F hB (k_upk l D cy hB.2 _ _ _ _ (fun f f0 f1 u0 u1 => sC_ru hV hC f0 f1 u0 u1) hmo _) (cwV 4 F.1.2.2.2.2 (vgV (vm_3 _ (List.mem_of_getElem? (i := 16) rfl)) (vm_3 _ (List.mem_of_getElem? (i := 17) rfl)) (vm_3 _ (List.mem_of_getElem? (i := 18) rfl)) (vm_3 _ (List.mem_of_getElem? (i := 15) rfl)) (vm_3 _ (List.mem_of_getElem? (i := 10) rfl))) rfl rfl rfl ⟨rfl, by decide, by decide, by decide +kernel⟩ ⟨Nat.le_of_ble_eq_true rfl, Nat.le_of_ble_eq_true rfl⟩) rfl rfl (by decide) rfl hl.1 rfl (Nat.le_of_ble_eq_true rfl) dX8_bestPhase_40 ⟨Nat.le_of_ble_eq_true rfl, Nat.le_of_ble_eq_true rfl⟩ LU.1 (fun H locs v σ40 hB hP => ?_)
      obtain ⟨⟨z40, rfl, h40⟩, rfl⟩ := hP
      refine lv_bipush (v := 48) hx hb dX8_bestPhase_43 (by decide) ?_
      refine lv_icmp_gt (tgt := 56) hx hb dX8_bestPhase_45 (by decide) (fun c45 => ?_) (fun c45 => ?_)
      · refine lv_iinc (lv' := [(7, .int _), (8, .int _), (6, .int _), (5, .int _), (4, .int _), (3, .int _), (2, .int _), (1, .int _), (0, .ref _)]) hx hb dX8_bestPhase_56 hl (k := 1) rfl rfl (by decide) rfl (fun ls hl => ?_)
        refine lv_goto (tgt := 10) hx hb dX8_bestPhase_59 (by decide) ?_
        have h13 := i_nle c13
        have hiv := Int32.toInt_lt iv
        have q9 := cl_add1 (x := i7) (by omega) (by omega)
        first | exact ih10 _ (by subst hd10; rw [q9]; omega) _ _ _ _ _ _ hB (lv_sub hl [0, 2, 3, 4, 5, 6, 7, 8] rfl) (by rw [q9]; omega) (by have := i_nle c30; omega) (fun _ => ⟨fun f f0 f1 hf => by have := h21 f f0 f1 hf; have := i_nle c30; omega, fun u0 u1 f f0 f1 hf => by have := h40 u0 u1 f f0 f1 hf; have := i_nlt c45; omega⟩) rfl | exact ih10 _ (by subst hd10; rw [q9]; omega) _ _ _ _ _ _ hB (lv_sub hl [0, 2, 3, 4, 5, 6, 7, 8] rfl) (by rw [q9]; omega) (hl6) (hb5) rfl | fail "no road"
      · refine lv_iload hx hb dX8_bestPhase_48 (lv_at hl 1 rfl) ?_
        refine lv_istore (lv' := [(5, .int _), (8, .int _), (7, .int _), (6, .int _), (4, .int _), (3, .int _), (2, .int _), (1, .int _), (0, .ref _)]) hx hb dX8_bestPhase_50 hl (by decide) rfl (fun ls hl => ?_)
        refine lv_iload hx hb dX8_bestPhase_52 (lv_at hl 1 rfl) ?_
        refine lv_istore (lv' := [(6, .int _), (5, .int _), (8, .int _), (7, .int _), (4, .int _), (3, .int _), (2, .int _), (1, .int _), (0, .ref _)]) hx hb dX8_bestPhase_54 hl (by decide) rfl (fun ls hl => ?_)
        refine lv_iinc (lv' := [(7, .int _), (6, .int _), (5, .int _), (8, .int _), (4, .int _), (3, .int _), (2, .int _), (1, .int _), (0, .ref _)]) hx hb dX8_bestPhase_56 hl (k := 3) rfl rfl (by decide) rfl (fun ls hl => ?_)
        refine lv_goto (tgt := 10) hx hb dX8_bestPhase_59 (by decide) ?_
        have h13 := i_nle c13
        have hiv := Int32.toInt_lt iv
        have q9 := cl_add1 (x := i7) (by omega) (by omega)
        first | exact ih10 _ (by subst hd10; rw [q9]; omega) _ _ _ _ _ _ hB (lv_sub hl [0, 1, 2, 4, 5, 6, 7, 8] rfl) (by rw [q9]; omega) (by have := i_nle c30; omega) (fun _ => ⟨fun f f0 f1 hf => by have := h21 f f0 f1 hf; have := i_nle c30; omega, fun u0 u1 f f0 f1 hf => by have := h40 u0 u1 f f0 f1 hf; have := i_nlt c45; omega⟩) rfl | exact ih10 _ (by subst hd10; rw [q9]; omega) _ _ _ _ _ _ hB (lv_sub hl [0, 1, 2, 4, 5, 6, 7, 8] rfl) (by rw [q9]; omega) (hl6) (hb5) rfl | fail "no road"

theorem k_fcq (l : Launch) (D : va_G) (cy : Nat → ClassId) {ad τ : List Nat} {Y : CY} {σ : SG} (hV : VL cy ad τ Y σ) (sz : Nat) : clM l D cy ad τ Y σ sz yX9_firstClosedPipe (Cond.code yX9_firstClosedPipe cX9_firstClosedPipe 2 (some (.object "Hubcascade$Pipe")) :: vWall) 1 20 [.ref (yX Y)] (fun v s2 => (∃ r9 : Option Nat, v = some (va_rf r9) ∧ (r9 = none ∨ ∃ j, j < 12 ∧ r9 = some (yp Y j) ∧ sgR σ (yp Y j) 1 = none)) ∧ σ = s2) :=
  clM_post (k_fcp l D cy hV sz) (fun v s2 q => ⟨by
    rcases q.1 with rfl | ⟨j, hj, rfl, h1⟩
    · exact ⟨none, rfl, Or.inl rfl⟩
    · exact ⟨some _, rfl, Or.inr ⟨j, hj, rfl, h1⟩⟩, q.2⟩)

theorem dX9_open_0 : decode cX9_open 0 = .ok (.aload_n 0, 1) := by decide +kernel
theorem dX9_open_1 : decode cX9_open 1 = .ok (.iload_n 1, 1) := by decide +kernel
theorem dX9_open_2 : decode cX9_open 2 = .ok (.invokevirtual 124, 3) := by decide +kernel
theorem dX9_open_5 : decode cX9_open 5 = .ok (.astore 5, 2) := by decide +kernel
theorem dX9_open_7 : decode cX9_open 7 = .ok (.aload 5, 2) := by decide +kernel
theorem dX9_open_9 : decode cX9_open 9 = .ok (.iload_n 2, 1) := by decide +kernel
theorem dX9_open_10 : decode cX9_open 10 = .ok (.invokestatic 283, 3) := by decide +kernel
theorem dX9_open_13 : decode cX9_open 13 = .ok (.astore 6, 2) := by decide +kernel
theorem dX9_open_15 : decode cX9_open 15 = .ok (.iload_n 3, 1) := by decide +kernel
theorem dX9_open_16 : decode cX9_open 16 = .ok (.bipush 98, 2) := by decide +kernel
theorem dX9_open_18 : decode cX9_open 18 = .ok (.if_icmp .eq 29, 3) := by decide +kernel
theorem dX9_open_21 : decode cX9_open 21 = .ok (.iload_n 3, 1) := by decide +kernel
theorem dX9_open_22 : decode cX9_open 22 = .ok (.invokestatic 287, 3) := by decide +kernel
theorem dX9_open_25 : decode cX9_open 25 = .ok (.ifCond .eq 11, 3) := by decide +kernel
theorem dX9_open_28 : decode cX9_open 28 = .ok (.iload 4, 2) := by decide +kernel
theorem dX9_open_30 : decode cX9_open 30 = .ok (.invokestatic 290, 3) := by decide +kernel
theorem dX9_open_33 : decode cX9_open 33 = .ok (.ifCond .ne 14, 3) := by decide +kernel
theorem dX9_open_36 : decode cX9_open 36 = .ok (.new 92, 3) := by decide +kernel
theorem dX9_open_47 : decode cX9_open 47 = .ok (.aload 5, 2) := by decide +kernel
theorem dX9_open_49 : decode cX9_open 49 = .ok (.getfield 74, 3) := by decide +kernel
theorem dX9_open_52 : decode cX9_open 52 = .ok (.bipush 99, 2) := by decide +kernel
theorem dX9_open_54 : decode cX9_open 54 = .ok (.if_icmp .ne 11, 3) := by decide +kernel
theorem dX9_open_57 : decode cX9_open 57 = .ok (.aload 6, 2) := by decide +kernel
theorem dX9_open_59 : decode cX9_open 59 = .ok (.getfield 296, 3) := by decide +kernel
theorem dX9_open_62 : decode cX9_open 62 = .ok (.ifCond .eq 14, 3) := by decide +kernel
theorem dX9_open_65 : decode cX9_open 65 = .ok (.new 139, 3) := by decide +kernel
theorem dX9_open_76 : decode cX9_open 76 = .ok (.iconst (-1), 1) := by decide +kernel
theorem dX9_open_77 : decode cX9_open 77 = .ok (.istore 7, 2) := by decide +kernel
theorem dX9_open_79 : decode cX9_open 79 = .ok (.iload_n 3, 1) := by decide +kernel
theorem dX9_open_80 : decode cX9_open 80 = .ok (.bipush 98, 2) := by decide +kernel
theorem dX9_open_82 : decode cX9_open 82 = .ok (.if_icmp .eq 56, 3) := by decide +kernel
theorem dX9_open_85 : decode cX9_open 85 = .ok (.aload_n 0, 1) := by decide +kernel
theorem dX9_open_86 : decode cX9_open 86 = .ok (.getfield 45, 3) := by decide +kernel
theorem dX9_open_89 : decode cX9_open 89 = .ok (.iload 4, 2) := by decide +kernel
theorem dX9_open_91 : decode cX9_open 91 = .ok (.aload 6, 2) := by decide +kernel
theorem dX9_open_93 : decode cX9_open 93 = .ok (.getfield 147, 3) := by decide +kernel
theorem dX9_open_96 : decode cX9_open 96 = .ok (.invokestatic 301, 3) := by decide +kernel
theorem dX9_open_99 : decode cX9_open 99 = .ok (.aload 5, 2) := by decide +kernel
theorem dX9_open_101 : decode cX9_open 101 = .ok (.getfield 182, 3) := by decide +kernel
theorem dX9_open_104 : decode cX9_open 104 = .ok (.aload 5, 2) := by decide +kernel
theorem dX9_open_106 : decode cX9_open 106 = .ok (.getfield 109, 3) := by decide +kernel
theorem dX9_open_109 : decode cX9_open 109 = .ok (.aload 6, 2) := by decide +kernel
theorem dX9_open_111 : decode cX9_open 111 = .ok (.getfield 147, 3) := by decide +kernel
theorem dX9_open_114 : decode cX9_open 114 = .ok (.invokestatic 304, 3) := by decide +kernel
theorem dX9_open_117 : decode cX9_open 117 = .ok (.invokevirtual 308, 3) := by decide +kernel
theorem dX9_open_120 : decode cX9_open 120 = .ok (.istore 7, 2) := by decide +kernel
theorem dX9_open_122 : decode cX9_open 122 = .ok (.iload 7, 2) := by decide +kernel
theorem dX9_open_124 : decode cX9_open 124 = .ok (.ifCond .ge 14, 3) := by decide +kernel
theorem dX9_open_127 : decode cX9_open 127 = .ok (.new 139, 3) := by decide +kernel
theorem dX9_open_138 : decode cX9_open 138 = .ok (.aload_n 0, 1) := by decide +kernel
theorem dX9_open_139 : decode cX9_open 139 = .ok (.invokevirtual 313, 3) := by decide +kernel
theorem dX9_open_142 : decode cX9_open 142 = .ok (.astore 8, 2) := by decide +kernel
theorem dX9_open_144 : decode cX9_open 144 = .ok (.aload 8, 2) := by decide +kernel
theorem dX9_open_146 : decode cX9_open 146 = .ok (.ifnonnull 14, 3) := by decide +kernel
theorem dX9_open_149 : decode cX9_open 149 = .ok (.new 101, 3) := by decide +kernel
theorem dX9_open_160 : decode cX9_open 160 = .ok (.aload 8, 2) := by decide +kernel
theorem dX9_open_162 : decode cX9_open 162 = .ok (.aload 5, 2) := by decide +kernel
theorem dX9_open_164 : decode cX9_open 164 = .ok (.aload 6, 2) := by decide +kernel
theorem dX9_open_166 : decode cX9_open 166 = .ok (.iload_n 3, 1) := by decide +kernel
theorem dX9_open_167 : decode cX9_open 167 = .ok (.invokevirtual 319, 3) := by decide +kernel
theorem dX9_open_170 : decode cX9_open 170 = .ok (.aload 8, 2) := by decide +kernel
theorem dX9_open_172 : decode cX9_open 172 = .ok (.iload_n 3, 1) := by decide +kernel
theorem dX9_open_173 : decode cX9_open 173 = .ok (.bipush 98, 2) := by decide +kernel
theorem dX9_open_175 : decode cX9_open 175 = .ok (.if_icmp .ne 7, 3) := by decide +kernel
theorem dX9_open_178 : decode cX9_open 178 = .ok (.iconst 1, 1) := by decide +kernel
theorem dX9_open_179 : decode cX9_open 179 = .ok (.goto 5, 3) := by decide +kernel
theorem dX9_open_182 : decode cX9_open 182 = .ok (.iload 4, 2) := by decide +kernel
theorem dX9_open_184 : decode cX9_open 184 = .ok (.putfield 323, 3) := by decide +kernel
theorem dX9_open_187 : decode cX9_open 187 = .ok (.aload 8, 2) := by decide +kernel
theorem dX9_open_189 : decode cX9_open 189 = .ok (.iload 7, 2) := by decide +kernel
theorem dX9_open_191 : decode cX9_open 191 = .ok (.putfield 326, 3) := by decide +kernel
theorem dX9_open_194 : decode cX9_open 194 = .ok (.aload_n 0, 1) := by decide +kernel
theorem dX9_open_195 : decode cX9_open 195 = .ok (.aload 8, 2) := by decide +kernel
theorem dX9_open_197 : decode cX9_open 197 = .ok (.aload 5, 2) := by decide +kernel
theorem dX9_open_199 : decode cX9_open 199 = .ok (.aload 6, 2) := by decide +kernel
theorem dX9_open_201 : decode cX9_open 201 = .ok (.iconst 1, 1) := by decide +kernel
theorem dX9_open_202 : decode cX9_open 202 = .ok (.invokevirtual 329, 3) := by decide +kernel
theorem dX9_open_205 : decode cX9_open 205 = .ok (.aload 8, 2) := by decide +kernel
theorem dX9_open_207 : decode cX9_open 207 = .ok (.getfield 333, 3) := by decide +kernel
theorem dX9_open_210 : decode cX9_open 210 = .ok (.ireturn, 1) := by decide +kernel
set_option maxRecDepth 100000 in
set_option maxHeartbeats 4000000 in
theorem k_open (l : Launch) (D : va_G) (cy : Nat → ClassId) {ad τ : List Nat} {Y : CY} {σ : SG} (hst : l.stackTraces = false) (hs : vi_s1 vSG τ) (hV : VL cy ad τ Y σ) {B : Int} (hI : SI Y σ B) (x1 x2 x3 x4 : Int32) (hkd : sgF 1 x3) (sz : Nat) : clX l D cy ad τ Y σ sz yX9_open (Cond.code yX9_open cX9_open 9 (some .int) :: vWall) 7 111 3 [.ref (yX Y), .int x1, .int x2, .int x3, .int x4] (fun v s2 => (∃ x : Int32, v = some (.int x)) ∧ SI Y s2 B) ["java/lang/IllegalArgumentException", "java/lang/UnsupportedOperationException", "java/lang/IllegalStateException", "java/lang/IndexOutOfBoundsException"] := by
  refine cl_ofX (cc := cX9_open) (maxL := 9) (ret := (some .int)) hV (by decide) rfl (Nat.le_of_ble_eq_true rfl) (lv := [(0, .ref (yX Y)), (1, .int x1), (2, .int x2), (3, .int x3), (4, .int x4)]) rfl (fun p e s m below meth c ls H hrt F hT hout hB hl => ?_) sz
  have hx := F.1.1
  have hb := F.1.2.1
  have hown := F.1.2.2.2.1
  generalize hlo : ([] : List Loc) = locs at hB ⊢
  clear hlo
  obtain ⟨LX, LD, Ld, LE, Le, LP9, Lp, Lt, LU, LA, Lz⟩ := hV.2
  have e0 : (0 : Int32).toInt = 0 := rfl
  have e1 : (1 : Int32).toInt = 1 := rfl
  have e16 : (16 : Int32).toInt = 16 := rfl
  have e12 : (12 : Int32).toInt = 12 := rfl
  have e4 : (4 : Int32).toInt = 4 := rfl
  have e8 : (8 : Int32).toInt = 8 := rfl
  have bulk : ∀ f : Int32, ¬ f &&& (1 - 1) = -1 := fun f z => by
    have q := congrArg Int32.toInt z
    rw [show (1 : Int32) - 1 = 0 from rfl, Int32.and_zero] at q
    exact absurd q (by decide)
  refine lv_aload_n hx hb dX9_open_0 rfl (lv_at hl 0 rfl) ?_
  refine lv_iload_n hx hb dX9_open_1 rfl (lv_at hl 1 rfl) ?_
  refine cl_callXV (ci := 14) F hT hout hB vi_kept_rf (k_devAt l D cy hst hB.2 _ _) (cwV 1 F.1.2.2.2.2 (vgV (vm_4 _ (List.mem_of_getElem? (i := 29) rfl)) (vm_4 _ (List.mem_of_getElem? (i := 30) rfl)) (vm_4 _ (List.mem_of_getElem? (i := 31) rfl)) (vm_4 _ (List.mem_of_getElem? (i := 20) rfl)) (vm_4 _ (List.mem_of_getElem? (i := 23) rfl))) rfl rfl rfl ⟨rfl, by decide, by decide, by decide +kernel⟩ ⟨Nat.le_of_ble_eq_true rfl, Nat.le_of_ble_eq_true rfl⟩) rfl rfl (by decide) rfl hl.1 rfl (Nat.le_of_ble_eq_true rfl) dX9_open_2 ⟨Nat.le_of_ble_eq_true rfl, Nat.le_of_ble_eq_true rfl⟩ (by decide) (Nat.le_of_ble_eq_true rfl) LX.1 (fun H locs v σ2 hB hP => ?_)
  obtain ⟨⟨i2, hi2, ex2, hc2, rfl⟩, rfl⟩ := hP
  refine lv_astore (lv' := [(5, .ref _), (0, .ref _), (1, .int _), (2, .int _), (3, .int _), (4, .int _)]) hx hb dX9_open_5 hl (by decide) rfl (fun ls hl => ?_)
  refine lv_aload hx hb dX9_open_7 (lv_at hl 0 rfl) ?_
  refine lv_iload_n hx hb dX9_open_9 rfl (lv_at hl 3 rfl) ?_
  refine cl_callXS F hT hout hB vi_kept_rf (k_epAt l D cy hst hB.2 hi2 _ _) (cwS 2 F.1.2.2.2.2 (vgS (vm_8 _ (List.mem_of_getElem? (i := 1) rfl)) (vm_8 _ (List.mem_of_getElem? (i := 2) rfl)) (vm_4 _ (List.mem_of_getElem? (i := 20) rfl)) (vm_7 _ (List.mem_of_getElem? (i := 35) rfl))) rfl rfl rfl ⟨rfl, by decide, by decide, by decide +kernel⟩ ⟨Nat.le_of_ble_eq_true rfl, Nat.le_of_ble_eq_true rfl⟩) rfl hl.1 rfl (Nat.le_of_ble_eq_true rfl) dX9_open_10 ⟨Nat.le_of_ble_eq_true rfl, Nat.le_of_ble_eq_true rfl⟩ (by decide) (Nat.le_of_ble_eq_true rfl) (fun H locs v σ10 hB hP => ?_)
  obtain ⟨⟨k10, hk10, rfl, hm10⟩, rfl⟩ := hP
  refine lv_astore (lv' := [(6, .ref _), (5, .ref _), (0, .ref _), (1, .int _), (2, .int _), (3, .int _), (4, .int _)]) hx hb dX9_open_13 hl (by decide) rfl (fun ls hl => ?_)
  refine lv_iload_n hx hb dX9_open_15 rfl (lv_at hl 5 rfl) ?_
  refine lv_bipush (v := 98) hx hb dX9_open_16 (by decide) ?_
  refine lv_icmp_eq (tgt := 47) hx hb dX9_open_18 (by decide) (fun c18 => ?_) (fun c18 => ?_)
  · refine lv_aload hx hb dX9_open_47 (lv_at hl 1 rfl) ?_
    refine gf_X9_74 F hB dX9_open_49 (Ld _ hi2).1 ?_
    refine lv_bipush (v := 99) hx hb dX9_open_52 (by decide) ?_
    refine lv_icmp_ne (tgt := 65) hx hb dX9_open_54 (by decide) (fun c54 => ?_) (fun c54 => ?_)
    · exact cl_thr (NC := 3) (vi_throwSW (WS := _ :: vWall) (text := "no pipe can be opened for it") (ik := 139) (is := 299) (ic := 143) (X := "java/lang/UnsupportedOperationException") F.1.1 F.1.2.1 hst F.1.2.2.2.2 F.1.2.2.2.1 (by decide) (by decide) hT (by decide) (List.mem_cons_of_mem _ (vm_4 _ (List.mem_of_getElem? (i := 27) rfl))) (List.mem_cons_of_mem _ (vm_4 _ (List.mem_of_getElem? (i := 28) rfl))) (fun w h => List.mem_cons_of_mem _ (vmx_1 w h)) (by decide +kernel) (by decide +kernel) (by decide) F.1.2.2.1 (by decide +kernel) (by decide +kernel) (by decide +kernel) (by decide +kernel) (by decide +kernel) hout F.2.2.2 (Nat.le_of_ble_eq_true rfl) (Nat.le_of_ble_eq_true rfl) ⟨Nat.le_refl _, Nat.le_refl _⟩ (Nat.le_refl _) (fun _ h => h)) hB vi_kept_rf (Nat.le_of_ble_eq_true rfl) (by decide) hl.1
    · refine lv_aload hx hb dX9_open_57 (lv_at hl 0 rfl) ?_
      refine gf_X9_296 F hB dX9_open_59 (Le _ _ hi2 hk10).1 ?_
      refine lv_if_eq (tgt := 76) hx hb dX9_open_62 (by decide) (fun c62 => ?_) (fun c62 => ?_)
      · refine lv_iconst (v := (-1)) hx hb dX9_open_76 (by decide) ?_
        refine lv_istore (lv' := [(7, .int _), (6, .ref _), (5, .ref _), (0, .ref _), (1, .int _), (2, .int _), (3, .int _), (4, .int _)]) hx hb dX9_open_77 hl (by decide) rfl (fun ls hl => ?_)
        refine lv_iload_n hx hb dX9_open_79 rfl (lv_at hl 6 rfl) ?_
        refine lv_bipush (v := 98) hx hb dX9_open_80 (by decide) ?_
        refine lv_icmp_eq (tgt := 138) hx hb dX9_open_82 (by decide) (fun c82 => ?_) (fun c82 => ?_)
        · refine lv_aload_n hx hb dX9_open_138 rfl (lv_at hl 3 rfl) ?_
          refine cl_callV (ci := 14) F hB (k_fcq l D cy hB.2  _) (cwV 0 F.1.2.2.2.2 (vgV (vm_8 _ (List.mem_of_getElem? (i := 9) rfl)) (vm_8 _ (List.mem_of_getElem? (i := 10) rfl)) (vm_8 _ (List.mem_of_getElem? (i := 11) rfl)) (vm_4 _ (List.mem_of_getElem? (i := 20) rfl)) (vm_7 _ (List.mem_of_getElem? (i := 38) rfl))) rfl rfl rfl ⟨rfl, by decide, by decide, by decide +kernel⟩ ⟨Nat.le_of_ble_eq_true rfl, Nat.le_of_ble_eq_true rfl⟩) rfl rfl (by decide) rfl hl.1 rfl (Nat.le_of_ble_eq_true rfl) dX9_open_139 ⟨Nat.le_of_ble_eq_true rfl, Nat.le_of_ble_eq_true rfl⟩ LX.1 (fun H locs v σ139 hB hP => ?_)
          obtain ⟨⟨r9, rfl, hr9⟩, rfl⟩ := hP
          refine cl_astQ4 (lv' := [(8, va_rf _), (7, .int _), (6, .ref _), (5, .ref _), (0, .ref _), (1, .int _), (2, .int _), (3, .int _), (4, .int _)]) hx hb dX9_open_142 hl (by decide) rfl (fun ls hl => ?_)
          refine cl_aldQ4 hx hb dX9_open_144 (lv_at hl 0 rfl) ?_
          refine sg_split (fun hz146 => ?_) (fun b146 hz146 => ?_)
          · refine lv_ifnonnullN hx hb dX9_open_146 ?_
            exact cl_thr (NC := 3) (vi_throwSW (WS := _ :: vWall) (text := "12 pipes are open") (ik := 101) (is := 317) (ic := 105) (X := "java/lang/IllegalStateException") F.1.1 F.1.2.1 hst F.1.2.2.2.2 F.1.2.2.2.1 (by decide) (by decide) hT (by decide) (List.mem_cons_of_mem _ (vm_4 _ (List.mem_of_getElem? (i := 16) rfl))) (List.mem_cons_of_mem _ (vm_4 _ (List.mem_of_getElem? (i := 17) rfl))) (fun w h => List.mem_cons_of_mem _ (vmx_3 w h)) (by decide +kernel) (by decide +kernel) (by decide) F.1.2.2.1 (by decide +kernel) (by decide +kernel) (by decide +kernel) (by decide +kernel) (by decide +kernel) hout F.2.2.2 (Nat.le_of_ble_eq_true rfl) (Nat.le_of_ble_eq_true rfl) ⟨Nat.le_refl _, Nat.le_refl _⟩ (Nat.le_refl _) (fun _ h => h)) hB vi_kept_rf (Nat.le_of_ble_eq_true rfl) (by decide) hl.1
          · refine lv_ifnonnull (tgt := 160) hx hb dX9_open_146 (by decide) ?_
            subst hz146
            obtain ⟨j8, hj8, ej8, hp8⟩ := hr9.resolve_left (fun z => by cases z)
            cases ej8
            have tp := (Lp _ hj8).1
            refine lv_aload hx hb dX9_open_160 (lv_at hl 0 rfl) ?_
            refine lv_aload hx hb dX9_open_162 (lv_at hl 3 rfl) ?_
            refine lv_aload hx hb dX9_open_164 (lv_at hl 2 rfl) ?_
            refine lv_iload_n hx hb dX9_open_166 rfl (lv_at hl 7 rfl) ?_
            refine cl_callN (ci := 10) F hB (k_att l D cy hB.2 hj8 (Ld _ hi2).1 (Le _ _ hi2 hk10).1 _ hkd _) ⟨va_cnB 3 F.1.2.2.2.2 (vgN (vm_2 _ (List.mem_of_getElem? (i := 18) rfl))) rfl rfl rfl (F.2.2.1.1 _ nf_145) (F.1.2.2.2.2 _ (List.mem_cons_of_mem _ (vm_2 _ (List.mem_of_getElem? (i := 22) rfl)))) ⟨by decide, by decide, by decide +kernel⟩ ⟨Nat.le_of_ble_eq_true rfl, Nat.le_of_ble_eq_true rfl⟩, F.1.2.2.2.2 _ (List.mem_cons_of_mem _ (vm_8 _ (List.mem_of_getElem? (i := 12) rfl))), F.1.2.2.2.2 _ (List.mem_cons_of_mem _ (vm_8 _ (List.mem_of_getElem? (i := 13) rfl)))⟩ rfl rfl (by decide) rfl hl.1 rfl (Nat.le_of_ble_eq_true rfl) dX9_open_167 ⟨Nat.le_of_ble_eq_true rfl, Nat.le_of_ble_eq_true rfl⟩ tp (fun H locs v σ167 hB hP => ?_)
            obtain ⟨rfl, rfl⟩ := hP
            refine lv_aload hx hb dX9_open_170 (lv_at hl 0 rfl) ?_
            refine lv_iload_n hx hb dX9_open_172 rfl (lv_at hl 7 rfl) ?_
            refine lv_bipush (v := 98) hx hb dX9_open_173 (by decide) ?_
            refine lv_icmp_ne (tgt := 182) hx hb dX9_open_175 (by decide) (fun c175 => ?_) (fun c175 => ?_)
            · refine lv_iload hx hb dX9_open_182 (lv_at hl 8 rfl) ?_
              refine pf_X9_323 F hB dX9_open_184 tp (fun H locs hBn => ?_)
              clear hB; have hB := hBn; clear hBn
              refine lv_aload hx hb dX9_open_187 (lv_at hl 0 rfl) ?_
              refine lv_iload hx hb dX9_open_189 (lv_at hl 1 rfl) ?_
              refine pf_X9_326 F hB dX9_open_191 tp (fun H locs hBn => ?_)
              clear hB; have hB := hBn; clear hBn
              refine lv_aload_n hx hb dX9_open_194 rfl (lv_at hl 4 rfl) ?_
              refine lv_aload hx hb dX9_open_195 (lv_at hl 0 rfl) ?_
              refine lv_aload hx hb dX9_open_197 (lv_at hl 3 rfl) ?_
              refine lv_aload hx hb dX9_open_199 (lv_at hl 2 rfl) ?_
              refine lv_iconst (v := 1) hx hb dX9_open_201 (by decide) ?_
              refine cl_callV (ci := 14) F hB (k_resF l D cy hB.2 hj8 (Ld _ hi2).1 (Le _ _ hi2 hk10).1 _ _) (cwV 4 F.1.2.2.2.2 (vgV (vm_5 _ (List.mem_of_getElem? (i := 23) rfl)) (vm_5 _ (List.mem_of_getElem? (i := 24) rfl)) (vm_5 _ (List.mem_of_getElem? (i := 25) rfl)) (vm_4 _ (List.mem_of_getElem? (i := 20) rfl)) (vm_5 _ (List.mem_of_getElem? (i := 9) rfl))) rfl rfl rfl ⟨rfl, by decide, by decide, by decide +kernel⟩ ⟨Nat.le_of_ble_eq_true rfl, Nat.le_of_ble_eq_true rfl⟩) rfl rfl (by decide) rfl hl.1 rfl (Nat.le_of_ble_eq_true rfl) dX9_open_202 ⟨Nat.le_of_ble_eq_true rfl, Nat.le_of_ble_eq_true rfl⟩ hB.2.2.1.1 (fun H locs v σ202 hB hP => ?_)
              obtain ⟨rfl, z202, hz202, hN202⟩ := hP
              refine lv_aload hx hb dX9_open_205 (lv_at hl 0 rfl) ?_
              refine gf_X9_333 F hB dX9_open_207 (hB.2.2.2.2.2.2.2.2.1 _ hj8).1 ?_
              exact cl_iretX (Nat.le_of_ble_eq_true rfl) F hB hrt dX9_open_210 (by first | exact ⟨⟨_, rfl⟩, SI_open hV hI hj8 hi2 hk10 hp8 (by rw [c54]; decide) (fun f f0 f1 hf => by have q := (hg117 (by have q0 := i_le c124; rw [e0] at q0; exact q0)).1 f f0 f1 hf; rw [eho] at q; exact q) (fun f g f0 f1 g0 g1 hf hgg => by have q := (hg117 (by have q0 := i_le c124; rw [e0] at q0; exact q0)).2 (by rw [hgg]; exact g0) (by rw [hgg]; exact g1) f f0 f1 hf; rw [hgg, hz114] at q; exact q) rfl hz202 hN202⟩ | exact ⟨⟨_, rfl⟩, SI_open hV hI hj8 hi2 hk10 hp8 (by rw [c54]; decide) (fun f f0 f1 hf => absurd hf (bulk f)) (fun f g f0 f1 g0 g1 hf _ => absurd hf (bulk f)) rfl hz202 hN202⟩ | exact absurd c82 c175 | exact absurd c175 c82 | fail "no road")
            · refine lv_iconst (v := 1) hx hb dX9_open_178 (by decide) ?_
              refine lv_goto (tgt := 184) hx hb dX9_open_179 (by decide) ?_
              refine pf_X9_323 F hB dX9_open_184 tp (fun H locs hBn => ?_)
              clear hB; have hB := hBn; clear hBn
              refine lv_aload hx hb dX9_open_187 (lv_at hl 0 rfl) ?_
              refine lv_iload hx hb dX9_open_189 (lv_at hl 1 rfl) ?_
              refine pf_X9_326 F hB dX9_open_191 tp (fun H locs hBn => ?_)
              clear hB; have hB := hBn; clear hBn
              refine lv_aload_n hx hb dX9_open_194 rfl (lv_at hl 4 rfl) ?_
              refine lv_aload hx hb dX9_open_195 (lv_at hl 0 rfl) ?_
              refine lv_aload hx hb dX9_open_197 (lv_at hl 3 rfl) ?_
              refine lv_aload hx hb dX9_open_199 (lv_at hl 2 rfl) ?_
              refine lv_iconst (v := 1) hx hb dX9_open_201 (by decide) ?_
              refine cl_callV (ci := 14) F hB (k_resF l D cy hB.2 hj8 (Ld _ hi2).1 (Le _ _ hi2 hk10).1 _ _) (cwV 4 F.1.2.2.2.2 (vgV (vm_5 _ (List.mem_of_getElem? (i := 23) rfl)) (vm_5 _ (List.mem_of_getElem? (i := 24) rfl)) (vm_5 _ (List.mem_of_getElem? (i := 25) rfl)) (vm_4 _ (List.mem_of_getElem? (i := 20) rfl)) (vm_5 _ (List.mem_of_getElem? (i := 9) rfl))) rfl rfl rfl ⟨rfl, by decide, by decide, by decide +kernel⟩ ⟨Nat.le_of_ble_eq_true rfl, Nat.le_of_ble_eq_true rfl⟩) rfl rfl (by decide) rfl hl.1 rfl (Nat.le_of_ble_eq_true rfl) dX9_open_202 ⟨Nat.le_of_ble_eq_true rfl, Nat.le_of_ble_eq_true rfl⟩ hB.2.2.1.1 (fun H locs v σ202 hB hP => ?_)
              obtain ⟨rfl, z202, hz202, hN202⟩ := hP
              refine lv_aload hx hb dX9_open_205 (lv_at hl 0 rfl) ?_
              refine gf_X9_333 F hB dX9_open_207 (hB.2.2.2.2.2.2.2.2.1 _ hj8).1 ?_
              exact cl_iretX (Nat.le_of_ble_eq_true rfl) F hB hrt dX9_open_210 (by first | exact ⟨⟨_, rfl⟩, SI_open hV hI hj8 hi2 hk10 hp8 (by rw [c54]; decide) (fun f f0 f1 hf => by have q := (hg117 (by have q0 := i_le c124; rw [e0] at q0; exact q0)).1 f f0 f1 hf; rw [eho] at q; exact q) (fun f g f0 f1 g0 g1 hf hgg => by have q := (hg117 (by have q0 := i_le c124; rw [e0] at q0; exact q0)).2 (by rw [hgg]; exact g0) (by rw [hgg]; exact g1) f f0 f1 hf; rw [hgg, hz114] at q; exact q) rfl hz202 hN202⟩ | exact ⟨⟨_, rfl⟩, SI_open hV hI hj8 hi2 hk10 hp8 (by rw [c54]; decide) (fun f f0 f1 hf => absurd hf (bulk f)) (fun f g f0 f1 g0 g1 hf _ => absurd hf (bulk f)) rfl hz202 hN202⟩ | exact absurd c82 c175 | exact absurd c175 c82 | fail "no road")
        · refine lv_aload_n hx hb dX9_open_85 rfl (lv_at hl 3 rfl) ?_
          have hg := en_gr hV (Le _ _ hi2 hk10).1
          have eho : (2 + sgI σ (ye Y i2 k10) 3).toInt = 2 + (sgI σ (ye Y i2 k10) 3).toInt := hc_h hg.1 (by omega)
          have hu := hubC_rg (r := sgI σ (yd Y i2) 11) hg.1 hg.2
          refine gr_X9_45 F hB dX9_open_86 LX.1 LX.2.2.2.1 ?_
          refine lv_iload hx hb dX9_open_89 (lv_at hl 7 rfl) ?_
          refine lv_aload hx hb dX9_open_91 (lv_at hl 1 rfl) ?_
          refine gf_X9_147 F hB dX9_open_93 (Le _ _ hi2 hk10).1 ?_
          refine cl_callS F hB (k_hostCost l D cy hB.2 _ _) (cwS 1 F.1.2.2.2.2 (vgS (vm_5 _ (List.mem_of_getElem? (i := 10) rfl)) (vm_5 _ (List.mem_of_getElem? (i := 11) rfl)) (vm_4 _ (List.mem_of_getElem? (i := 20) rfl)) (vm_5 _ (List.mem_of_getElem? (i := 7) rfl))) rfl rfl rfl ⟨rfl, by decide, by decide, by decide +kernel⟩ ⟨Nat.le_of_ble_eq_true rfl, Nat.le_of_ble_eq_true rfl⟩) rfl hl.1 rfl (Nat.le_of_ble_eq_true rfl) dX9_open_96 ⟨Nat.le_of_ble_eq_true rfl, Nat.le_of_ble_eq_true rfl⟩ (fun H locs v σ96 hB hP => ?_)
          obtain ⟨rfl, rfl⟩ := hP
          refine lv_aload hx hb dX9_open_99 (lv_at hl 2 rfl) ?_
          refine gf_X9_182 F hB dX9_open_101 (Ld _ hi2).1 ?_
          refine lv_aload hx hb dX9_open_104 (lv_at hl 2 rfl) ?_
          refine gf_X9_109 F hB dX9_open_106 (Ld _ hi2).1 ?_
          refine lv_aload hx hb dX9_open_109 (lv_at hl 1 rfl) ?_
          refine gf_X9_147 F hB dX9_open_111 (Le _ _ hi2 hk10).1 ?_
          refine cl_callS F hB (k_hubCost l D cy hB.2 _ _ hg.1 (by omega) _) (cwS 2 F.1.2.2.2.2 (vgS (vm_5 _ (List.mem_of_getElem? (i := 12) rfl)) (vm_5 _ (List.mem_of_getElem? (i := 13) rfl)) (vm_4 _ (List.mem_of_getElem? (i := 20) rfl)) (vm_5 _ (List.mem_of_getElem? (i := 8) rfl))) rfl rfl rfl ⟨rfl, by decide, by decide, by decide +kernel⟩ ⟨Nat.le_of_ble_eq_true rfl, Nat.le_of_ble_eq_true rfl⟩) rfl hl.1 rfl (Nat.le_of_ble_eq_true rfl) dX9_open_114 ⟨Nat.le_of_ble_eq_true rfl, Nat.le_of_ble_eq_true rfl⟩ (fun H locs v σ114 hB hP => ?_)
          obtain ⟨⟨z114, rfl, hz114⟩, rfl⟩ := hP
          refine cl_callN (ci := 13) F hB (k_best l D cy hB.2 hI.2.2.1 _ _ _ _ (by rw [eho]; omega) (by rw [hz114]; omega) _) ⟨va_cnB 4 F.1.2.2.2.2 (vgN (vm_3 _ (List.mem_of_getElem? (i := 11) rfl))) rfl rfl rfl (F.2.2.1.1 _ nf_143) (F.1.2.2.2.2 _ (List.mem_cons_of_mem _ (vm_3 _ (List.mem_of_getElem? (i := 15) rfl)))) ⟨by decide, by decide, by decide +kernel⟩ ⟨Nat.le_of_ble_eq_true rfl, Nat.le_of_ble_eq_true rfl⟩, F.1.2.2.2.2 _ (List.mem_cons_of_mem _ (vm_8 _ (List.mem_of_getElem? (i := 7) rfl))), F.1.2.2.2.2 _ (List.mem_cons_of_mem _ (vm_8 _ (List.mem_of_getElem? (i := 8) rfl)))⟩ rfl rfl (by decide) rfl hl.1 rfl (Nat.le_of_ble_eq_true rfl) dX9_open_117 ⟨Nat.le_of_ble_eq_true rfl, Nat.le_of_ble_eq_true rfl⟩ LU.1 (fun H locs v σ117 hB hP => ?_)
          obtain ⟨⟨z117, rfl, hg117⟩, rfl⟩ := hP
          refine lv_istore (lv' := [(7, .int _), (6, .ref _), (5, .ref _), (0, .ref _), (1, .int _), (2, .int _), (3, .int _), (4, .int _)]) hx hb dX9_open_120 hl (by decide) rfl (fun ls hl => ?_)
          refine lv_iload hx hb dX9_open_122 (lv_at hl 0 rfl) ?_
          refine lv_if_ge (tgt := 138) hx hb dX9_open_124 (by decide) (fun c124 => ?_) (fun c124 => ?_)
          · refine lv_aload_n hx hb dX9_open_138 rfl (lv_at hl 3 rfl) ?_
            refine cl_callV (ci := 14) F hB (k_fcq l D cy hB.2  _) (cwV 0 F.1.2.2.2.2 (vgV (vm_8 _ (List.mem_of_getElem? (i := 9) rfl)) (vm_8 _ (List.mem_of_getElem? (i := 10) rfl)) (vm_8 _ (List.mem_of_getElem? (i := 11) rfl)) (vm_4 _ (List.mem_of_getElem? (i := 20) rfl)) (vm_7 _ (List.mem_of_getElem? (i := 38) rfl))) rfl rfl rfl ⟨rfl, by decide, by decide, by decide +kernel⟩ ⟨Nat.le_of_ble_eq_true rfl, Nat.le_of_ble_eq_true rfl⟩) rfl rfl (by decide) rfl hl.1 rfl (Nat.le_of_ble_eq_true rfl) dX9_open_139 ⟨Nat.le_of_ble_eq_true rfl, Nat.le_of_ble_eq_true rfl⟩ LX.1 (fun H locs v σ139 hB hP => ?_)
            obtain ⟨⟨r9, rfl, hr9⟩, rfl⟩ := hP
            refine cl_astQ4 (lv' := [(8, va_rf _), (7, .int _), (6, .ref _), (5, .ref _), (0, .ref _), (1, .int _), (2, .int _), (3, .int _), (4, .int _)]) hx hb dX9_open_142 hl (by decide) rfl (fun ls hl => ?_)
            refine cl_aldQ4 hx hb dX9_open_144 (lv_at hl 0 rfl) ?_
            refine sg_split (fun hz146 => ?_) (fun b146 hz146 => ?_)
            · refine lv_ifnonnullN hx hb dX9_open_146 ?_
              exact cl_thr (NC := 3) (vi_throwSW (WS := _ :: vWall) (text := "12 pipes are open") (ik := 101) (is := 317) (ic := 105) (X := "java/lang/IllegalStateException") F.1.1 F.1.2.1 hst F.1.2.2.2.2 F.1.2.2.2.1 (by decide) (by decide) hT (by decide) (List.mem_cons_of_mem _ (vm_4 _ (List.mem_of_getElem? (i := 16) rfl))) (List.mem_cons_of_mem _ (vm_4 _ (List.mem_of_getElem? (i := 17) rfl))) (fun w h => List.mem_cons_of_mem _ (vmx_3 w h)) (by decide +kernel) (by decide +kernel) (by decide) F.1.2.2.1 (by decide +kernel) (by decide +kernel) (by decide +kernel) (by decide +kernel) (by decide +kernel) hout F.2.2.2 (Nat.le_of_ble_eq_true rfl) (Nat.le_of_ble_eq_true rfl) ⟨Nat.le_refl _, Nat.le_refl _⟩ (Nat.le_refl _) (fun _ h => h)) hB vi_kept_rf (Nat.le_of_ble_eq_true rfl) (by decide) hl.1
            · refine lv_ifnonnull (tgt := 160) hx hb dX9_open_146 (by decide) ?_
              subst hz146
              obtain ⟨j8, hj8, ej8, hp8⟩ := hr9.resolve_left (fun z => by cases z)
              cases ej8
              have tp := (Lp _ hj8).1
              refine lv_aload hx hb dX9_open_160 (lv_at hl 0 rfl) ?_
              refine lv_aload hx hb dX9_open_162 (lv_at hl 3 rfl) ?_
              refine lv_aload hx hb dX9_open_164 (lv_at hl 2 rfl) ?_
              refine lv_iload_n hx hb dX9_open_166 rfl (lv_at hl 7 rfl) ?_
              refine cl_callN (ci := 10) F hB (k_att l D cy hB.2 hj8 (Ld _ hi2).1 (Le _ _ hi2 hk10).1 _ hkd _) ⟨va_cnB 3 F.1.2.2.2.2 (vgN (vm_2 _ (List.mem_of_getElem? (i := 18) rfl))) rfl rfl rfl (F.2.2.1.1 _ nf_145) (F.1.2.2.2.2 _ (List.mem_cons_of_mem _ (vm_2 _ (List.mem_of_getElem? (i := 22) rfl)))) ⟨by decide, by decide, by decide +kernel⟩ ⟨Nat.le_of_ble_eq_true rfl, Nat.le_of_ble_eq_true rfl⟩, F.1.2.2.2.2 _ (List.mem_cons_of_mem _ (vm_8 _ (List.mem_of_getElem? (i := 12) rfl))), F.1.2.2.2.2 _ (List.mem_cons_of_mem _ (vm_8 _ (List.mem_of_getElem? (i := 13) rfl)))⟩ rfl rfl (by decide) rfl hl.1 rfl (Nat.le_of_ble_eq_true rfl) dX9_open_167 ⟨Nat.le_of_ble_eq_true rfl, Nat.le_of_ble_eq_true rfl⟩ tp (fun H locs v σ167 hB hP => ?_)
              obtain ⟨rfl, rfl⟩ := hP
              refine lv_aload hx hb dX9_open_170 (lv_at hl 0 rfl) ?_
              refine lv_iload_n hx hb dX9_open_172 rfl (lv_at hl 7 rfl) ?_
              refine lv_bipush (v := 98) hx hb dX9_open_173 (by decide) ?_
              refine lv_icmp_ne (tgt := 182) hx hb dX9_open_175 (by decide) (fun c175 => ?_) (fun c175 => ?_)
              · refine lv_iload hx hb dX9_open_182 (lv_at hl 8 rfl) ?_
                refine pf_X9_323 F hB dX9_open_184 tp (fun H locs hBn => ?_)
                clear hB; have hB := hBn; clear hBn
                refine lv_aload hx hb dX9_open_187 (lv_at hl 0 rfl) ?_
                refine lv_iload hx hb dX9_open_189 (lv_at hl 1 rfl) ?_
                refine pf_X9_326 F hB dX9_open_191 tp (fun H locs hBn => ?_)
                clear hB; have hB := hBn; clear hBn
                refine lv_aload_n hx hb dX9_open_194 rfl (lv_at hl 4 rfl) ?_
                refine lv_aload hx hb dX9_open_195 (lv_at hl 0 rfl) ?_
                refine lv_aload hx hb dX9_open_197 (lv_at hl 3 rfl) ?_
                refine lv_aload hx hb dX9_open_199 (lv_at hl 2 rfl) ?_
                refine lv_iconst (v := 1) hx hb dX9_open_201 (by decide) ?_
                refine cl_callV (ci := 14) F hB (k_resF l D cy hB.2 hj8 (Ld _ hi2).1 (Le _ _ hi2 hk10).1 _ _) (cwV 4 F.1.2.2.2.2 (vgV (vm_5 _ (List.mem_of_getElem? (i := 23) rfl)) (vm_5 _ (List.mem_of_getElem? (i := 24) rfl)) (vm_5 _ (List.mem_of_getElem? (i := 25) rfl)) (vm_4 _ (List.mem_of_getElem? (i := 20) rfl)) (vm_5 _ (List.mem_of_getElem? (i := 9) rfl))) rfl rfl rfl ⟨rfl, by decide, by decide, by decide +kernel⟩ ⟨Nat.le_of_ble_eq_true rfl, Nat.le_of_ble_eq_true rfl⟩) rfl rfl (by decide) rfl hl.1 rfl (Nat.le_of_ble_eq_true rfl) dX9_open_202 ⟨Nat.le_of_ble_eq_true rfl, Nat.le_of_ble_eq_true rfl⟩ hB.2.2.1.1 (fun H locs v σ202 hB hP => ?_)
                obtain ⟨rfl, z202, hz202, hN202⟩ := hP
                refine lv_aload hx hb dX9_open_205 (lv_at hl 0 rfl) ?_
                refine gf_X9_333 F hB dX9_open_207 (hB.2.2.2.2.2.2.2.2.1 _ hj8).1 ?_
                exact cl_iretX (Nat.le_of_ble_eq_true rfl) F hB hrt dX9_open_210 (by first | exact ⟨⟨_, rfl⟩, SI_open hV hI hj8 hi2 hk10 hp8 (by rw [c54]; decide) (fun f f0 f1 hf => by have q := (hg117 (by have q0 := i_le c124; rw [e0] at q0; exact q0)).1 f f0 f1 hf; rw [eho] at q; exact q) (fun f g f0 f1 g0 g1 hf hgg => by have q := (hg117 (by have q0 := i_le c124; rw [e0] at q0; exact q0)).2 (by rw [hgg]; exact g0) (by rw [hgg]; exact g1) f f0 f1 hf; rw [hgg, hz114] at q; exact q) rfl hz202 hN202⟩ | exact ⟨⟨_, rfl⟩, SI_open hV hI hj8 hi2 hk10 hp8 (by rw [c54]; decide) (fun f f0 f1 hf => absurd hf (bulk f)) (fun f g f0 f1 g0 g1 hf _ => absurd hf (bulk f)) rfl hz202 hN202⟩ | exact absurd c82 c175 | exact absurd c175 c82 | fail "no road")
              · refine lv_iconst (v := 1) hx hb dX9_open_178 (by decide) ?_
                refine lv_goto (tgt := 184) hx hb dX9_open_179 (by decide) ?_
                refine pf_X9_323 F hB dX9_open_184 tp (fun H locs hBn => ?_)
                clear hB; have hB := hBn; clear hBn
                refine lv_aload hx hb dX9_open_187 (lv_at hl 0 rfl) ?_
                refine lv_iload hx hb dX9_open_189 (lv_at hl 1 rfl) ?_
                refine pf_X9_326 F hB dX9_open_191 tp (fun H locs hBn => ?_)
                clear hB; have hB := hBn; clear hBn
                refine lv_aload_n hx hb dX9_open_194 rfl (lv_at hl 4 rfl) ?_
                refine lv_aload hx hb dX9_open_195 (lv_at hl 0 rfl) ?_
                refine lv_aload hx hb dX9_open_197 (lv_at hl 3 rfl) ?_
                refine lv_aload hx hb dX9_open_199 (lv_at hl 2 rfl) ?_
                refine lv_iconst (v := 1) hx hb dX9_open_201 (by decide) ?_
                refine cl_callV (ci := 14) F hB (k_resF l D cy hB.2 hj8 (Ld _ hi2).1 (Le _ _ hi2 hk10).1 _ _) (cwV 4 F.1.2.2.2.2 (vgV (vm_5 _ (List.mem_of_getElem? (i := 23) rfl)) (vm_5 _ (List.mem_of_getElem? (i := 24) rfl)) (vm_5 _ (List.mem_of_getElem? (i := 25) rfl)) (vm_4 _ (List.mem_of_getElem? (i := 20) rfl)) (vm_5 _ (List.mem_of_getElem? (i := 9) rfl))) rfl rfl rfl ⟨rfl, by decide, by decide, by decide +kernel⟩ ⟨Nat.le_of_ble_eq_true rfl, Nat.le_of_ble_eq_true rfl⟩) rfl rfl (by decide) rfl hl.1 rfl (Nat.le_of_ble_eq_true rfl) dX9_open_202 ⟨Nat.le_of_ble_eq_true rfl, Nat.le_of_ble_eq_true rfl⟩ hB.2.2.1.1 (fun H locs v σ202 hB hP => ?_)
                obtain ⟨rfl, z202, hz202, hN202⟩ := hP
                refine lv_aload hx hb dX9_open_205 (lv_at hl 0 rfl) ?_
                refine gf_X9_333 F hB dX9_open_207 (hB.2.2.2.2.2.2.2.2.1 _ hj8).1 ?_
                exact cl_iretX (Nat.le_of_ble_eq_true rfl) F hB hrt dX9_open_210 (by first | exact ⟨⟨_, rfl⟩, SI_open hV hI hj8 hi2 hk10 hp8 (by rw [c54]; decide) (fun f f0 f1 hf => by have q := (hg117 (by have q0 := i_le c124; rw [e0] at q0; exact q0)).1 f f0 f1 hf; rw [eho] at q; exact q) (fun f g f0 f1 g0 g1 hf hgg => by have q := (hg117 (by have q0 := i_le c124; rw [e0] at q0; exact q0)).2 (by rw [hgg]; exact g0) (by rw [hgg]; exact g1) f f0 f1 hf; rw [hgg, hz114] at q; exact q) rfl hz202 hN202⟩ | exact ⟨⟨_, rfl⟩, SI_open hV hI hj8 hi2 hk10 hp8 (by rw [c54]; decide) (fun f f0 f1 hf => absurd hf (bulk f)) (fun f g f0 f1 g0 g1 hf _ => absurd hf (bulk f)) rfl hz202 hN202⟩ | exact absurd c82 c175 | exact absurd c175 c82 | fail "no road")
          · exact cl_thr (NC := 3) (vi_throwSW (WS := _ :: vWall) (text := "there is no phase") (ik := 139) (is := 311) (ic := 143) (X := "java/lang/UnsupportedOperationException") F.1.1 F.1.2.1 hst F.1.2.2.2.2 F.1.2.2.2.1 (by decide) (by decide) hT (by decide) (List.mem_cons_of_mem _ (vm_4 _ (List.mem_of_getElem? (i := 27) rfl))) (List.mem_cons_of_mem _ (vm_4 _ (List.mem_of_getElem? (i := 28) rfl))) (fun w h => List.mem_cons_of_mem _ (vmx_1 w h)) (by decide +kernel) (by decide +kernel) (by decide) F.1.2.2.1 (by decide +kernel) (by decide +kernel) (by decide +kernel) (by decide +kernel) (by decide +kernel) hout F.2.2.2 (Nat.le_of_ble_eq_true rfl) (Nat.le_of_ble_eq_true rfl) ⟨Nat.le_refl _, Nat.le_refl _⟩ (Nat.le_refl _) (fun _ h => h)) hB vi_kept_rf (Nat.le_of_ble_eq_true rfl) (by decide) hl.1
      · exact cl_thr (NC := 3) (vi_throwSW (WS := _ :: vWall) (text := "no pipe can be opened for it") (ik := 139) (is := 299) (ic := 143) (X := "java/lang/UnsupportedOperationException") F.1.1 F.1.2.1 hst F.1.2.2.2.2 F.1.2.2.2.1 (by decide) (by decide) hT (by decide) (List.mem_cons_of_mem _ (vm_4 _ (List.mem_of_getElem? (i := 27) rfl))) (List.mem_cons_of_mem _ (vm_4 _ (List.mem_of_getElem? (i := 28) rfl))) (fun w h => List.mem_cons_of_mem _ (vmx_1 w h)) (by decide +kernel) (by decide +kernel) (by decide) F.1.2.2.1 (by decide +kernel) (by decide +kernel) (by decide +kernel) (by decide +kernel) (by decide +kernel) hout F.2.2.2 (Nat.le_of_ble_eq_true rfl) (Nat.le_of_ble_eq_true rfl) ⟨Nat.le_refl _, Nat.le_refl _⟩ (Nat.le_refl _) (fun _ h => h)) hB vi_kept_rf (Nat.le_of_ble_eq_true rfl) (by decide) hl.1
  · refine lv_iload_n hx hb dX9_open_21 rfl (lv_at hl 5 rfl) ?_
    refine cl_callS F hB (k_peri l D cy hB.2 _ _) (cwS 1 F.1.2.2.2.2 (vgS (vm_8 _ (List.mem_of_getElem? (i := 3) rfl)) (vm_8 _ (List.mem_of_getElem? (i := 4) rfl)) (vm_4 _ (List.mem_of_getElem? (i := 20) rfl)) (vm_7 _ (List.mem_of_getElem? (i := 36) rfl))) rfl rfl rfl ⟨rfl, by decide, by decide, by decide +kernel⟩ ⟨Nat.le_of_ble_eq_true rfl, Nat.le_of_ble_eq_true rfl⟩) rfl hl.1 rfl (Nat.le_of_ble_eq_true rfl) dX9_open_22 ⟨Nat.le_of_ble_eq_true rfl, Nat.le_of_ble_eq_true rfl⟩ (fun H locs v σ22 hB hP => ?_)
    obtain ⟨⟨b22, rfl, hb22⟩, rfl⟩ := hP
    refine lv_if_eq (tgt := 36) hx hb dX9_open_25 (by decide) (fun c25 => ?_) (fun c25 => ?_)
    · exact cl_thr (NC := 3) (vi_throwSW (WS := _ :: vWall) (text := "no such kind or interval") (ik := 92) (is := 294) (ic := 96) (X := "java/lang/IllegalArgumentException") F.1.1 F.1.2.1 hst F.1.2.2.2.2 F.1.2.2.2.1 (by decide) (by decide) hT (by decide) (List.mem_cons_of_mem _ (vm_4 _ (List.mem_of_getElem? (i := 14) rfl))) (List.mem_cons_of_mem _ (vm_4 _ (List.mem_of_getElem? (i := 15) rfl))) (fun w h => List.mem_cons_of_mem _ (vmx_2 w h)) (by decide +kernel) (by decide +kernel) (by decide) F.1.2.2.1 (by decide +kernel) (by decide +kernel) (by decide +kernel) (by decide +kernel) (by decide +kernel) hout F.2.2.2 (Nat.le_of_ble_eq_true rfl) (Nat.le_of_ble_eq_true rfl) ⟨Nat.le_refl _, Nat.le_refl _⟩ (Nat.le_refl _) (fun _ h => h)) hB vi_kept_rf (Nat.le_of_ble_eq_true rfl) (by decide) hl.1
    · refine lv_iload hx hb dX9_open_28 (lv_at hl 6 rfl) ?_
      refine cl_callS F hB (k_intv l D cy hB.2 _ _) (cwS 1 F.1.2.2.2.2 (vgS (vm_8 _ (List.mem_of_getElem? (i := 5) rfl)) (vm_8 _ (List.mem_of_getElem? (i := 6) rfl)) (vm_4 _ (List.mem_of_getElem? (i := 20) rfl)) (vm_7 _ (List.mem_of_getElem? (i := 37) rfl))) rfl rfl rfl ⟨rfl, by decide, by decide, by decide +kernel⟩ ⟨Nat.le_of_ble_eq_true rfl, Nat.le_of_ble_eq_true rfl⟩) rfl hl.1 rfl (Nat.le_of_ble_eq_true rfl) dX9_open_30 ⟨Nat.le_of_ble_eq_true rfl, Nat.le_of_ble_eq_true rfl⟩ (fun H locs v σ30 hB hP => ?_)
      obtain ⟨⟨b30, rfl, hb30⟩, rfl⟩ := hP
      refine lv_if_ne (tgt := 47) hx hb dX9_open_33 (by decide) (fun c33 => ?_) (fun c33 => ?_)
      · refine lv_aload hx hb dX9_open_47 (lv_at hl 1 rfl) ?_
        refine gf_X9_74 F hB dX9_open_49 (Ld _ hi2).1 ?_
        refine lv_bipush (v := 99) hx hb dX9_open_52 (by decide) ?_
        refine lv_icmp_ne (tgt := 65) hx hb dX9_open_54 (by decide) (fun c54 => ?_) (fun c54 => ?_)
        · exact cl_thr (NC := 3) (vi_throwSW (WS := _ :: vWall) (text := "no pipe can be opened for it") (ik := 139) (is := 299) (ic := 143) (X := "java/lang/UnsupportedOperationException") F.1.1 F.1.2.1 hst F.1.2.2.2.2 F.1.2.2.2.1 (by decide) (by decide) hT (by decide) (List.mem_cons_of_mem _ (vm_4 _ (List.mem_of_getElem? (i := 27) rfl))) (List.mem_cons_of_mem _ (vm_4 _ (List.mem_of_getElem? (i := 28) rfl))) (fun w h => List.mem_cons_of_mem _ (vmx_1 w h)) (by decide +kernel) (by decide +kernel) (by decide) F.1.2.2.1 (by decide +kernel) (by decide +kernel) (by decide +kernel) (by decide +kernel) (by decide +kernel) hout F.2.2.2 (Nat.le_of_ble_eq_true rfl) (Nat.le_of_ble_eq_true rfl) ⟨Nat.le_refl _, Nat.le_refl _⟩ (Nat.le_refl _) (fun _ h => h)) hB vi_kept_rf (Nat.le_of_ble_eq_true rfl) (by decide) hl.1
        · refine lv_aload hx hb dX9_open_57 (lv_at hl 0 rfl) ?_
          refine gf_X9_296 F hB dX9_open_59 (Le _ _ hi2 hk10).1 ?_
          refine lv_if_eq (tgt := 76) hx hb dX9_open_62 (by decide) (fun c62 => ?_) (fun c62 => ?_)
          · refine lv_iconst (v := (-1)) hx hb dX9_open_76 (by decide) ?_
            refine lv_istore (lv' := [(7, .int _), (6, .ref _), (5, .ref _), (0, .ref _), (1, .int _), (2, .int _), (3, .int _), (4, .int _)]) hx hb dX9_open_77 hl (by decide) rfl (fun ls hl => ?_)
            refine lv_iload_n hx hb dX9_open_79 rfl (lv_at hl 6 rfl) ?_
            refine lv_bipush (v := 98) hx hb dX9_open_80 (by decide) ?_
            refine lv_icmp_eq (tgt := 138) hx hb dX9_open_82 (by decide) (fun c82 => ?_) (fun c82 => ?_)
            · refine lv_aload_n hx hb dX9_open_138 rfl (lv_at hl 3 rfl) ?_
              refine cl_callV (ci := 14) F hB (k_fcq l D cy hB.2  _) (cwV 0 F.1.2.2.2.2 (vgV (vm_8 _ (List.mem_of_getElem? (i := 9) rfl)) (vm_8 _ (List.mem_of_getElem? (i := 10) rfl)) (vm_8 _ (List.mem_of_getElem? (i := 11) rfl)) (vm_4 _ (List.mem_of_getElem? (i := 20) rfl)) (vm_7 _ (List.mem_of_getElem? (i := 38) rfl))) rfl rfl rfl ⟨rfl, by decide, by decide, by decide +kernel⟩ ⟨Nat.le_of_ble_eq_true rfl, Nat.le_of_ble_eq_true rfl⟩) rfl rfl (by decide) rfl hl.1 rfl (Nat.le_of_ble_eq_true rfl) dX9_open_139 ⟨Nat.le_of_ble_eq_true rfl, Nat.le_of_ble_eq_true rfl⟩ LX.1 (fun H locs v σ139 hB hP => ?_)
              obtain ⟨⟨r9, rfl, hr9⟩, rfl⟩ := hP
              refine cl_astQ4 (lv' := [(8, va_rf _), (7, .int _), (6, .ref _), (5, .ref _), (0, .ref _), (1, .int _), (2, .int _), (3, .int _), (4, .int _)]) hx hb dX9_open_142 hl (by decide) rfl (fun ls hl => ?_)
              refine cl_aldQ4 hx hb dX9_open_144 (lv_at hl 0 rfl) ?_
              refine sg_split (fun hz146 => ?_) (fun b146 hz146 => ?_)
              · refine lv_ifnonnullN hx hb dX9_open_146 ?_
                exact cl_thr (NC := 3) (vi_throwSW (WS := _ :: vWall) (text := "12 pipes are open") (ik := 101) (is := 317) (ic := 105) (X := "java/lang/IllegalStateException") F.1.1 F.1.2.1 hst F.1.2.2.2.2 F.1.2.2.2.1 (by decide) (by decide) hT (by decide) (List.mem_cons_of_mem _ (vm_4 _ (List.mem_of_getElem? (i := 16) rfl))) (List.mem_cons_of_mem _ (vm_4 _ (List.mem_of_getElem? (i := 17) rfl))) (fun w h => List.mem_cons_of_mem _ (vmx_3 w h)) (by decide +kernel) (by decide +kernel) (by decide) F.1.2.2.1 (by decide +kernel) (by decide +kernel) (by decide +kernel) (by decide +kernel) (by decide +kernel) hout F.2.2.2 (Nat.le_of_ble_eq_true rfl) (Nat.le_of_ble_eq_true rfl) ⟨Nat.le_refl _, Nat.le_refl _⟩ (Nat.le_refl _) (fun _ h => h)) hB vi_kept_rf (Nat.le_of_ble_eq_true rfl) (by decide) hl.1
              · refine lv_ifnonnull (tgt := 160) hx hb dX9_open_146 (by decide) ?_
                subst hz146
                obtain ⟨j8, hj8, ej8, hp8⟩ := hr9.resolve_left (fun z => by cases z)
                cases ej8
                have tp := (Lp _ hj8).1
                refine lv_aload hx hb dX9_open_160 (lv_at hl 0 rfl) ?_
                refine lv_aload hx hb dX9_open_162 (lv_at hl 3 rfl) ?_
                refine lv_aload hx hb dX9_open_164 (lv_at hl 2 rfl) ?_
                refine lv_iload_n hx hb dX9_open_166 rfl (lv_at hl 7 rfl) ?_
                refine cl_callN (ci := 10) F hB (k_att l D cy hB.2 hj8 (Ld _ hi2).1 (Le _ _ hi2 hk10).1 _ hkd _) ⟨va_cnB 3 F.1.2.2.2.2 (vgN (vm_2 _ (List.mem_of_getElem? (i := 18) rfl))) rfl rfl rfl (F.2.2.1.1 _ nf_145) (F.1.2.2.2.2 _ (List.mem_cons_of_mem _ (vm_2 _ (List.mem_of_getElem? (i := 22) rfl)))) ⟨by decide, by decide, by decide +kernel⟩ ⟨Nat.le_of_ble_eq_true rfl, Nat.le_of_ble_eq_true rfl⟩, F.1.2.2.2.2 _ (List.mem_cons_of_mem _ (vm_8 _ (List.mem_of_getElem? (i := 12) rfl))), F.1.2.2.2.2 _ (List.mem_cons_of_mem _ (vm_8 _ (List.mem_of_getElem? (i := 13) rfl)))⟩ rfl rfl (by decide) rfl hl.1 rfl (Nat.le_of_ble_eq_true rfl) dX9_open_167 ⟨Nat.le_of_ble_eq_true rfl, Nat.le_of_ble_eq_true rfl⟩ tp (fun H locs v σ167 hB hP => ?_)
                obtain ⟨rfl, rfl⟩ := hP
                refine lv_aload hx hb dX9_open_170 (lv_at hl 0 rfl) ?_
                refine lv_iload_n hx hb dX9_open_172 rfl (lv_at hl 7 rfl) ?_
                refine lv_bipush (v := 98) hx hb dX9_open_173 (by decide) ?_
                refine lv_icmp_ne (tgt := 182) hx hb dX9_open_175 (by decide) (fun c175 => ?_) (fun c175 => ?_)
                · refine lv_iload hx hb dX9_open_182 (lv_at hl 8 rfl) ?_
                  refine pf_X9_323 F hB dX9_open_184 tp (fun H locs hBn => ?_)
                  clear hB; have hB := hBn; clear hBn
                  refine lv_aload hx hb dX9_open_187 (lv_at hl 0 rfl) ?_
                  refine lv_iload hx hb dX9_open_189 (lv_at hl 1 rfl) ?_
                  refine pf_X9_326 F hB dX9_open_191 tp (fun H locs hBn => ?_)
                  clear hB; have hB := hBn; clear hBn
                  refine lv_aload_n hx hb dX9_open_194 rfl (lv_at hl 4 rfl) ?_
                  refine lv_aload hx hb dX9_open_195 (lv_at hl 0 rfl) ?_
                  refine lv_aload hx hb dX9_open_197 (lv_at hl 3 rfl) ?_
                  refine lv_aload hx hb dX9_open_199 (lv_at hl 2 rfl) ?_
                  refine lv_iconst (v := 1) hx hb dX9_open_201 (by decide) ?_
                  refine cl_callV (ci := 14) F hB (k_resF l D cy hB.2 hj8 (Ld _ hi2).1 (Le _ _ hi2 hk10).1 _ _) (cwV 4 F.1.2.2.2.2 (vgV (vm_5 _ (List.mem_of_getElem? (i := 23) rfl)) (vm_5 _ (List.mem_of_getElem? (i := 24) rfl)) (vm_5 _ (List.mem_of_getElem? (i := 25) rfl)) (vm_4 _ (List.mem_of_getElem? (i := 20) rfl)) (vm_5 _ (List.mem_of_getElem? (i := 9) rfl))) rfl rfl rfl ⟨rfl, by decide, by decide, by decide +kernel⟩ ⟨Nat.le_of_ble_eq_true rfl, Nat.le_of_ble_eq_true rfl⟩) rfl rfl (by decide) rfl hl.1 rfl (Nat.le_of_ble_eq_true rfl) dX9_open_202 ⟨Nat.le_of_ble_eq_true rfl, Nat.le_of_ble_eq_true rfl⟩ hB.2.2.1.1 (fun H locs v σ202 hB hP => ?_)
                  obtain ⟨rfl, z202, hz202, hN202⟩ := hP
                  refine lv_aload hx hb dX9_open_205 (lv_at hl 0 rfl) ?_
                  refine gf_X9_333 F hB dX9_open_207 (hB.2.2.2.2.2.2.2.2.1 _ hj8).1 ?_
                  exact cl_iretX (Nat.le_of_ble_eq_true rfl) F hB hrt dX9_open_210 (by first | exact ⟨⟨_, rfl⟩, SI_open hV hI hj8 hi2 hk10 hp8 (by rw [c54]; decide) (fun f f0 f1 hf => by have q := (hg117 (by have q0 := i_le c124; rw [e0] at q0; exact q0)).1 f f0 f1 hf; rw [eho] at q; exact q) (fun f g f0 f1 g0 g1 hf hgg => by have q := (hg117 (by have q0 := i_le c124; rw [e0] at q0; exact q0)).2 (by rw [hgg]; exact g0) (by rw [hgg]; exact g1) f f0 f1 hf; rw [hgg, hz114] at q; exact q) rfl hz202 hN202⟩ | exact ⟨⟨_, rfl⟩, SI_open hV hI hj8 hi2 hk10 hp8 (by rw [c54]; decide) (fun f f0 f1 hf => absurd hf (bulk f)) (fun f g f0 f1 g0 g1 hf _ => absurd hf (bulk f)) rfl hz202 hN202⟩ | exact absurd c82 c175 | exact absurd c175 c82 | fail "no road")
                · refine lv_iconst (v := 1) hx hb dX9_open_178 (by decide) ?_
                  refine lv_goto (tgt := 184) hx hb dX9_open_179 (by decide) ?_
                  refine pf_X9_323 F hB dX9_open_184 tp (fun H locs hBn => ?_)
                  clear hB; have hB := hBn; clear hBn
                  refine lv_aload hx hb dX9_open_187 (lv_at hl 0 rfl) ?_
                  refine lv_iload hx hb dX9_open_189 (lv_at hl 1 rfl) ?_
                  refine pf_X9_326 F hB dX9_open_191 tp (fun H locs hBn => ?_)
                  clear hB; have hB := hBn; clear hBn
                  refine lv_aload_n hx hb dX9_open_194 rfl (lv_at hl 4 rfl) ?_
                  refine lv_aload hx hb dX9_open_195 (lv_at hl 0 rfl) ?_
                  refine lv_aload hx hb dX9_open_197 (lv_at hl 3 rfl) ?_
                  refine lv_aload hx hb dX9_open_199 (lv_at hl 2 rfl) ?_
                  refine lv_iconst (v := 1) hx hb dX9_open_201 (by decide) ?_
                  refine cl_callV (ci := 14) F hB (k_resF l D cy hB.2 hj8 (Ld _ hi2).1 (Le _ _ hi2 hk10).1 _ _) (cwV 4 F.1.2.2.2.2 (vgV (vm_5 _ (List.mem_of_getElem? (i := 23) rfl)) (vm_5 _ (List.mem_of_getElem? (i := 24) rfl)) (vm_5 _ (List.mem_of_getElem? (i := 25) rfl)) (vm_4 _ (List.mem_of_getElem? (i := 20) rfl)) (vm_5 _ (List.mem_of_getElem? (i := 9) rfl))) rfl rfl rfl ⟨rfl, by decide, by decide, by decide +kernel⟩ ⟨Nat.le_of_ble_eq_true rfl, Nat.le_of_ble_eq_true rfl⟩) rfl rfl (by decide) rfl hl.1 rfl (Nat.le_of_ble_eq_true rfl) dX9_open_202 ⟨Nat.le_of_ble_eq_true rfl, Nat.le_of_ble_eq_true rfl⟩ hB.2.2.1.1 (fun H locs v σ202 hB hP => ?_)
                  obtain ⟨rfl, z202, hz202, hN202⟩ := hP
                  refine lv_aload hx hb dX9_open_205 (lv_at hl 0 rfl) ?_
                  refine gf_X9_333 F hB dX9_open_207 (hB.2.2.2.2.2.2.2.2.1 _ hj8).1 ?_
                  exact cl_iretX (Nat.le_of_ble_eq_true rfl) F hB hrt dX9_open_210 (by first | exact ⟨⟨_, rfl⟩, SI_open hV hI hj8 hi2 hk10 hp8 (by rw [c54]; decide) (fun f f0 f1 hf => by have q := (hg117 (by have q0 := i_le c124; rw [e0] at q0; exact q0)).1 f f0 f1 hf; rw [eho] at q; exact q) (fun f g f0 f1 g0 g1 hf hgg => by have q := (hg117 (by have q0 := i_le c124; rw [e0] at q0; exact q0)).2 (by rw [hgg]; exact g0) (by rw [hgg]; exact g1) f f0 f1 hf; rw [hgg, hz114] at q; exact q) rfl hz202 hN202⟩ | exact ⟨⟨_, rfl⟩, SI_open hV hI hj8 hi2 hk10 hp8 (by rw [c54]; decide) (fun f f0 f1 hf => absurd hf (bulk f)) (fun f g f0 f1 g0 g1 hf _ => absurd hf (bulk f)) rfl hz202 hN202⟩ | exact absurd c82 c175 | exact absurd c175 c82 | fail "no road")
            · refine lv_aload_n hx hb dX9_open_85 rfl (lv_at hl 3 rfl) ?_
              have hg := en_gr hV (Le _ _ hi2 hk10).1
              have eho : (2 + sgI σ (ye Y i2 k10) 3).toInt = 2 + (sgI σ (ye Y i2 k10) 3).toInt := hc_h hg.1 (by omega)
              have hu := hubC_rg (r := sgI σ (yd Y i2) 11) hg.1 hg.2
              refine gr_X9_45 F hB dX9_open_86 LX.1 LX.2.2.2.1 ?_
              refine lv_iload hx hb dX9_open_89 (lv_at hl 7 rfl) ?_
              refine lv_aload hx hb dX9_open_91 (lv_at hl 1 rfl) ?_
              refine gf_X9_147 F hB dX9_open_93 (Le _ _ hi2 hk10).1 ?_
              refine cl_callS F hB (k_hostCost l D cy hB.2 _ _) (cwS 1 F.1.2.2.2.2 (vgS (vm_5 _ (List.mem_of_getElem? (i := 10) rfl)) (vm_5 _ (List.mem_of_getElem? (i := 11) rfl)) (vm_4 _ (List.mem_of_getElem? (i := 20) rfl)) (vm_5 _ (List.mem_of_getElem? (i := 7) rfl))) rfl rfl rfl ⟨rfl, by decide, by decide, by decide +kernel⟩ ⟨Nat.le_of_ble_eq_true rfl, Nat.le_of_ble_eq_true rfl⟩) rfl hl.1 rfl (Nat.le_of_ble_eq_true rfl) dX9_open_96 ⟨Nat.le_of_ble_eq_true rfl, Nat.le_of_ble_eq_true rfl⟩ (fun H locs v σ96 hB hP => ?_)
              obtain ⟨rfl, rfl⟩ := hP
              refine lv_aload hx hb dX9_open_99 (lv_at hl 2 rfl) ?_
              refine gf_X9_182 F hB dX9_open_101 (Ld _ hi2).1 ?_
              refine lv_aload hx hb dX9_open_104 (lv_at hl 2 rfl) ?_
              refine gf_X9_109 F hB dX9_open_106 (Ld _ hi2).1 ?_
              refine lv_aload hx hb dX9_open_109 (lv_at hl 1 rfl) ?_
              refine gf_X9_147 F hB dX9_open_111 (Le _ _ hi2 hk10).1 ?_
              refine cl_callS F hB (k_hubCost l D cy hB.2 _ _ hg.1 (by omega) _) (cwS 2 F.1.2.2.2.2 (vgS (vm_5 _ (List.mem_of_getElem? (i := 12) rfl)) (vm_5 _ (List.mem_of_getElem? (i := 13) rfl)) (vm_4 _ (List.mem_of_getElem? (i := 20) rfl)) (vm_5 _ (List.mem_of_getElem? (i := 8) rfl))) rfl rfl rfl ⟨rfl, by decide, by decide, by decide +kernel⟩ ⟨Nat.le_of_ble_eq_true rfl, Nat.le_of_ble_eq_true rfl⟩) rfl hl.1 rfl (Nat.le_of_ble_eq_true rfl) dX9_open_114 ⟨Nat.le_of_ble_eq_true rfl, Nat.le_of_ble_eq_true rfl⟩ (fun H locs v σ114 hB hP => ?_)
              obtain ⟨⟨z114, rfl, hz114⟩, rfl⟩ := hP
              refine cl_callN (ci := 13) F hB (k_best l D cy hB.2 hI.2.2.1 _ _ _ _ (by rw [eho]; omega) (by rw [hz114]; omega) _) ⟨va_cnB 4 F.1.2.2.2.2 (vgN (vm_3 _ (List.mem_of_getElem? (i := 11) rfl))) rfl rfl rfl (F.2.2.1.1 _ nf_143) (F.1.2.2.2.2 _ (List.mem_cons_of_mem _ (vm_3 _ (List.mem_of_getElem? (i := 15) rfl)))) ⟨by decide, by decide, by decide +kernel⟩ ⟨Nat.le_of_ble_eq_true rfl, Nat.le_of_ble_eq_true rfl⟩, F.1.2.2.2.2 _ (List.mem_cons_of_mem _ (vm_8 _ (List.mem_of_getElem? (i := 7) rfl))), F.1.2.2.2.2 _ (List.mem_cons_of_mem _ (vm_8 _ (List.mem_of_getElem? (i := 8) rfl)))⟩ rfl rfl (by decide) rfl hl.1 rfl (Nat.le_of_ble_eq_true rfl) dX9_open_117 ⟨Nat.le_of_ble_eq_true rfl, Nat.le_of_ble_eq_true rfl⟩ LU.1 (fun H locs v σ117 hB hP => ?_)
              obtain ⟨⟨z117, rfl, hg117⟩, rfl⟩ := hP
              refine lv_istore (lv' := [(7, .int _), (6, .ref _), (5, .ref _), (0, .ref _), (1, .int _), (2, .int _), (3, .int _), (4, .int _)]) hx hb dX9_open_120 hl (by decide) rfl (fun ls hl => ?_)
              refine lv_iload hx hb dX9_open_122 (lv_at hl 0 rfl) ?_
              refine lv_if_ge (tgt := 138) hx hb dX9_open_124 (by decide) (fun c124 => ?_) (fun c124 => ?_)
              · refine lv_aload_n hx hb dX9_open_138 rfl (lv_at hl 3 rfl) ?_
                refine cl_callV (ci := 14) F hB (k_fcq l D cy hB.2  _) (cwV 0 F.1.2.2.2.2 (vgV (vm_8 _ (List.mem_of_getElem? (i := 9) rfl)) (vm_8 _ (List.mem_of_getElem? (i := 10) rfl)) (vm_8 _ (List.mem_of_getElem? (i := 11) rfl)) (vm_4 _ (List.mem_of_getElem? (i := 20) rfl)) (vm_7 _ (List.mem_of_getElem? (i := 38) rfl))) rfl rfl rfl ⟨rfl, by decide, by decide, by decide +kernel⟩ ⟨Nat.le_of_ble_eq_true rfl, Nat.le_of_ble_eq_true rfl⟩) rfl rfl (by decide) rfl hl.1 rfl (Nat.le_of_ble_eq_true rfl) dX9_open_139 ⟨Nat.le_of_ble_eq_true rfl, Nat.le_of_ble_eq_true rfl⟩ LX.1 (fun H locs v σ139 hB hP => ?_)
                obtain ⟨⟨r9, rfl, hr9⟩, rfl⟩ := hP
                refine cl_astQ4 (lv' := [(8, va_rf _), (7, .int _), (6, .ref _), (5, .ref _), (0, .ref _), (1, .int _), (2, .int _), (3, .int _), (4, .int _)]) hx hb dX9_open_142 hl (by decide) rfl (fun ls hl => ?_)
                refine cl_aldQ4 hx hb dX9_open_144 (lv_at hl 0 rfl) ?_
                refine sg_split (fun hz146 => ?_) (fun b146 hz146 => ?_)
                · refine lv_ifnonnullN hx hb dX9_open_146 ?_
                  exact cl_thr (NC := 3) (vi_throwSW (WS := _ :: vWall) (text := "12 pipes are open") (ik := 101) (is := 317) (ic := 105) (X := "java/lang/IllegalStateException") F.1.1 F.1.2.1 hst F.1.2.2.2.2 F.1.2.2.2.1 (by decide) (by decide) hT (by decide) (List.mem_cons_of_mem _ (vm_4 _ (List.mem_of_getElem? (i := 16) rfl))) (List.mem_cons_of_mem _ (vm_4 _ (List.mem_of_getElem? (i := 17) rfl))) (fun w h => List.mem_cons_of_mem _ (vmx_3 w h)) (by decide +kernel) (by decide +kernel) (by decide) F.1.2.2.1 (by decide +kernel) (by decide +kernel) (by decide +kernel) (by decide +kernel) (by decide +kernel) hout F.2.2.2 (Nat.le_of_ble_eq_true rfl) (Nat.le_of_ble_eq_true rfl) ⟨Nat.le_refl _, Nat.le_refl _⟩ (Nat.le_refl _) (fun _ h => h)) hB vi_kept_rf (Nat.le_of_ble_eq_true rfl) (by decide) hl.1
                · refine lv_ifnonnull (tgt := 160) hx hb dX9_open_146 (by decide) ?_
                  subst hz146
                  obtain ⟨j8, hj8, ej8, hp8⟩ := hr9.resolve_left (fun z => by cases z)
                  cases ej8
                  have tp := (Lp _ hj8).1
                  refine lv_aload hx hb dX9_open_160 (lv_at hl 0 rfl) ?_
                  refine lv_aload hx hb dX9_open_162 (lv_at hl 3 rfl) ?_
                  refine lv_aload hx hb dX9_open_164 (lv_at hl 2 rfl) ?_
                  refine lv_iload_n hx hb dX9_open_166 rfl (lv_at hl 7 rfl) ?_
                  refine cl_callN (ci := 10) F hB (k_att l D cy hB.2 hj8 (Ld _ hi2).1 (Le _ _ hi2 hk10).1 _ hkd _) ⟨va_cnB 3 F.1.2.2.2.2 (vgN (vm_2 _ (List.mem_of_getElem? (i := 18) rfl))) rfl rfl rfl (F.2.2.1.1 _ nf_145) (F.1.2.2.2.2 _ (List.mem_cons_of_mem _ (vm_2 _ (List.mem_of_getElem? (i := 22) rfl)))) ⟨by decide, by decide, by decide +kernel⟩ ⟨Nat.le_of_ble_eq_true rfl, Nat.le_of_ble_eq_true rfl⟩, F.1.2.2.2.2 _ (List.mem_cons_of_mem _ (vm_8 _ (List.mem_of_getElem? (i := 12) rfl))), F.1.2.2.2.2 _ (List.mem_cons_of_mem _ (vm_8 _ (List.mem_of_getElem? (i := 13) rfl)))⟩ rfl rfl (by decide) rfl hl.1 rfl (Nat.le_of_ble_eq_true rfl) dX9_open_167 ⟨Nat.le_of_ble_eq_true rfl, Nat.le_of_ble_eq_true rfl⟩ tp (fun H locs v σ167 hB hP => ?_)
                  obtain ⟨rfl, rfl⟩ := hP
                  refine lv_aload hx hb dX9_open_170 (lv_at hl 0 rfl) ?_
                  refine lv_iload_n hx hb dX9_open_172 rfl (lv_at hl 7 rfl) ?_
                  refine lv_bipush (v := 98) hx hb dX9_open_173 (by decide) ?_
                  refine lv_icmp_ne (tgt := 182) hx hb dX9_open_175 (by decide) (fun c175 => ?_) (fun c175 => ?_)
                  · refine lv_iload hx hb dX9_open_182 (lv_at hl 8 rfl) ?_
                    refine pf_X9_323 F hB dX9_open_184 tp (fun H locs hBn => ?_)
                    clear hB; have hB := hBn; clear hBn
                    refine lv_aload hx hb dX9_open_187 (lv_at hl 0 rfl) ?_
                    refine lv_iload hx hb dX9_open_189 (lv_at hl 1 rfl) ?_
                    refine pf_X9_326 F hB dX9_open_191 tp (fun H locs hBn => ?_)
                    clear hB; have hB := hBn; clear hBn
                    refine lv_aload_n hx hb dX9_open_194 rfl (lv_at hl 4 rfl) ?_
                    refine lv_aload hx hb dX9_open_195 (lv_at hl 0 rfl) ?_
                    refine lv_aload hx hb dX9_open_197 (lv_at hl 3 rfl) ?_
                    refine lv_aload hx hb dX9_open_199 (lv_at hl 2 rfl) ?_
                    refine lv_iconst (v := 1) hx hb dX9_open_201 (by decide) ?_
                    refine cl_callV (ci := 14) F hB (k_resF l D cy hB.2 hj8 (Ld _ hi2).1 (Le _ _ hi2 hk10).1 _ _) (cwV 4 F.1.2.2.2.2 (vgV (vm_5 _ (List.mem_of_getElem? (i := 23) rfl)) (vm_5 _ (List.mem_of_getElem? (i := 24) rfl)) (vm_5 _ (List.mem_of_getElem? (i := 25) rfl)) (vm_4 _ (List.mem_of_getElem? (i := 20) rfl)) (vm_5 _ (List.mem_of_getElem? (i := 9) rfl))) rfl rfl rfl ⟨rfl, by decide, by decide, by decide +kernel⟩ ⟨Nat.le_of_ble_eq_true rfl, Nat.le_of_ble_eq_true rfl⟩) rfl rfl (by decide) rfl hl.1 rfl (Nat.le_of_ble_eq_true rfl) dX9_open_202 ⟨Nat.le_of_ble_eq_true rfl, Nat.le_of_ble_eq_true rfl⟩ hB.2.2.1.1 (fun H locs v σ202 hB hP => ?_)
                    obtain ⟨rfl, z202, hz202, hN202⟩ := hP
                    refine lv_aload hx hb dX9_open_205 (lv_at hl 0 rfl) ?_
                    refine gf_X9_333 F hB dX9_open_207 (hB.2.2.2.2.2.2.2.2.1 _ hj8).1 ?_
                    exact cl_iretX (Nat.le_of_ble_eq_true rfl) F hB hrt dX9_open_210 (by first | exact ⟨⟨_, rfl⟩, SI_open hV hI hj8 hi2 hk10 hp8 (by rw [c54]; decide) (fun f f0 f1 hf => by have q := (hg117 (by have q0 := i_le c124; rw [e0] at q0; exact q0)).1 f f0 f1 hf; rw [eho] at q; exact q) (fun f g f0 f1 g0 g1 hf hgg => by have q := (hg117 (by have q0 := i_le c124; rw [e0] at q0; exact q0)).2 (by rw [hgg]; exact g0) (by rw [hgg]; exact g1) f f0 f1 hf; rw [hgg, hz114] at q; exact q) rfl hz202 hN202⟩ | exact ⟨⟨_, rfl⟩, SI_open hV hI hj8 hi2 hk10 hp8 (by rw [c54]; decide) (fun f f0 f1 hf => absurd hf (bulk f)) (fun f g f0 f1 g0 g1 hf _ => absurd hf (bulk f)) rfl hz202 hN202⟩ | exact absurd c82 c175 | exact absurd c175 c82 | fail "no road")
                  · refine lv_iconst (v := 1) hx hb dX9_open_178 (by decide) ?_
                    refine lv_goto (tgt := 184) hx hb dX9_open_179 (by decide) ?_
                    refine pf_X9_323 F hB dX9_open_184 tp (fun H locs hBn => ?_)
                    clear hB; have hB := hBn; clear hBn
                    refine lv_aload hx hb dX9_open_187 (lv_at hl 0 rfl) ?_
                    refine lv_iload hx hb dX9_open_189 (lv_at hl 1 rfl) ?_
                    refine pf_X9_326 F hB dX9_open_191 tp (fun H locs hBn => ?_)
                    clear hB; have hB := hBn; clear hBn
                    refine lv_aload_n hx hb dX9_open_194 rfl (lv_at hl 4 rfl) ?_
                    refine lv_aload hx hb dX9_open_195 (lv_at hl 0 rfl) ?_
                    refine lv_aload hx hb dX9_open_197 (lv_at hl 3 rfl) ?_
                    refine lv_aload hx hb dX9_open_199 (lv_at hl 2 rfl) ?_
                    refine lv_iconst (v := 1) hx hb dX9_open_201 (by decide) ?_
                    refine cl_callV (ci := 14) F hB (k_resF l D cy hB.2 hj8 (Ld _ hi2).1 (Le _ _ hi2 hk10).1 _ _) (cwV 4 F.1.2.2.2.2 (vgV (vm_5 _ (List.mem_of_getElem? (i := 23) rfl)) (vm_5 _ (List.mem_of_getElem? (i := 24) rfl)) (vm_5 _ (List.mem_of_getElem? (i := 25) rfl)) (vm_4 _ (List.mem_of_getElem? (i := 20) rfl)) (vm_5 _ (List.mem_of_getElem? (i := 9) rfl))) rfl rfl rfl ⟨rfl, by decide, by decide, by decide +kernel⟩ ⟨Nat.le_of_ble_eq_true rfl, Nat.le_of_ble_eq_true rfl⟩) rfl rfl (by decide) rfl hl.1 rfl (Nat.le_of_ble_eq_true rfl) dX9_open_202 ⟨Nat.le_of_ble_eq_true rfl, Nat.le_of_ble_eq_true rfl⟩ hB.2.2.1.1 (fun H locs v σ202 hB hP => ?_)
                    obtain ⟨rfl, z202, hz202, hN202⟩ := hP
                    refine lv_aload hx hb dX9_open_205 (lv_at hl 0 rfl) ?_
                    refine gf_X9_333 F hB dX9_open_207 (hB.2.2.2.2.2.2.2.2.1 _ hj8).1 ?_
                    exact cl_iretX (Nat.le_of_ble_eq_true rfl) F hB hrt dX9_open_210 (by first | exact ⟨⟨_, rfl⟩, SI_open hV hI hj8 hi2 hk10 hp8 (by rw [c54]; decide) (fun f f0 f1 hf => by have q := (hg117 (by have q0 := i_le c124; rw [e0] at q0; exact q0)).1 f f0 f1 hf; rw [eho] at q; exact q) (fun f g f0 f1 g0 g1 hf hgg => by have q := (hg117 (by have q0 := i_le c124; rw [e0] at q0; exact q0)).2 (by rw [hgg]; exact g0) (by rw [hgg]; exact g1) f f0 f1 hf; rw [hgg, hz114] at q; exact q) rfl hz202 hN202⟩ | exact ⟨⟨_, rfl⟩, SI_open hV hI hj8 hi2 hk10 hp8 (by rw [c54]; decide) (fun f f0 f1 hf => absurd hf (bulk f)) (fun f g f0 f1 g0 g1 hf _ => absurd hf (bulk f)) rfl hz202 hN202⟩ | exact absurd c82 c175 | exact absurd c175 c82 | fail "no road")
              · exact cl_thr (NC := 3) (vi_throwSW (WS := _ :: vWall) (text := "there is no phase") (ik := 139) (is := 311) (ic := 143) (X := "java/lang/UnsupportedOperationException") F.1.1 F.1.2.1 hst F.1.2.2.2.2 F.1.2.2.2.1 (by decide) (by decide) hT (by decide) (List.mem_cons_of_mem _ (vm_4 _ (List.mem_of_getElem? (i := 27) rfl))) (List.mem_cons_of_mem _ (vm_4 _ (List.mem_of_getElem? (i := 28) rfl))) (fun w h => List.mem_cons_of_mem _ (vmx_1 w h)) (by decide +kernel) (by decide +kernel) (by decide) F.1.2.2.1 (by decide +kernel) (by decide +kernel) (by decide +kernel) (by decide +kernel) (by decide +kernel) hout F.2.2.2 (Nat.le_of_ble_eq_true rfl) (Nat.le_of_ble_eq_true rfl) ⟨Nat.le_refl _, Nat.le_refl _⟩ (Nat.le_refl _) (fun _ h => h)) hB vi_kept_rf (Nat.le_of_ble_eq_true rfl) (by decide) hl.1
          · exact cl_thr (NC := 3) (vi_throwSW (WS := _ :: vWall) (text := "no pipe can be opened for it") (ik := 139) (is := 299) (ic := 143) (X := "java/lang/UnsupportedOperationException") F.1.1 F.1.2.1 hst F.1.2.2.2.2 F.1.2.2.2.1 (by decide) (by decide) hT (by decide) (List.mem_cons_of_mem _ (vm_4 _ (List.mem_of_getElem? (i := 27) rfl))) (List.mem_cons_of_mem _ (vm_4 _ (List.mem_of_getElem? (i := 28) rfl))) (fun w h => List.mem_cons_of_mem _ (vmx_1 w h)) (by decide +kernel) (by decide +kernel) (by decide) F.1.2.2.1 (by decide +kernel) (by decide +kernel) (by decide +kernel) (by decide +kernel) (by decide +kernel) hout F.2.2.2 (Nat.le_of_ble_eq_true rfl) (Nat.le_of_ble_eq_true rfl) ⟨Nat.le_refl _, Nat.le_refl _⟩ (Nat.le_refl _) (fun _ h => h)) hB vi_kept_rf (Nat.le_of_ble_eq_true rfl) (by decide) hl.1
      · exact cl_thr (NC := 3) (vi_throwSW (WS := _ :: vWall) (text := "no such kind or interval") (ik := 92) (is := 294) (ic := 96) (X := "java/lang/IllegalArgumentException") F.1.1 F.1.2.1 hst F.1.2.2.2.2 F.1.2.2.2.1 (by decide) (by decide) hT (by decide) (List.mem_cons_of_mem _ (vm_4 _ (List.mem_of_getElem? (i := 14) rfl))) (List.mem_cons_of_mem _ (vm_4 _ (List.mem_of_getElem? (i := 15) rfl))) (fun w h => List.mem_cons_of_mem _ (vmx_2 w h)) (by decide +kernel) (by decide +kernel) (by decide) F.1.2.2.1 (by decide +kernel) (by decide +kernel) (by decide +kernel) (by decide +kernel) (by decide +kernel) hout F.2.2.2 (Nat.le_of_ble_eq_true rfl) (Nat.le_of_ble_eq_true rfl) ⟨Nat.le_refl _, Nat.le_refl _⟩ (Nat.le_refl _) (fun _ h => h)) hB vi_kept_rf (Nat.le_of_ble_eq_true rfl) (by decide) hl.1
end CLK13
