section CLK14
theorem mn1 {x y : Int32} : (if y < x then y else x).toInt ≤ y.toInt ∧ (if y < x then y else x).toInt ≤ x.toInt ∧ ((if y < x then y else x).toInt = y.toInt ∨ (if y < x then y else x).toInt = x.toInt) := by
  by_cases c : y < x
  · rw [if_pos c]; have := i_lt c; omega
  · rw [if_neg c]; have := i_nlt c; omega
theorem en_un {cy : Nat → ClassId} {ad τ : List Nat} {Y : CY} {σ : SG} {e : Nat} (hV : VL cy ad τ Y σ) (ht : sgT σ e = 8) : -2147483648 ≤ (sgI σ e 5).toInt ∧ (sgI σ e 5).toInt ≤ 8 := VT_in (ci := 7) (t := 0) hV.1 ht (by decide) rfl (by decide) (by decide +kernel)
theorem rem12 {x : Int32} (h : 0 ≤ x.toInt) (h2 : x.toInt ≤ 100) : 0 ≤ (x - x / 12 * 12).toInt ∧ (x - x / 12 * 12).toInt ≤ 11 := by
  have e : (12 : Int32).toInt = 12 := rfl
  obtain ⟨-, z, hz, q1, q2⟩ := vi_n_rem (ad := []) (τ := []) (x := x) (y := 12) (a := 0) (b := 100) (c := 12) (d := 12) h h2 (by rw [e]; decide) (by rw [e]; decide) (r := (1, 0, 11)) (by decide)
  have hz := Value.int.inj hz
  rw [hz]
  exact ⟨q1, q2⟩

theorem dX0_add_0 : decode cX0_add 0 = .ok (.aload_n 0, 1) := by decide +kernel
theorem dX0_add_1 : decode cX0_add 1 = .ok (.getfield 9, 3) := by decide +kernel
theorem dX0_add_4 : decode cX0_add 4 = .ok (.aload_n 0, 1) := by decide +kernel
theorem dX0_add_5 : decode cX0_add 5 = .ok (.getfield 15, 3) := by decide +kernel
theorem dX0_add_8 : decode cX0_add 8 = .ok (.aload_n 0, 1) := by decide +kernel
theorem dX0_add_9 : decode cX0_add 9 = .ok (.getfield 19, 3) := by decide +kernel
theorem dX0_add_12 : decode cX0_add 12 = .ok (.iadd, 1) := by decide +kernel
theorem dX0_add_13 : decode cX0_add 13 = .ok (.bipush 31, 2) := by decide +kernel
theorem dX0_add_15 : decode cX0_add 15 = .ok (.iand, 1) := by decide +kernel
theorem dX0_add_16 : decode cX0_add 16 = .ok (.iload_n 1, 1) := by decide +kernel
theorem dX0_add_17 : decode cX0_add 17 = .ok (.iastore, 1) := by decide +kernel
theorem dX0_add_18 : decode cX0_add 18 = .ok (.aload_n 0, 1) := by decide +kernel
theorem dX0_add_19 : decode cX0_add 19 = .ok (.dup, 1) := by decide +kernel
theorem dX0_add_20 : decode cX0_add 20 = .ok (.getfield 22, 3) := by decide +kernel
theorem dX0_add_23 : decode cX0_add 23 = .ok (.iconst 1, 1) := by decide +kernel
theorem dX0_add_24 : decode cX0_add 24 = .ok (.iadd, 1) := by decide +kernel
theorem dX0_add_25 : decode cX0_add 25 = .ok (.putfield 22, 3) := by decide +kernel
theorem dX0_add_28 : decode cX0_add 28 = .ok (.aload_n 0, 1) := by decide +kernel
theorem dX0_add_29 : decode cX0_add 29 = .ok (.getfield 19, 3) := by decide +kernel
theorem dX0_add_32 : decode cX0_add 32 = .ok (.bipush 32, 2) := by decide +kernel
theorem dX0_add_34 : decode cX0_add 34 = .ok (.if_icmp .ge 16, 3) := by decide +kernel
theorem dX0_add_37 : decode cX0_add 37 = .ok (.aload_n 0, 1) := by decide +kernel
theorem dX0_add_38 : decode cX0_add 38 = .ok (.dup, 1) := by decide +kernel
theorem dX0_add_39 : decode cX0_add 39 = .ok (.getfield 19, 3) := by decide +kernel
theorem dX0_add_42 : decode cX0_add 42 = .ok (.iconst 1, 1) := by decide +kernel
theorem dX0_add_43 : decode cX0_add 43 = .ok (.iadd, 1) := by decide +kernel
theorem dX0_add_44 : decode cX0_add 44 = .ok (.putfield 19, 3) := by decide +kernel
theorem dX0_add_47 : decode cX0_add 47 = .ok (.goto 16, 3) := by decide +kernel
theorem dX0_add_50 : decode cX0_add 50 = .ok (.aload_n 0, 1) := by decide +kernel
theorem dX0_add_51 : decode cX0_add 51 = .ok (.aload_n 0, 1) := by decide +kernel
theorem dX0_add_52 : decode cX0_add 52 = .ok (.getfield 15, 3) := by decide +kernel
theorem dX0_add_55 : decode cX0_add 55 = .ok (.iconst 1, 1) := by decide +kernel
theorem dX0_add_56 : decode cX0_add 56 = .ok (.iadd, 1) := by decide +kernel
theorem dX0_add_57 : decode cX0_add 57 = .ok (.bipush 31, 2) := by decide +kernel
theorem dX0_add_59 : decode cX0_add 59 = .ok (.iand, 1) := by decide +kernel
theorem dX0_add_60 : decode cX0_add 60 = .ok (.putfield 15, 3) := by decide +kernel
theorem dX0_add_63 : decode cX0_add 63 = .ok (.return_, 1) := by decide +kernel
set_option maxRecDepth 100000 in
set_option maxHeartbeats 4000000 in
theorem k_add (l : Launch) (D : va_G) (cy : Nat → ClassId) {ad τ : List Nat} {Y : CY} {σ : SG} (hV : VL cy ad τ Y σ) {a : Nat} (ht : sgT σ a = 6) (hq : ∃ q : Nat, τ[q]? = some 3 ∧ ad[q]? = some a) (x : Int32) (sz : Nat) : clM l D cy ad τ Y σ sz yX0_add (Cond.code yX0_add cX0_add 2 none :: vWall) 0 0 [.ref a, .int x] (fun v s2 => v = none ∧ adR Y a σ s2 ∧ sgI s2 a 3 = sgI σ a 3 + 1) := by
  refine cl_ofW (cc := cX0_add) (maxL := 2) (ret := none) hV (by decide) rfl (Nat.le_of_ble_eq_true rfl) (lv := [(0, .ref a), (1, .int x)]) rfl (fun p e s m below meth c ls H hrt hnm F hB hl => ?_) sz
  have hx := F.1.1
  have hb := F.1.2.1
  have hown := F.1.2.2.2.1
  obtain ⟨c0, hc0, tc0, qc0⟩ := VT_nn (ci := 5) (k := 0) (kd := 10) hV.1 ht (by decide) rfl (by decide +kernel)
  have h31 := c_and31 (sgI σ a 1 + sgI σ a 2)
  have nN : sgN σ c0 = 32 := (kd_N hV.1 qc0).2
  have tc : sgT σ c0 = 100 := tc0.trans (by decide)
  have na : ¬ a = c0 := fun z => by rw [z, tc] at ht; exact absurd ht (by decide)
  have n1 := kd_ne hV.1 qc0 (yhk hV).1 (by decide)
  have n2 := kd_ne hV.1 qc0 (yhk hV).2 (by decide)
  refine lv_aload_n hx hb dX0_add_0 rfl (lv_at hl 0 rfl) ?_
  refine gr_X0_9 F hB dX0_add_1 ht hc0 ?_
  refine lv_aload_n hx hb dX0_add_4 rfl (lv_at hl 0 rfl) ?_
  refine gf_X0_15 F hB dX0_add_5 ht ?_
  refine lv_aload_n hx hb dX0_add_8 rfl (lv_at hl 0 rfl) ?_
  refine gf_X0_19 F hB dX0_add_9 ht ?_
  refine lv_iadd hx hb dX0_add_12 ?_
  refine lv_bipush (v := 31) hx hb dX0_add_13 (by decide) ?_
  refine lv_iand hx hb dX0_add_15 ?_
  refine lv_iload_n hx hb dX0_add_16 rfl (lv_at hl 1 rfl) ?_
  refine cl_iast F hB dX0_add_17 tc (by omega) (by rw [nN]; omega) (by rw [nN]; decide) (fun H locs hBn => ?_)
  clear hB; have hB := hBn; clear hBn
  refine lv_aload_n hx hb dX0_add_18 rfl (lv_at hl 0 rfl) ?_
  refine lv_dup hx hb dX0_add_19 rfl ?_
  refine gf_X0_22 F hB dX0_add_20 ht ?_
  rw [sgI_PI, if_neg (fun z => na z.1)]
  refine lv_iconst (v := 1) hx hb dX0_add_23 (by decide) ?_
  refine lv_iadd hx hb dX0_add_24 ?_
  refine pf_X0_22 F hB dX0_add_25 ht (fun H locs hBn => ?_)
  clear hB; have hB := hBn; clear hBn
  refine lv_aload_n hx hb dX0_add_28 rfl (lv_at hl 0 rfl) ?_
  refine gf_X0_19 F hB dX0_add_29 ht ?_
  refine lv_bipush (v := 32) hx hb dX0_add_32 (by decide) ?_
  refine lv_icmp_ge (tgt := 50) hx hb dX0_add_34 (by decide) (fun c34 => ?_) (fun c34 => ?_)
  · refine lv_aload_n hx hb dX0_add_50 rfl (lv_at hl 0 rfl) ?_
    refine lv_aload_n hx hb dX0_add_51 rfl (lv_at hl 0 rfl) ?_
    refine gf_X0_15 F hB dX0_add_52 ht ?_
    refine lv_iconst (v := 1) hx hb dX0_add_55 (by decide) ?_
    refine lv_iadd hx hb dX0_add_56 ?_
    refine lv_bipush (v := 31) hx hb dX0_add_57 (by decide) ?_
    refine lv_iand hx hb dX0_add_59 ?_
    refine pf_X0_15 F hB dX0_add_60 ht (fun H locs hBn => ?_)
    clear hB; have hB := hBn; clear hBn
    exact cl_vret F hB hrt dX0_add_63 (by first | exact ⟨rfl, adR_ok hV ht tc n1 n2 (Or.inr rfl)⟩ | exact ⟨rfl, adR_ok hV ht tc n1 n2 (Or.inl rfl)⟩ | fail "no road")
  · refine lv_aload_n hx hb dX0_add_37 rfl (lv_at hl 0 rfl) ?_
    refine lv_dup hx hb dX0_add_38 rfl ?_
    refine gf_X0_19 F hB dX0_add_39 ht ?_
    refine lv_iconst (v := 1) hx hb dX0_add_42 (by decide) ?_
    refine lv_iadd hx hb dX0_add_43 ?_
    refine pk_X0_19 F hB dX0_add_44 ht hq (fun H locs hBn => ?_)
    clear hB; have hB := hBn; clear hBn
    refine lv_goto (tgt := 63) hx hb dX0_add_47 (by decide) ?_
    exact cl_vret F hB hrt dX0_add_63 (by first | exact ⟨rfl, adR_ok hV ht tc n1 n2 (Or.inr rfl)⟩ | exact ⟨rfl, adR_ok hV ht tc n1 n2 (Or.inl rfl)⟩ | fail "no road")

theorem dX2_takeFrom_0 : decode cX2_takeFrom 0 = .ok (.iconst 0, 1) := by decide +kernel
theorem dX2_takeFrom_1 : decode cX2_takeFrom 1 = .ok (.istore_n 3, 1) := by decide +kernel
theorem dX2_takeFrom_2 : decode cX2_takeFrom 2 = .ok (.iload_n 3, 1) := by decide +kernel
theorem dX2_takeFrom_3 : decode cX2_takeFrom 3 = .ok (.iload_n 2, 1) := by decide +kernel
theorem dX2_takeFrom_4 : decode cX2_takeFrom 4 = .ok (.if_icmp .ge 30, 3) := by decide +kernel
theorem dX2_takeFrom_7 : decode cX2_takeFrom 7 = .ok (.aload_n 0, 1) := by decide +kernel
theorem dX2_takeFrom_8 : decode cX2_takeFrom 8 = .ok (.getfield 12, 3) := by decide +kernel
theorem dX2_takeFrom_11 : decode cX2_takeFrom 11 = .ok (.aload_n 1, 1) := by decide +kernel
theorem dX2_takeFrom_12 : decode cX2_takeFrom 12 = .ok (.getfield 25, 3) := by decide +kernel
theorem dX2_takeFrom_15 : decode cX2_takeFrom 15 = .ok (.aload_n 1, 1) := by decide +kernel
theorem dX2_takeFrom_16 : decode cX2_takeFrom 16 = .ok (.getfield 30, 3) := by decide +kernel
theorem dX2_takeFrom_19 : decode cX2_takeFrom 19 = .ok (.iload_n 3, 1) := by decide +kernel
theorem dX2_takeFrom_20 : decode cX2_takeFrom 20 = .ok (.iadd, 1) := by decide +kernel
theorem dX2_takeFrom_21 : decode cX2_takeFrom 21 = .ok (.bipush 15, 2) := by decide +kernel
theorem dX2_takeFrom_23 : decode cX2_takeFrom 23 = .ok (.iand, 1) := by decide +kernel
theorem dX2_takeFrom_24 : decode cX2_takeFrom 24 = .ok (.iaload, 1) := by decide +kernel
theorem dX2_takeFrom_25 : decode cX2_takeFrom 25 = .ok (.invokevirtual 34, 3) := by decide +kernel
theorem dX2_takeFrom_28 : decode cX2_takeFrom 28 = .ok (.iinc 3 1, 3) := by decide +kernel
theorem dX2_takeFrom_31 : decode cX2_takeFrom 31 = .ok (.goto (-29), 3) := by decide +kernel
theorem dX2_takeFrom_34 : decode cX2_takeFrom 34 = .ok (.return_, 1) := by decide +kernel
set_option maxRecDepth 100000 in
set_option maxHeartbeats 4000000 in
theorem k_tkf (l : Launch) (D : va_G) (cy : Nat → ClassId) {ad τ : List Nat} {Y : CY} {σ : SG} (hV : VL cy ad τ Y σ) {j i k T : Nat} (hj : j < 12) (hi : i < 16) (hk : k < 3) (hT : T < 4) (n : Int32) (h0 : 0 ≤ n.toInt) (hb9 : (sgI σ (yr Y i k) 3).toInt + n.toInt ≤ 2147483647) (sz : Nat) : clM l D cy ad τ Y σ sz yX2_takeFrom (Cond.code yX2_takeFrom cX2_takeFrom 4 none :: vWall) 1 21 [.ref (ye Y i k), .ref (yt Y j T), .int n] (fun v s2 => v = none ∧ adR Y (yr Y i k) σ s2 ∧ (sgI σ (yr Y i k) 3).toInt + n.toInt = (sgI s2 (yr Y i k) 3).toInt) := by
  refine cl_ofW (cc := cX2_takeFrom) (maxL := 4) (ret := none) hV (by decide) rfl (Nat.le_of_ble_eq_true rfl) (lv := [(0, .ref (ye Y i k)), (1, .ref (yt Y j T)), (2, .int n)]) rfl (fun p e s m below meth c ls H hrt hnm F hB hl => ?_) sz
  have hx := F.1.1
  have hb := F.1.2.1
  have hown := F.1.2.2.2.1
  generalize hlo : ([] : List Loc) = locs at hB ⊢
  clear hlo
  obtain ⟨LX, LD, Ld, LE, Le, LP9, Lp, Lt, LU, LA, Lz⟩ := hV.2
  have e0 : (0 : Int32).toInt = 0 := rfl
  have e1 : (1 : Int32).toInt = 1 := rfl
  have e16 : (16 : Int32).toInt = 16 := rfl
  have e12 : (12 : Int32).toInt = 12 := rfl
  have e4 : (4 : Int32).toInt = 4 := rfl
  have e8 : (8 : Int32).toInt = 8 := rfl
  refine lv_iconst (v := 0) hx hb dX2_takeFrom_0 (by decide) ?_
  refine lv_istore_n (lv' := [(3, .int _), (0, .ref _), (1, .ref _), (2, .int _)]) hx hb dX2_takeFrom_1 rfl hl (by decide) rfl (fun ls hl => ?_)
  have key2 : ∃ (i3 : Int32) (σ3 : SG), clB D cy ad τ Y s σ3 H locs ∧ lv_has ls 4 [(3, .int i3), (2, .int n), (1, .ref (yt Y j T)), (0, .ref (ye Y i k))] ∧ (0 ≤ i3.toInt ∧ i3.toInt ≤ n.toInt) ∧ adR Y (yr Y i k) σ σ3 ∧ (sgI σ (yr Y i k) 3).toInt + i3.toInt = (sgI σ3 (yr Y i k) 3).toInt := ⟨_, _, hB, (lv_sub hl [0, 3, 2, 1] rfl), ⟨by decide, by rw [e0]; exact h0⟩, adR_rf, by rw [e0]; omega⟩
  clear hB hl
  obtain ⟨i3, σ3, hB, hl, hi3, hR3, hs3⟩ := key2
  obtain ⟨d2, hd2⟩ : ∃ d : Nat, d = (n.toInt - i3.toInt).toNat := ⟨_, rfl⟩
  induction d2 using Nat.strongRecOn generalizing H locs ls i3 σ3
  rename_i d2 ih2
  have hV3 := hB.2
  obtain ⟨LX3, LD3, Ld3, LE3, Le3, LP93, Lp3, Lt3, LU3, LA3, Lz3⟩ := hV3.2
  have tT := ((Lt3 _ hj).2.2 _ hT).2
  obtain ⟨c0, hc0, tc0, qc0⟩ := VT_nn (ci := 12) (k := 0) (kd := 11) hV3.1 tT (by decide) rfl (by decide +kernel)
  have nN : sgN σ3 c0 = 16 := (kd_N hV3.1 qc0).2
  have h15 := c_and15 (sgI σ3 (yt Y j T) 2 + i3)
  refine lv_iload_n hx hb dX2_takeFrom_2 rfl (lv_at hl 0 rfl) ?_
  refine lv_iload_n hx hb dX2_takeFrom_3 rfl (lv_at hl 1 rfl) ?_
  refine lv_icmp_ge (tgt := 34) hx hb dX2_takeFrom_4 (by decide) (fun c4 => ?_) (fun c4 => ?_)
  · exact cl_vret F hB hrt dX2_takeFrom_34 (⟨rfl, hR3, by rw [← hs3]; have := i_le c4; omega⟩)
  · refine lv_aload_n hx hb dX2_takeFrom_7 rfl (lv_at hl 3 rfl) ?_
    have h4 := i_nle c4
    refine gr_X2_12 F hB dX2_takeFrom_8 (Le3 _ _ hi hk).1 (Le3 _ _ hi hk).2.1 ?_
    refine lv_aload_n hx hb dX2_takeFrom_11 rfl (lv_at hl 2 rfl) ?_
    refine gr_X2_25 F hB dX2_takeFrom_12 tT hc0 ?_
    refine lv_aload_n hx hb dX2_takeFrom_15 rfl (lv_at hl 2 rfl) ?_
    refine gf_X2_30 F hB dX2_takeFrom_16 tT ?_
    refine lv_iload_n hx hb dX2_takeFrom_19 rfl (lv_at hl 0 rfl) ?_
    refine lv_iadd hx hb dX2_takeFrom_20 ?_
    refine lv_bipush (v := 15) hx hb dX2_takeFrom_21 (by decide) ?_
    refine lv_iand hx hb dX2_takeFrom_23 ?_
    refine sg_iald hx hb F.2.1 hB.1 dX2_takeFrom_24 (tc0.trans (by decide)) (by omega) (by rw [nN]; omega) (by rw [nN]; decide) ?_
    refine cl_callN (ci := 5) F hB (k_add l D cy hB.2 (Le3 _ _ hi hk).2.2 (en_row hV3 hi hk) _ _) ⟨va_cnB 1 F.1.2.2.2.2 (vgN (vm_0 _ (List.mem_of_getElem? (i := 6) rfl))) rfl rfl rfl (F.2.2.1.1 _ nf_139) (F.1.2.2.2.2 _ (List.mem_cons_of_mem _ (vm_0 _ (List.mem_of_getElem? (i := 23) rfl)))) ⟨by decide, by decide, by decide +kernel⟩ ⟨Nat.le_of_ble_eq_true rfl, Nat.le_of_ble_eq_true rfl⟩, F.1.2.2.2.2 _ (List.mem_cons_of_mem _ (vm_1 _ (List.mem_of_getElem? (i := 13) rfl))), F.1.2.2.2.2 _ (List.mem_cons_of_mem _ (vm_1 _ (List.mem_of_getElem? (i := 14) rfl)))⟩ rfl rfl (by decide) rfl hl.1 rfl (Nat.le_of_ble_eq_true rfl) dX2_takeFrom_25 ⟨Nat.le_of_ble_eq_true rfl, Nat.le_of_ble_eq_true rfl⟩ (Le3 _ _ hi hk).2.2 (fun H locs v σ25 hB hP => ?_)
    obtain ⟨rfl, hR25, hx25⟩ := hP
    refine lv_iinc (lv' := [(3, .int _), (2, .int _), (1, .ref _), (0, .ref _)]) hx hb dX2_takeFrom_28 hl (k := 0) rfl rfl (by decide) rfl (fun ls hl => ?_)
    refine lv_goto (tgt := 2) hx hb dX2_takeFrom_31 (by decide) ?_
    have hn9 := Int32.toInt_lt n
    have q9 := cl_add1 (x := i3) (by omega) (by omega)
    exact ih2 _ (by subst hd2; rw [q9]; omega) _ _ _ _ _ hB (lv_sub hl [0, 1, 2, 3] rfl) ⟨by rw [q9]; omega, by rw [q9]; omega⟩ (adR_tr hR3 hR25) (by rw [q9]; exact adR_n hs3 hx25 (by omega)) rfl

theorem dX9_load_0 : decode cX9_load 0 = .ok (.aload_n 0, 1) := by decide +kernel
theorem dX9_load_1 : decode cX9_load 1 = .ok (.iload_n 1, 1) := by decide +kernel
theorem dX9_load_2 : decode cX9_load 2 = .ok (.invokevirtual 124, 3) := by decide +kernel
theorem dX9_load_5 : decode cX9_load 5 = .ok (.iload_n 2, 1) := by decide +kernel
theorem dX9_load_6 : decode cX9_load 6 = .ok (.invokestatic 283, 3) := by decide +kernel
theorem dX9_load_9 : decode cX9_load 9 = .ok (.astore_n 3, 1) := by decide +kernel
theorem dX9_load_10 : decode cX9_load 10 = .ok (.aload_n 3, 1) := by decide +kernel
theorem dX9_load_11 : decode cX9_load 11 = .ok (.getfield 144, 3) := by decide +kernel
theorem dX9_load_14 : decode cX9_load 14 = .ok (.ifCond .ne 14, 3) := by decide +kernel
theorem dX9_load_17 : decode cX9_load 17 = .ok (.new 139, 3) := by decide +kernel
theorem dX9_load_28 : decode cX9_load 28 = .ok (.aload_n 3, 1) := by decide +kernel
theorem dX9_load_29 : decode cX9_load 29 = .ok (.getfield 395, 3) := by decide +kernel
theorem dX9_load_32 : decode cX9_load 32 = .ok (.getfield 266, 3) := by decide +kernel
theorem dX9_load_35 : decode cX9_load 35 = .ok (.aload_n 0, 1) := by decide +kernel
theorem dX9_load_36 : decode cX9_load 36 = .ok (.getfield 35, 3) := by decide +kernel
theorem dX9_load_39 : decode cX9_load 39 = .ok (.getfield 266, 3) := by decide +kernel
theorem dX9_load_42 : decode cX9_load 42 = .ok (.iadd, 1) := by decide +kernel
theorem dX9_load_43 : decode cX9_load 43 = .ok (.bipush 32, 2) := by decide +kernel
theorem dX9_load_45 : decode cX9_load 45 = .ok (.if_icmp .le 14, 3) := by decide +kernel
theorem dX9_load_48 : decode cX9_load 48 = .ok (.new 101, 3) := by decide +kernel
theorem dX9_load_59 : decode cX9_load 59 = .ok (.iconst 0, 1) := by decide +kernel
theorem dX9_load_60 : decode cX9_load 60 = .ok (.istore 4, 2) := by decide +kernel
theorem dX9_load_62 : decode cX9_load 62 = .ok (.iload 4, 2) := by decide +kernel
theorem dX9_load_64 : decode cX9_load 64 = .ok (.aload_n 0, 1) := by decide +kernel
theorem dX9_load_65 : decode cX9_load 65 = .ok (.getfield 35, 3) := by decide +kernel
theorem dX9_load_68 : decode cX9_load 68 = .ok (.getfield 266, 3) := by decide +kernel
theorem dX9_load_71 : decode cX9_load 71 = .ok (.if_icmp .ge 25, 3) := by decide +kernel
theorem dX9_load_74 : decode cX9_load 74 = .ok (.aload_n 3, 1) := by decide +kernel
theorem dX9_load_75 : decode cX9_load 75 = .ok (.getfield 395, 3) := by decide +kernel
theorem dX9_load_78 : decode cX9_load 78 = .ok (.aload_n 0, 1) := by decide +kernel
theorem dX9_load_79 : decode cX9_load 79 = .ok (.getfield 35, 3) := by decide +kernel
theorem dX9_load_82 : decode cX9_load 82 = .ok (.iload 4, 2) := by decide +kernel
theorem dX9_load_84 : decode cX9_load 84 = .ok (.invokevirtual 278, 3) := by decide +kernel
theorem dX9_load_87 : decode cX9_load 87 = .ok (.invokevirtual 271, 3) := by decide +kernel
theorem dX9_load_90 : decode cX9_load 90 = .ok (.iinc 4 1, 3) := by decide +kernel
theorem dX9_load_93 : decode cX9_load 93 = .ok (.goto (-31), 3) := by decide +kernel
theorem dX9_load_96 : decode cX9_load 96 = .ok (.aload_n 0, 1) := by decide +kernel
theorem dX9_load_97 : decode cX9_load 97 = .ok (.getfield 35, 3) := by decide +kernel
theorem dX9_load_100 : decode cX9_load 100 = .ok (.aload_n 0, 1) := by decide +kernel
theorem dX9_load_101 : decode cX9_load 101 = .ok (.getfield 35, 3) := by decide +kernel
theorem dX9_load_104 : decode cX9_load 104 = .ok (.getfield 266, 3) := by decide +kernel
theorem dX9_load_107 : decode cX9_load 107 = .ok (.invokevirtual 274, 3) := by decide +kernel
theorem dX9_load_110 : decode cX9_load 110 = .ok (.aload_n 3, 1) := by decide +kernel
theorem dX9_load_111 : decode cX9_load 111 = .ok (.getfield 395, 3) := by decide +kernel
theorem dX9_load_114 : decode cX9_load 114 = .ok (.getfield 266, 3) := by decide +kernel
theorem dX9_load_117 : decode cX9_load 117 = .ok (.ireturn, 1) := by decide +kernel
set_option maxRecDepth 100000 in
set_option maxHeartbeats 4000000 in
theorem k_load (l : Launch) (D : va_G) (cy : Nat → ClassId) {ad τ : List Nat} {Y : CY} {σ : SG} (hst : l.stackTraces = false) (hs : vi_s1 vSG τ) (hV : VL cy ad τ Y σ) {B : Int} (hI : SI Y σ B) (x1 x2 : Int32) (sz : Nat) : clX l D cy ad τ Y σ sz yX9_load (Cond.code yX9_load cX9_load 5 (some .int) :: vWall) 7 111 3 [.ref (yX Y), .int x1, .int x2] (fun v s2 => (∃ x : Int32, v = some (.int x)) ∧ SI Y s2 B) ["java/lang/UnsupportedOperationException", "java/lang/IllegalStateException", "java/lang/IndexOutOfBoundsException"] := by
  refine cl_ofX (cc := cX9_load) (maxL := 5) (ret := (some .int)) hV (by decide) rfl (Nat.le_of_ble_eq_true rfl) (lv := [(0, .ref (yX Y)), (1, .int x1), (2, .int x2)]) rfl (fun p e s m below meth c ls H hrt F hT hout hB hl => ?_) sz
  have hx := F.1.1
  have hb := F.1.2.1
  have hown := F.1.2.2.2.1
  generalize hlo : ([] : List Loc) = locs at hB ⊢
  clear hlo
  obtain ⟨LX, LD, Ld, LE, Le, LP9, Lp, Lt, LU, LA, Lz⟩ := hV.2
  have e0 : (0 : Int32).toInt = 0 := rfl
  have e1 : (1 : Int32).toInt = 1 := rfl
  have e16 : (16 : Int32).toInt = 16 := rfl
  have e12 : (12 : Int32).toInt = 12 := rfl
  have e4 : (4 : Int32).toInt = 4 := rfl
  have e8 : (8 : Int32).toInt = 8 := rfl
  refine lv_aload_n hx hb dX9_load_0 rfl (lv_at hl 0 rfl) ?_
  refine lv_iload_n hx hb dX9_load_1 rfl (lv_at hl 1 rfl) ?_
  refine cl_callXV (ci := 14) F hT hout hB vi_kept_rf (k_devAt l D cy hst hB.2 _ _) (cwV 1 F.1.2.2.2.2 (vgV (vm_4 _ (List.mem_of_getElem? (i := 29) rfl)) (vm_4 _ (List.mem_of_getElem? (i := 30) rfl)) (vm_4 _ (List.mem_of_getElem? (i := 31) rfl)) (vm_4 _ (List.mem_of_getElem? (i := 20) rfl)) (vm_4 _ (List.mem_of_getElem? (i := 23) rfl))) rfl rfl rfl ⟨rfl, by decide, by decide, by decide +kernel⟩ ⟨Nat.le_of_ble_eq_true rfl, Nat.le_of_ble_eq_true rfl⟩) rfl rfl (by decide) rfl hl.1 rfl (Nat.le_of_ble_eq_true rfl) dX9_load_2 ⟨Nat.le_of_ble_eq_true rfl, Nat.le_of_ble_eq_true rfl⟩ (by decide) (Nat.le_of_ble_eq_true rfl) LX.1 (fun H locs v σ2 hB hP => ?_)
  obtain ⟨⟨i2, hi2, ex2, hc2, rfl⟩, rfl⟩ := hP
  refine lv_iload_n hx hb dX9_load_5 rfl (lv_at hl 2 rfl) ?_
  refine cl_callXS F hT hout hB vi_kept_rf (k_epAt l D cy hst hB.2 hi2 _ _) (cwS 2 F.1.2.2.2.2 (vgS (vm_8 _ (List.mem_of_getElem? (i := 1) rfl)) (vm_8 _ (List.mem_of_getElem? (i := 2) rfl)) (vm_4 _ (List.mem_of_getElem? (i := 20) rfl)) (vm_7 _ (List.mem_of_getElem? (i := 35) rfl))) rfl rfl rfl ⟨rfl, by decide, by decide, by decide +kernel⟩ ⟨Nat.le_of_ble_eq_true rfl, Nat.le_of_ble_eq_true rfl⟩) rfl hl.1 rfl (Nat.le_of_ble_eq_true rfl) dX9_load_6 ⟨Nat.le_of_ble_eq_true rfl, Nat.le_of_ble_eq_true rfl⟩ (by decide) (Nat.le_of_ble_eq_true rfl) (fun H locs v σ6 hB hP => ?_)
  obtain ⟨⟨k6, hk6, rfl, hm6⟩, rfl⟩ := hP
  refine lv_astore_n (lv' := [(3, .ref _), (0, .ref _), (1, .int _), (2, .int _)]) hx hb dX9_load_9 rfl hl (by decide) rfl (fun ls hl => ?_)
  refine lv_aload_n hx hb dX9_load_10 rfl (lv_at hl 0 rfl) ?_
  refine gf_X9_144 F hB dX9_load_11 (Le _ _ hi2 hk6).1 ?_
  refine lv_if_ne (tgt := 28) hx hb dX9_load_14 (by decide) (fun c14 => ?_) (fun c14 => ?_)
  · refine lv_aload_n hx hb dX9_load_28 rfl (lv_at hl 0 rfl) ?_
    refine gr_X9_395 F hB dX9_load_29 (Le _ _ hi2 hk6).1 (Le _ _ hi2 hk6).2.1 ?_
    refine gf_X9_266 F hB dX9_load_32 (Le _ _ hi2 hk6).2.2 ?_
    refine lv_aload_n hx hb dX9_load_35 rfl (lv_at hl 1 rfl) ?_
    refine gr_X9_35 F hB dX9_load_36 LX.1 LX.2.2.2.2.1 ?_
    refine gf_X9_266 F hB dX9_load_39 (ty_T hV).1 ?_
    refine lv_iadd hx hb dX9_load_42 ?_
    refine lv_bipush (v := 32) hx hb dX9_load_43 (by decide) ?_
    refine lv_icmp_le (tgt := 59) hx hb dX9_load_45 (by decide) (fun c45 => ?_) (fun c45 => ?_)
    · refine lv_iconst (v := 0) hx hb dX9_load_59 (by decide) ?_
      refine lv_istore (lv' := [(4, .int _), (3, .ref _), (0, .ref _), (1, .int _), (2, .int _)]) hx hb dX9_load_60 hl (by decide) rfl (fun ls hl => ?_)
      have key62 : ∃ (i4 : Int32) (σ3 : SG), clB D cy ad τ Y s σ3 H locs ∧ lv_has ls 5 [(4, .int i4), (3, .ref (ye Y i2 k6)), (2, .int x2), (1, .int x1), (0, .ref (yX Y))] ∧ (0 ≤ i4.toInt ∧ i4.toInt ≤ 16) ∧ SI Y σ3 B ∧ ¬ sgI σ3 (ye Y i2 k6) 1 = 0 := ⟨_, _, hB, (lv_sub hl [0, 1, 4, 3, 2] rfl), ⟨by decide, by decide⟩, hI, c14⟩
      clear hB hl
      obtain ⟨i4, σ3, hB, hl, hi4, hI3, hin3⟩ := key62
      obtain ⟨d62, hd62⟩ : ∃ d : Nat, d = 20 - i4.toInt.toNat := ⟨_, rfl⟩
      induction d62 using Nat.strongRecOn generalizing H locs ls i4 σ3
      rename_i d62 ih62
      have hV3 := hB.2
      obtain ⟨LX3, LD3, Ld3, LE3, Le3, LP93, Lp3, Lt3, LU3, LA3, Lz3⟩ := hV3.2
      have sz3 := ty_sz hV3
      refine lv_iload hx hb dX9_load_62 (lv_at hl 0 rfl) ?_
      refine lv_aload_n hx hb dX9_load_64 rfl (lv_at hl 4 rfl) ?_
      refine gr_X9_35 F hB dX9_load_65 LX3.1 LX3.2.2.2.2.1 ?_
      refine gf_X9_266 F hB dX9_load_68 (ty_T hV3).1 ?_
      refine lv_icmp_ge (tgt := 96) hx hb dX9_load_71 (by decide) (fun c71 => ?_) (fun c71 => ?_)
      · refine lv_aload_n hx hb dX9_load_96 rfl (lv_at hl 4 rfl) ?_
        refine gr_X9_35 F hB dX9_load_97 LX3.1 LX3.2.2.2.2.1 ?_
        refine lv_aload_n hx hb dX9_load_100 rfl (lv_at hl 4 rfl) ?_
        refine gr_X9_35 F hB dX9_load_101 LX3.1 LX3.2.2.2.2.1 ?_
        refine gf_X9_266 F hB dX9_load_104 (ty_T hV3).1 ?_
        refine cl_callN (ci := 5) F hB (k_rdr l D cy hB.2  _) ⟨va_cnB 1 F.1.2.2.2.2 (vgN (vm_0 _ (List.mem_of_getElem? (i := 11) rfl))) rfl rfl rfl (F.2.2.1.1 _ nf_124) (F.1.2.2.2.2 _ (List.mem_cons_of_mem _ (vm_0 _ (List.mem_of_getElem? (i := 23) rfl)))) ⟨by decide, by decide, by decide +kernel⟩ ⟨Nat.le_of_ble_eq_true rfl, Nat.le_of_ble_eq_true rfl⟩, F.1.2.2.2.2 _ (List.mem_cons_of_mem _ (vm_1 _ (List.mem_of_getElem? (i := 17) rfl))), F.1.2.2.2.2 _ (List.mem_cons_of_mem _ (vm_1 _ (List.mem_of_getElem? (i := 18) rfl)))⟩ rfl rfl (by decide) rfl hl.1 rfl (Nat.le_of_ble_eq_true rfl) dX9_load_107 ⟨Nat.le_of_ble_eq_true rfl, Nat.le_of_ble_eq_true rfl⟩ (ty_T hV3).1 (fun H locs v σ107 hB hP => ?_)
        obtain ⟨rfl, x127, y127, hE127⟩ := hP
        have hV8 : VL cy ad τ Y (sgPI σ3 (ya Y) 1 x127) := ⟨VT_PI (t := 0) hV3.1 (ty_T hV3).1 (by decide) rfl (by decide) (cl_rg (lo := -2147483648) (hi := 2147483647) (by decide +kernel) (cl_full _)), LY_PI hV3.2 (Or.inl (by decide))⟩
        have hI127 := SI_PI (k := 2) (x := y127) hV8 (SI_PI (k := 1) (x := x127) hV3 hI3 (t := 6) (ty_T hV3).1 rfl (by decide)) (t := 6) (ty_T hV3).1 rfl (by decide)
        rw [hE127] at hI127
        refine lv_aload_n hx hb dX9_load_110 rfl (lv_at hl 1 rfl) ?_
        refine gr_X9_395 F hB dX9_load_111 (hB.2.2.2.2.2.2.1 _ _ hi2 hk6).1 (hB.2.2.2.2.2.2.1 _ _ hi2 hk6).2.1 ?_
        refine gf_X9_266 F hB dX9_load_114 (hB.2.2.2.2.2.2.1 _ _ hi2 hk6).2.2 ?_
        exact cl_iretX (Nat.le_of_ble_eq_true rfl) F hB hrt dX9_load_117 (⟨⟨_, rfl⟩, hI127⟩)
      · refine lv_aload_n hx hb dX9_load_74 rfl (lv_at hl 1 rfl) ?_
        have h71 := i_nle c71
        refine gr_X9_395 F hB dX9_load_75 (Le3 _ _ hi2 hk6).1 (Le3 _ _ hi2 hk6).2.1 ?_
        refine lv_aload_n hx hb dX9_load_78 rfl (lv_at hl 4 rfl) ?_
        refine gr_X9_35 F hB dX9_load_79 LX3.1 LX3.2.2.2.2.1 ?_
        refine lv_iload hx hb dX9_load_82 (lv_at hl 0 rfl) ?_
        refine cl_callN (ci := 5) F hB (k_at l D cy hB.2 (ty_T hV3).1 _ _) ⟨va_cnB 1 F.1.2.2.2.2 (vgN (vm_0 _ (List.mem_of_getElem? (i := 10) rfl))) rfl rfl rfl (F.2.2.1.1 _ nf_125) (F.1.2.2.2.2 _ (List.mem_cons_of_mem _ (vm_0 _ (List.mem_of_getElem? (i := 23) rfl)))) ⟨by decide, by decide, by decide +kernel⟩ ⟨Nat.le_of_ble_eq_true rfl, Nat.le_of_ble_eq_true rfl⟩, F.1.2.2.2.2 _ (List.mem_cons_of_mem _ (vm_7 _ (List.mem_of_getElem? (i := 32) rfl))), F.1.2.2.2.2 _ (List.mem_cons_of_mem _ (vm_7 _ (List.mem_of_getElem? (i := 33) rfl)))⟩ rfl rfl (by decide) rfl hl.1 rfl (Nat.le_of_ble_eq_true rfl) dX9_load_84 ⟨Nat.le_of_ble_eq_true rfl, Nat.le_of_ble_eq_true rfl⟩ (ty_T hV3).1 (fun H locs v σ84 hB hP => ?_)
        obtain ⟨⟨b84, rfl⟩, rfl⟩ := hP
        refine cl_callN (ci := 5) F hB (k_add l D cy hB.2 (Le3 _ _ hi2 hk6).2.2 (en_row hV3 hi2 hk6) _ _) ⟨va_cnB 1 F.1.2.2.2.2 (vgN (vm_0 _ (List.mem_of_getElem? (i := 6) rfl))) rfl rfl rfl (F.2.2.1.1 _ nf_137) (F.1.2.2.2.2 _ (List.mem_cons_of_mem _ (vm_0 _ (List.mem_of_getElem? (i := 23) rfl)))) ⟨by decide, by decide, by decide +kernel⟩ ⟨Nat.le_of_ble_eq_true rfl, Nat.le_of_ble_eq_true rfl⟩, F.1.2.2.2.2 _ (List.mem_cons_of_mem _ (vm_1 _ (List.mem_of_getElem? (i := 13) rfl))), F.1.2.2.2.2 _ (List.mem_cons_of_mem _ (vm_1 _ (List.mem_of_getElem? (i := 14) rfl)))⟩ rfl rfl (by decide) rfl hl.1 rfl (Nat.le_of_ble_eq_true rfl) dX9_load_87 ⟨Nat.le_of_ble_eq_true rfl, Nat.le_of_ble_eq_true rfl⟩ (Le3 _ _ hi2 hk6).2.2 (fun H locs v σ87 hB hP => ?_)
        obtain ⟨rfl, hR87, hx87⟩ := hP
        refine lv_iinc (lv' := [(4, .int _), (3, .ref _), (2, .int _), (1, .int _), (0, .ref _)]) hx hb dX9_load_90 hl (k := 0) rfl rfl (by decide) rfl (fun ls hl => ?_)
        refine lv_goto (tgt := 62) hx hb dX9_load_93 (by decide) ?_
        have q9 := cl_add1 (x := i4) (by omega) (by omega)
        exact ih62 _ (by subst hd62; rw [q9]; omega) _ _ _ _ _ hB (lv_sub hl [0, 1, 2, 3, 4] rfl) ⟨by rw [q9]; omega, by rw [q9]; omega⟩ (SI_ad hV3 hI3 hi2 hk6 hR87 (fun z => absurd z hin3)) (by rw [hR87.2.2.1 _ 1 (by rw [(Le3 _ _ hi2 hk6).1]; decide) (Or.inl (fun z => by have := (Le3 _ _ hi2 hk6).1; rw [z, (Le3 _ _ hi2 hk6).2.2] at this; exact absurd this (by decide)))]; exact hin3) rfl
    · exact cl_thr (NC := 3) (vi_throwSW (WS := _ :: vWall) (text := "more than 32 bytes would wait") (ik := 101) (is := 397) (ic := 105) (X := "java/lang/IllegalStateException") F.1.1 F.1.2.1 hst F.1.2.2.2.2 F.1.2.2.2.1 (by decide) (by decide) hT (by decide) (List.mem_cons_of_mem _ (vm_4 _ (List.mem_of_getElem? (i := 16) rfl))) (List.mem_cons_of_mem _ (vm_4 _ (List.mem_of_getElem? (i := 17) rfl))) (fun w h => List.mem_cons_of_mem _ (vmx_3 w h)) (by decide +kernel) (by decide +kernel) (by decide) F.1.2.2.1 (by decide +kernel) (by decide +kernel) (by decide +kernel) (by decide +kernel) (by decide +kernel) hout F.2.2.2 (Nat.le_of_ble_eq_true rfl) (Nat.le_of_ble_eq_true rfl) ⟨Nat.le_refl _, Nat.le_refl _⟩ (Nat.le_refl _) (fun _ h => h)) hB vi_kept_rf (Nat.le_of_ble_eq_true rfl) (by decide) hl.1
  · exact cl_thr (NC := 3) (vi_throwSW (WS := _ :: vWall) (text := "it goes out of the host") (ik := 139) (is := 372) (ic := 143) (X := "java/lang/UnsupportedOperationException") F.1.1 F.1.2.1 hst F.1.2.2.2.2 F.1.2.2.2.1 (by decide) (by decide) hT (by decide) (List.mem_cons_of_mem _ (vm_4 _ (List.mem_of_getElem? (i := 27) rfl))) (List.mem_cons_of_mem _ (vm_4 _ (List.mem_of_getElem? (i := 28) rfl))) (fun w h => List.mem_cons_of_mem _ (vmx_1 w h)) (by decide +kernel) (by decide +kernel) (by decide) F.1.2.2.1 (by decide +kernel) (by decide +kernel) (by decide +kernel) (by decide +kernel) (by decide +kernel) hout F.2.2.2 (Nat.le_of_ble_eq_true rfl) (Nat.le_of_ble_eq_true rfl) ⟨Nat.le_refl _, Nat.le_refl _⟩ (Nat.le_refl _) (fun _ h => h)) hB vi_kept_rf (Nat.le_of_ble_eq_true rfl) (by decide) hl.1

theorem dX9_packetBytes_0 : decode cX9_packetBytes 0 = .ok (.aload_n 1, 1) := by decide +kernel
theorem dX9_packetBytes_1 : decode cX9_packetBytes 1 = .ok (.getfield 590, 3) := by decide +kernel
theorem dX9_packetBytes_4 : decode cX9_packetBytes 4 = .ok (.aload_n 1, 1) := by decide +kernel
theorem dX9_packetBytes_5 : decode cX9_packetBytes 5 = .ok (.getfield 388, 3) := by decide +kernel
theorem dX9_packetBytes_8 : decode cX9_packetBytes 8 = .ok (.isub, 1) := by decide +kernel
theorem dX9_packetBytes_9 : decode cX9_packetBytes 9 = .ok (.aload_n 0, 1) := by decide +kernel
theorem dX9_packetBytes_10 : decode cX9_packetBytes 10 = .ok (.getfield 147, 3) := by decide +kernel
theorem dX9_packetBytes_13 : decode cX9_packetBytes 13 = .ok (.invokestatic 591, 3) := by decide +kernel
theorem dX9_packetBytes_16 : decode cX9_packetBytes 16 = .ok (.istore_n 2, 1) := by decide +kernel
theorem dX9_packetBytes_17 : decode cX9_packetBytes 17 = .ok (.aload_n 0, 1) := by decide +kernel
theorem dX9_packetBytes_18 : decode cX9_packetBytes 18 = .ok (.getfield 144, 3) := by decide +kernel
theorem dX9_packetBytes_21 : decode cX9_packetBytes 21 = .ok (.ifCond .ne 5, 3) := by decide +kernel
theorem dX9_packetBytes_24 : decode cX9_packetBytes 24 = .ok (.iload_n 2, 1) := by decide +kernel
theorem dX9_packetBytes_25 : decode cX9_packetBytes 25 = .ok (.ireturn, 1) := by decide +kernel
theorem dX9_packetBytes_26 : decode cX9_packetBytes 26 = .ok (.aload_n 0, 1) := by decide +kernel
theorem dX9_packetBytes_27 : decode cX9_packetBytes 27 = .ok (.getfield 594, 3) := by decide +kernel
theorem dX9_packetBytes_30 : decode cX9_packetBytes 30 = .ok (.ifCond .le 10, 3) := by decide +kernel
theorem dX9_packetBytes_33 : decode cX9_packetBytes 33 = .ok (.aload_n 0, 1) := by decide +kernel
theorem dX9_packetBytes_34 : decode cX9_packetBytes 34 = .ok (.getfield 594, 3) := by decide +kernel
theorem dX9_packetBytes_37 : decode cX9_packetBytes 37 = .ok (.goto 14, 3) := by decide +kernel
theorem dX9_packetBytes_40 : decode cX9_packetBytes 40 = .ok (.iload_n 2, 1) := by decide +kernel
theorem dX9_packetBytes_41 : decode cX9_packetBytes 41 = .ok (.aload_n 0, 1) := by decide +kernel
theorem dX9_packetBytes_42 : decode cX9_packetBytes 42 = .ok (.getfield 395, 3) := by decide +kernel
theorem dX9_packetBytes_45 : decode cX9_packetBytes 45 = .ok (.getfield 266, 3) := by decide +kernel
theorem dX9_packetBytes_48 : decode cX9_packetBytes 48 = .ok (.invokestatic 591, 3) := by decide +kernel
theorem dX9_packetBytes_51 : decode cX9_packetBytes 51 = .ok (.ireturn, 1) := by decide +kernel
set_option maxRecDepth 100000 in
set_option maxHeartbeats 4000000 in
theorem k_pkb (l : Launch) (D : va_G) (cy : Nat → ClassId) {ad τ : List Nat} {Y : CY} {σ : SG} (hV : VL cy ad τ Y σ) {j i k T : Nat} (hj : j < 12) (hi : i < 16) (hk : k < 3) (hT : T < 4) (hp : sgI σ (ye Y i k) 1 = 0 → 0 ≤ (sgI σ (yt Y j T) 2).toInt ∧ (sgI σ (yt Y j T) 2).toInt ≤ (sgI σ (yt Y j T) 1).toInt ∧ (sgI σ (yt Y j T) 1).toInt ≤ 16) (sz : Nat) : clM l D cy ad τ Y σ sz yX9_packetBytes (Cond.code yX9_packetBytes cX9_packetBytes 3 (some .int) :: vWall) 1 13 [.ref (ye Y i k), .ref (yt Y j T)] (fun v s2 => (∃ z : Int32, v = some (.int z) ∧ z.toInt ≤ 8 ∧ (sgI σ (ye Y i k) 1 = 0 → z.toInt ≤ (sgI σ (yt Y j T) 1).toInt - (sgI σ (yt Y j T) 2).toInt ∧ 0 ≤ z.toInt)) ∧ σ = s2) := by
  refine cl_ofW (cc := cX9_packetBytes) (maxL := 3) (ret := (some .int)) hV (by decide) rfl (Nat.le_of_ble_eq_true rfl) (lv := [(0, .ref (ye Y i k)), (1, .ref (yt Y j T))]) rfl (fun p e s m below meth c ls H hrt hnm F hB hl => ?_) sz
  have hx := F.1.1
  have hb := F.1.2.1
  have hown := F.1.2.2.2.1
  generalize hlo : ([] : List Loc) = locs at hB ⊢
  clear hlo
  obtain ⟨LX, LD, Ld, LE, Le, LP9, Lp, Lt, LU, LA, Lz⟩ := hV.2
  have e0 : (0 : Int32).toInt = 0 := rfl
  have e1 : (1 : Int32).toInt = 1 := rfl
  have e16 : (16 : Int32).toInt = 16 := rfl
  have e12 : (12 : Int32).toInt = 12 := rfl
  have e4 : (4 : Int32).toInt = 4 := rfl
  have e8 : (8 : Int32).toInt = 8 := rfl
  have hg := en_gr hV (Le _ _ hi hk).1
  have hu := en_un hV (Le _ _ hi hk).1
  have hm := mn1 (x := sgI σ (yt Y j T) 1 - sgI σ (yt Y j T) 2) (y := sgI σ (ye Y i k) 3)
  refine lv_aload_n hx hb dX9_packetBytes_0 rfl (lv_at hl 1 rfl) ?_
  refine gf_X9_590 F hB dX9_packetBytes_1 ((Lt _ hj).2.2 _ hT).2 ?_
  refine lv_aload_n hx hb dX9_packetBytes_4 rfl (lv_at hl 1 rfl) ?_
  refine gf_X9_388 F hB dX9_packetBytes_5 ((Lt _ hj).2.2 _ hT).2 ?_
  refine lv_isub hx hb dX9_packetBytes_8 ?_
  refine lv_aload_n hx hb dX9_packetBytes_9 rfl (lv_at hl 0 rfl) ?_
  refine gf_X9_147 F hB dX9_packetBytes_10 (Le _ _ hi hk).1 ?_
  refine va_mmin hx hb (F.1.2.2.1.trans hl.1.symm) hown (F.1.2.2.2.2 _ (List.mem_cons_of_mem _ (vm_8 _ (List.mem_of_getElem? (i := 37) rfl)))) (F.1.2.2.2.2 _ (List.mem_cons_of_mem _ (vm_0 _ (List.mem_of_getElem? (i := 13) rfl)))) (F.1.2.2.2.2 _ (List.mem_cons_of_mem _ (vm_0 _ (List.mem_of_getElem? (i := 14) rfl)))) (F.1.2.2.2.2 _ (List.mem_cons_of_mem _ (vm_0 _ (List.mem_of_getElem? (i := 15) rfl)))) (Nat.le_of_ble_eq_true rfl) (Nat.le_of_ble_eq_true rfl) (Nat.le_of_ble_eq_true rfl) (Nat.le_of_ble_eq_true rfl) dX9_packetBytes_13 ?_
  refine lv_istore_n (lv' := [(2, .int _), (0, .ref _), (1, .ref _)]) hx hb dX9_packetBytes_16 rfl hl (by decide) rfl (fun ls hl => ?_)
  refine lv_aload_n hx hb dX9_packetBytes_17 rfl (lv_at hl 1 rfl) ?_
  refine gf_X9_144 F hB dX9_packetBytes_18 (Le _ _ hi hk).1 ?_
  refine lv_if_ne (tgt := 26) hx hb dX9_packetBytes_21 (by decide) (fun c21 => ?_) (fun c21 => ?_)
  · refine lv_aload_n hx hb dX9_packetBytes_26 rfl (lv_at hl 1 rfl) ?_
    refine gf_X9_594 F hB dX9_packetBytes_27 (Le _ _ hi hk).1 ?_
    refine lv_if_le (tgt := 40) hx hb dX9_packetBytes_30 (by decide) (fun c30 => ?_) (fun c30 => ?_)
    · refine lv_iload_n hx hb dX9_packetBytes_40 rfl (lv_at hl 0 rfl) ?_
      refine lv_aload_n hx hb dX9_packetBytes_41 rfl (lv_at hl 1 rfl) ?_
      refine gr_X9_395 F hB dX9_packetBytes_42 (Le _ _ hi hk).1 (Le _ _ hi hk).2.1 ?_
      refine gf_X9_266 F hB dX9_packetBytes_45 (Le _ _ hi hk).2.2 ?_
      refine va_mmin hx hb (F.1.2.2.1.trans hl.1.symm) hown (F.1.2.2.2.2 _ (List.mem_cons_of_mem _ (vm_8 _ (List.mem_of_getElem? (i := 37) rfl)))) (F.1.2.2.2.2 _ (List.mem_cons_of_mem _ (vm_0 _ (List.mem_of_getElem? (i := 13) rfl)))) (F.1.2.2.2.2 _ (List.mem_cons_of_mem _ (vm_0 _ (List.mem_of_getElem? (i := 14) rfl)))) (F.1.2.2.2.2 _ (List.mem_cons_of_mem _ (vm_0 _ (List.mem_of_getElem? (i := 15) rfl)))) (Nat.le_of_ble_eq_true rfl) (Nat.le_of_ble_eq_true rfl) (Nat.le_of_ble_eq_true rfl) (Nat.le_of_ble_eq_true rfl) dX9_packetBytes_48 ?_
      exact cl_iret F hB hrt dX9_packetBytes_51 (by first | exact ⟨⟨_, rfl, hu.2, fun z => absurd z c21⟩, rfl⟩ | exact ⟨⟨_, rfl, by have := mn1 (x := (if sgI σ (ye Y i k) 3 < sgI σ (yt Y j T) 1 - sgI σ (yt Y j T) 2 then sgI σ (ye Y i k) 3 else sgI σ (yt Y j T) 1 - sgI σ (yt Y j T) 2)) (y := sgI σ (yr Y i k) 2); omega, fun z => absurd z c21⟩, rfl⟩ | fail "no road")
    · refine lv_aload_n hx hb dX9_packetBytes_33 rfl (lv_at hl 1 rfl) ?_
      refine gf_X9_594 F hB dX9_packetBytes_34 (Le _ _ hi hk).1 ?_
      refine lv_goto (tgt := 51) hx hb dX9_packetBytes_37 (by decide) ?_
      exact cl_iret F hB hrt dX9_packetBytes_51 (by first | exact ⟨⟨_, rfl, hu.2, fun z => absurd z c21⟩, rfl⟩ | exact ⟨⟨_, rfl, by have := mn1 (x := (if sgI σ (ye Y i k) 3 < sgI σ (yt Y j T) 1 - sgI σ (yt Y j T) 2 then sgI σ (ye Y i k) 3 else sgI σ (yt Y j T) 1 - sgI σ (yt Y j T) 2)) (y := sgI σ (yr Y i k) 2); omega, fun z => absurd z c21⟩, rfl⟩ | fail "no road")
  · refine lv_iload_n hx hb dX9_packetBytes_24 rfl (lv_at hl 0 rfl) ?_
    exact cl_iret F hB hrt dX9_packetBytes_25 (⟨⟨_, rfl, by omega, fun z => by have q := hp z; rw [i_sub (by omega) (by omega)] at hm; omega⟩, rfl⟩)

theorem dX9_bytesPaid_0 : decode cX9_bytesPaid 0 = .ok (.iconst 1, 1) := by decide +kernel
theorem dX9_bytesPaid_1 : decode cX9_bytesPaid 1 = .ok (.aload_n 0, 1) := by decide +kernel
theorem dX9_bytesPaid_2 : decode cX9_bytesPaid 2 = .ok (.aload_n 1, 1) := by decide +kernel
theorem dX9_bytesPaid_3 : decode cX9_bytesPaid 3 = .ok (.invokestatic 582, 3) := by decide +kernel
theorem dX9_bytesPaid_6 : decode cX9_bytesPaid 6 = .ok (.invokestatic 585, 3) := by decide +kernel
theorem dX9_bytesPaid_9 : decode cX9_bytesPaid 9 = .ok (.ireturn, 1) := by decide +kernel
set_option maxRecDepth 100000 in
set_option maxHeartbeats 4000000 in
theorem k_bp (l : Launch) (D : va_G) (cy : Nat → ClassId) {ad τ : List Nat} {Y : CY} {σ : SG} (hV : VL cy ad τ Y σ) {j i k T : Nat} (hj : j < 12) (hi : i < 16) (hk : k < 3) (hT : T < 4) (hp : sgI σ (ye Y i k) 1 = 0 → 0 ≤ (sgI σ (yt Y j T) 2).toInt ∧ (sgI σ (yt Y j T) 2).toInt ≤ (sgI σ (yt Y j T) 1).toInt ∧ (sgI σ (yt Y j T) 1).toInt ≤ 16) (sz : Nat) : clM l D cy ad τ Y σ sz yX9_bytesPaid (Cond.code yX9_bytesPaid cX9_bytesPaid 2 (some .int) :: vWall) 2 35 [.ref (ye Y i k), .ref (yt Y j T)] (fun v s2 => (∃ z : Int32, v = some (.int z) ∧ 1 ≤ z.toInt ∧ z.toInt ≤ 8) ∧ σ = s2) := by
  refine cl_ofW (cc := cX9_bytesPaid) (maxL := 2) (ret := (some .int)) hV (by decide) rfl (Nat.le_of_ble_eq_true rfl) (lv := [(0, .ref (ye Y i k)), (1, .ref (yt Y j T))]) rfl (fun p e s m below meth c ls H hrt hnm F hB hl => ?_) sz
  have hx := F.1.1
  have hb := F.1.2.1
  have hown := F.1.2.2.2.1
  generalize hlo : ([] : List Loc) = locs at hB ⊢
  clear hlo
  obtain ⟨LX, LD, Ld, LE, Le, LP9, Lp, Lt, LU, LA, Lz⟩ := hV.2
  have e0 : (0 : Int32).toInt = 0 := rfl
  have e1 : (1 : Int32).toInt = 1 := rfl
  have e16 : (16 : Int32).toInt = 16 := rfl
  have e12 : (12 : Int32).toInt = 12 := rfl
  have e4 : (4 : Int32).toInt = 4 := rfl
  have e8 : (8 : Int32).toInt = 8 := rfl
  refine lv_iconst (v := 1) hx hb dX9_bytesPaid_0 (by decide) ?_
  refine lv_aload_n hx hb dX9_bytesPaid_1 rfl (lv_at hl 0 rfl) ?_
  refine lv_aload_n hx hb dX9_bytesPaid_2 rfl (lv_at hl 1 rfl) ?_
  refine cl_callS F hB (k_pkb l D cy hB.2 hj hi hk hT hp _) (cwS 2 F.1.2.2.2.2 (vgS (vm_9 _ (List.mem_of_getElem? (i := 0) rfl)) (vm_9 _ (List.mem_of_getElem? (i := 1) rfl)) (vm_4 _ (List.mem_of_getElem? (i := 20) rfl)) (vm_8 _ (List.mem_of_getElem? (i := 36) rfl))) rfl rfl rfl ⟨rfl, by decide, by decide, by decide +kernel⟩ ⟨Nat.le_of_ble_eq_true rfl, Nat.le_of_ble_eq_true rfl⟩) rfl hl.1 rfl (Nat.le_of_ble_eq_true rfl) dX9_bytesPaid_3 ⟨Nat.le_of_ble_eq_true rfl, Nat.le_of_ble_eq_true rfl⟩ (fun H locs v σ3 hB hP => ?_)
  obtain ⟨⟨z3, rfl, hz3, -⟩, rfl⟩ := hP
  refine va_mmax hx hb (F.1.2.2.1.trans hl.1.symm) hown (F.1.2.2.2.2 _ (List.mem_cons_of_mem _ (vm_8 _ (List.mem_of_getElem? (i := 39) rfl)))) (F.1.2.2.2.2 _ (List.mem_cons_of_mem _ (vm_3 _ (List.mem_of_getElem? (i := 8) rfl)))) (F.1.2.2.2.2 _ (List.mem_cons_of_mem _ (vm_0 _ (List.mem_of_getElem? (i := 14) rfl)))) (F.1.2.2.2.2 _ (List.mem_cons_of_mem _ (vm_3 _ (List.mem_of_getElem? (i := 9) rfl)))) (Nat.le_of_ble_eq_true rfl) (Nat.le_of_ble_eq_true rfl) (Nat.le_of_ble_eq_true rfl) (Nat.le_of_ble_eq_true rfl) dX9_bytesPaid_6 ?_
  exact cl_iret F hB hrt dX9_bytesPaid_9 (⟨⟨_, rfl, mx2, by by_cases c : (1 : Int32) < z3; (· rw [if_pos c]; exact hz3); (· rw [if_neg c]; decide)⟩, rfl⟩)

theorem dX8_isRoomFor_0 : decode cX8_isRoomFor 0 = .ok (.iload_n 1, 1) := by decide +kernel
theorem dX8_isRoomFor_1 : decode cX8_isRoomFor 1 = .ok (.aload_n 0, 1) := by decide +kernel
theorem dX8_isRoomFor_2 : decode cX8_isRoomFor 2 = .ok (.getfield 21, 3) := by decide +kernel
theorem dX8_isRoomFor_5 : decode cX8_isRoomFor 5 = .ok (.if_icmp .gt 27, 3) := by decide +kernel
theorem dX8_isRoomFor_8 : decode cX8_isRoomFor 8 = .ok (.iload_n 2, 1) := by decide +kernel
theorem dX8_isRoomFor_9 : decode cX8_isRoomFor 9 = .ok (.ifCond .lt 19, 3) := by decide +kernel
theorem dX8_isRoomFor_12 : decode cX8_isRoomFor 12 = .ok (.iload_n 2, 1) := by decide +kernel
theorem dX8_isRoomFor_13 : decode cX8_isRoomFor 13 = .ok (.bipush 16, 2) := by decide +kernel
theorem dX8_isRoomFor_15 : decode cX8_isRoomFor 15 = .ok (.if_icmp .ge 13, 3) := by decide +kernel
theorem dX8_isRoomFor_18 : decode cX8_isRoomFor 18 = .ok (.iload_n 3, 1) := by decide +kernel
theorem dX8_isRoomFor_19 : decode cX8_isRoomFor 19 = .ok (.aload_n 0, 1) := by decide +kernel
theorem dX8_isRoomFor_20 : decode cX8_isRoomFor 20 = .ok (.getfield 18, 3) := by decide +kernel
theorem dX8_isRoomFor_23 : decode cX8_isRoomFor 23 = .ok (.iload_n 2, 1) := by decide +kernel
theorem dX8_isRoomFor_24 : decode cX8_isRoomFor 24 = .ok (.iaload, 1) := by decide +kernel
theorem dX8_isRoomFor_25 : decode cX8_isRoomFor 25 = .ok (.if_icmp .gt 7, 3) := by decide +kernel
theorem dX8_isRoomFor_28 : decode cX8_isRoomFor 28 = .ok (.iconst 1, 1) := by decide +kernel
theorem dX8_isRoomFor_29 : decode cX8_isRoomFor 29 = .ok (.goto 4, 3) := by decide +kernel
theorem dX8_isRoomFor_32 : decode cX8_isRoomFor 32 = .ok (.iconst 0, 1) := by decide +kernel
theorem dX8_isRoomFor_33 : decode cX8_isRoomFor 33 = .ok (.ireturn, 1) := by decide +kernel
set_option maxRecDepth 100000 in
set_option maxHeartbeats 4000000 in
theorem k_room (l : Launch) (D : va_G) (cy : Nat → ClassId) {ad τ : List Nat} {Y : CY} {σ : SG} (hV : VL cy ad τ Y σ) (x1 x2 x3 : Int32) (sz : Nat) : clM l D cy ad τ Y σ sz yX8_isRoomFor (Cond.code yX8_isRoomFor cX8_isRoomFor 4 (some .boolean) :: vWall) 0 0 [.ref (yu Y), .int x1, .int x2, .int x3] (fun v s2 => (∃ b : Int32, v = some (.int b) ∧ sgF 2 b) ∧ σ = s2) := by
  refine cl_ofW (cc := cX8_isRoomFor) (maxL := 4) (ret := (some .boolean)) hV (by decide) rfl (Nat.le_of_ble_eq_true rfl) (lv := [(0, .ref (yu Y)), (1, .int x1), (2, .int x2), (3, .int x3)]) rfl (fun p e s m below meth c ls H hrt hnm F hB hl => ?_) sz
  have hx := F.1.1
  have hb := F.1.2.1
  have hown := F.1.2.2.2.1
  generalize hlo : ([] : List Loc) = locs at hB ⊢
  clear hlo
  obtain ⟨LX, LD, Ld, LE, Le, LP9, Lp, Lt, LU, LA, Lz⟩ := hV.2
  have e0 : (0 : Int32).toInt = 0 := rfl
  have e1 : (1 : Int32).toInt = 1 := rfl
  have e16 : (16 : Int32).toInt = 16 := rfl
  have e12 : (12 : Int32).toInt = 12 := rfl
  have e4 : (4 : Int32).toInt = 4 := rfl
  have e8 : (8 : Int32).toInt = 8 := rfl
  obtain ⟨c0, hc0, tc0, qc0⟩ := VT_nn (ci := 13) (k := 3) (kd := 11) hV.1 LU.1 (by decide) rfl (by decide +kernel)
  have nN : sgN σ c0 = 16 := (kd_N hV.1 qc0).2
  refine lv_iload_n hx hb dX8_isRoomFor_0 rfl (lv_at hl 1 rfl) ?_
  refine lv_aload_n hx hb dX8_isRoomFor_1 rfl (lv_at hl 0 rfl) ?_
  refine gf_X8_21 F hB dX8_isRoomFor_2 LU.1 ?_
  refine lv_icmp_gt (tgt := 32) hx hb dX8_isRoomFor_5 (by decide) (fun c5 => ?_) (fun c5 => ?_)
  · refine lv_iconst (v := 0) hx hb dX8_isRoomFor_32 (by decide) ?_
    exact cl_zret F hB hrt dX8_isRoomFor_33 rfl (⟨⟨_, rfl, ⟨by decide, by decide⟩⟩, rfl⟩)
  · refine lv_iload_n hx hb dX8_isRoomFor_8 rfl (lv_at hl 2 rfl) ?_
    refine lv_if_lt (tgt := 28) hx hb dX8_isRoomFor_9 (by decide) (fun c9 => ?_) (fun c9 => ?_)
    · refine lv_iconst (v := 1) hx hb dX8_isRoomFor_28 (by decide) ?_
      refine lv_goto (tgt := 33) hx hb dX8_isRoomFor_29 (by decide) ?_
      exact cl_zret F hB hrt dX8_isRoomFor_33 rfl (⟨⟨_, rfl, ⟨by decide, by decide⟩⟩, rfl⟩)
    · refine lv_iload_n hx hb dX8_isRoomFor_12 rfl (lv_at hl 2 rfl) ?_
      refine lv_bipush (v := 16) hx hb dX8_isRoomFor_13 (by decide) ?_
      refine lv_icmp_ge (tgt := 28) hx hb dX8_isRoomFor_15 (by decide) (fun c15 => ?_) (fun c15 => ?_)
      · refine lv_iconst (v := 1) hx hb dX8_isRoomFor_28 (by decide) ?_
        refine lv_goto (tgt := 33) hx hb dX8_isRoomFor_29 (by decide) ?_
        exact cl_zret F hB hrt dX8_isRoomFor_33 rfl (⟨⟨_, rfl, ⟨by decide, by decide⟩⟩, rfl⟩)
      · refine lv_iload_n hx hb dX8_isRoomFor_18 rfl (lv_at hl 3 rfl) ?_
        refine lv_aload_n hx hb dX8_isRoomFor_19 rfl (lv_at hl 0 rfl) ?_
        have u0 := i_nlt c9
        have u1 := i_nle c15
        refine gr_X8_18 F hB dX8_isRoomFor_20 LU.1 hc0 ?_
        refine lv_iload_n hx hb dX8_isRoomFor_23 rfl (lv_at hl 2 rfl) ?_
        refine sg_iald hx hb F.2.1 hB.1 dX8_isRoomFor_24 (tc0.trans (by decide)) (by omega) (by rw [nN]; omega) (by rw [nN]; decide) ?_
        refine lv_icmp_gt (tgt := 32) hx hb dX8_isRoomFor_25 (by decide) (fun c25 => ?_) (fun c25 => ?_)
        · refine lv_iconst (v := 0) hx hb dX8_isRoomFor_32 (by decide) ?_
          exact cl_zret F hB hrt dX8_isRoomFor_33 rfl (⟨⟨_, rfl, ⟨by decide, by decide⟩⟩, rfl⟩)
        · refine lv_iconst (v := 1) hx hb dX8_isRoomFor_28 (by decide) ?_
          refine lv_goto (tgt := 33) hx hb dX8_isRoomFor_29 (by decide) ?_
          exact cl_zret F hB hrt dX8_isRoomFor_33 rfl (⟨⟨_, rfl, ⟨by decide, by decide⟩⟩, rfl⟩)

theorem dX9_canGo_0 : decode cX9_canGo 0 = .ok (.aload_n 1, 1) := by decide +kernel
theorem dX9_canGo_1 : decode cX9_canGo 1 = .ok (.getfield 546, 3) := by decide +kernel
theorem dX9_canGo_4 : decode cX9_canGo 4 = .ok (.astore_n 2, 1) := by decide +kernel
theorem dX9_canGo_5 : decode cX9_canGo 5 = .ok (.aload_n 1, 1) := by decide +kernel
theorem dX9_canGo_6 : decode cX9_canGo 6 = .ok (.getfield 350, 3) := by decide +kernel
theorem dX9_canGo_9 : decode cX9_canGo 9 = .ok (.astore_n 3, 1) := by decide +kernel
theorem dX9_canGo_10 : decode cX9_canGo 10 = .ok (.aload_n 2, 1) := by decide +kernel
theorem dX9_canGo_11 : decode cX9_canGo 11 = .ok (.ifnull 21, 3) := by decide +kernel
theorem dX9_canGo_14 : decode cX9_canGo 14 = .ok (.aload_n 3, 1) := by decide +kernel
theorem dX9_canGo_15 : decode cX9_canGo 15 = .ok (.ifnull 17, 3) := by decide +kernel
theorem dX9_canGo_18 : decode cX9_canGo 18 = .ok (.aload_n 1, 1) := by decide +kernel
theorem dX9_canGo_19 : decode cX9_canGo 19 = .ok (.getfield 380, 3) := by decide +kernel
theorem dX9_canGo_22 : decode cX9_canGo 22 = .ok (.ifCond .ne 10, 3) := by decide +kernel
theorem dX9_canGo_25 : decode cX9_canGo 25 = .ok (.aload_n 1, 1) := by decide +kernel
theorem dX9_canGo_26 : decode cX9_canGo 26 = .ok (.getfield 356, 3) := by decide +kernel
theorem dX9_canGo_29 : decode cX9_canGo 29 = .ok (.ifCond .ne 5, 3) := by decide +kernel
theorem dX9_canGo_32 : decode cX9_canGo 32 = .ok (.iconst 0, 1) := by decide +kernel
theorem dX9_canGo_33 : decode cX9_canGo 33 = .ok (.ireturn, 1) := by decide +kernel
theorem dX9_canGo_34 : decode cX9_canGo 34 = .ok (.aload_n 1, 1) := by decide +kernel
theorem dX9_canGo_35 : decode cX9_canGo 35 = .ok (.iconst 0, 1) := by decide +kernel
theorem dX9_canGo_36 : decode cX9_canGo 36 = .ok (.invokevirtual 374, 3) := by decide +kernel
theorem dX9_canGo_39 : decode cX9_canGo 39 = .ok (.astore 4, 2) := by decide +kernel
theorem dX9_canGo_41 : decode cX9_canGo 41 = .ok (.aload 4, 2) := by decide +kernel
theorem dX9_canGo_43 : decode cX9_canGo 43 = .ok (.getfield 377, 3) := by decide +kernel
theorem dX9_canGo_46 : decode cX9_canGo 46 = .ok (.ifCond .eq 23, 3) := by decide +kernel
theorem dX9_canGo_49 : decode cX9_canGo 49 = .ok (.aload_n 2, 1) := by decide +kernel
theorem dX9_canGo_50 : decode cX9_canGo 50 = .ok (.getfield 74, 3) := by decide +kernel
theorem dX9_canGo_53 : decode cX9_canGo 53 = .ok (.bipush 99, 2) := by decide +kernel
theorem dX9_canGo_55 : decode cX9_canGo 55 = .ok (.if_icmp .ne 14, 3) := by decide +kernel
theorem dX9_canGo_58 : decode cX9_canGo 58 = .ok (.aload_n 0, 1) := by decide +kernel
theorem dX9_canGo_59 : decode cX9_canGo 59 = .ok (.getfield 252, 3) := by decide +kernel
theorem dX9_canGo_62 : decode cX9_canGo 62 = .ok (.aload_n 2, 1) := by decide +kernel
theorem dX9_canGo_63 : decode cX9_canGo 63 = .ok (.getfield 255, 3) := by decide +kernel
theorem dX9_canGo_66 : decode cX9_canGo 66 = .ok (.if_icmp .gt 5, 3) := by decide +kernel
theorem dX9_canGo_69 : decode cX9_canGo 69 = .ok (.iconst 0, 1) := by decide +kernel
theorem dX9_canGo_70 : decode cX9_canGo 70 = .ok (.ireturn, 1) := by decide +kernel
theorem dX9_canGo_71 : decode cX9_canGo 71 = .ok (.aload_n 3, 1) := by decide +kernel
theorem dX9_canGo_72 : decode cX9_canGo 72 = .ok (.aload 4, 2) := by decide +kernel
theorem dX9_canGo_74 : decode cX9_canGo 74 = .ok (.invokestatic 575, 3) := by decide +kernel
theorem dX9_canGo_77 : decode cX9_canGo 77 = .ok (.istore 5, 2) := by decide +kernel
theorem dX9_canGo_79 : decode cX9_canGo 79 = .ok (.aload_n 0, 1) := by decide +kernel
theorem dX9_canGo_80 : decode cX9_canGo 80 = .ok (.getfield 45, 3) := by decide +kernel
theorem dX9_canGo_83 : decode cX9_canGo 83 = .ok (.iload 5, 2) := by decide +kernel
theorem dX9_canGo_85 : decode cX9_canGo 85 = .ok (.invokestatic 301, 3) := by decide +kernel
theorem dX9_canGo_88 : decode cX9_canGo 88 = .ok (.aload_n 2, 1) := by decide +kernel
theorem dX9_canGo_89 : decode cX9_canGo 89 = .ok (.getfield 182, 3) := by decide +kernel
theorem dX9_canGo_92 : decode cX9_canGo 92 = .ok (.aload_n 2, 1) := by decide +kernel
theorem dX9_canGo_93 : decode cX9_canGo 93 = .ok (.getfield 109, 3) := by decide +kernel
theorem dX9_canGo_96 : decode cX9_canGo 96 = .ok (.iload 5, 2) := by decide +kernel
theorem dX9_canGo_98 : decode cX9_canGo 98 = .ok (.invokestatic 304, 3) := by decide +kernel
theorem dX9_canGo_101 : decode cX9_canGo 101 = .ok (.invokevirtual 579, 3) := by decide +kernel
theorem dX9_canGo_104 : decode cX9_canGo 104 = .ok (.ireturn, 1) := by decide +kernel
set_option maxRecDepth 100000 in
set_option maxHeartbeats 4000000 in
theorem k_canGo (l : Launch) (D : va_G) (cy : Nat → ClassId) {ad τ : List Nat} {Y : CY} {σ : SG} (hV : VL cy ad τ Y σ) {B : Int} (hI : SI Y σ B) {j : Nat} (hj : j < 12) (sz : Nat) : clM l D cy ad τ Y σ sz yX9_canGo (Cond.code yX9_canGo cX9_canGo 6 (some .boolean) :: vWall) 3 56 [.ref (yX Y), .ref (yp Y j)] (fun v s2 => (∃ b : Int32, v = some (.int b) ∧ (¬ b = 0 → (∃ d, sgR σ (yp Y j) 1 = some d) ∧ 1 ≤ (sgI σ (yp Y j) 13).toInt)) ∧ σ = s2) := by
  refine cl_ofW (cc := cX9_canGo) (maxL := 6) (ret := (some .boolean)) hV (by decide) rfl (Nat.le_of_ble_eq_true rfl) (lv := [(0, .ref (yX Y)), (1, .ref (yp Y j))]) rfl (fun p e s m below meth c ls H hrt hnm F hB hl => ?_) sz
  have hx := F.1.1
  have hb := F.1.2.1
  have hown := F.1.2.2.2.1
  generalize hlo : ([] : List Loc) = locs at hB ⊢
  clear hlo
  obtain ⟨LX, LD, Ld, LE, Le, LP9, Lp, Lt, LU, LA, Lz⟩ := hV.2
  have e0 : (0 : Int32).toInt = 0 := rfl
  have e1 : (1 : Int32).toInt = 1 := rfl
  have e16 : (16 : Int32).toInt = 16 := rfl
  have e12 : (12 : Int32).toInt = 12 := rfl
  have e4 : (4 : Int32).toInt = 4 := rfl
  have e8 : (8 : Int32).toInt = 8 := rfl
  have c13 := VT_in (ci := 10) (k := 13) (t := 0) (lo := 0) (hi := 4) hV.1 (Lp _ hj).1 (by decide) rfl (by decide) (by decide +kernel)
  have h3 := c_and3 (sgI σ (yp Y j) 12 + 0)
  have hT9 : ((sgI σ (yp Y j) 12 + 0) &&& 3).toInt.toNat < 4 := by omega
  refine lv_aload_n hx hb dX9_canGo_0 rfl (lv_at hl 1 rfl) ?_
  refine gf_X9_546 F hB dX9_canGo_1 (Lp _ hj).1 ?_
  refine sg_split (fun hz1 => ?_) (fun b1 hz1 => ?_)
  · skip
    refine lv_astore_nN (lv' := [(2, .null), (0, .ref _), (1, .ref _)]) hx hb dX9_canGo_4 rfl hl (by decide) rfl (fun ls hl => ?_)
    refine lv_aload_n hx hb dX9_canGo_5 rfl (lv_at hl 2 rfl) ?_
    refine gf_X9_350 F hB dX9_canGo_6 (Lp _ hj).1 ?_
    refine sg_split (fun hz6 => ?_) (fun b6 hz6 => ?_)
    · skip
      refine lv_astore_nN (lv' := [(3, .null), (2, .null), (0, .ref _), (1, .ref _)]) hx hb dX9_canGo_9 rfl hl (by decide) rfl (fun ls hl => ?_)
      refine lv_aload_nN hx hb dX9_canGo_10 rfl (lv_at hl 1 rfl) ?_
      refine lv_ifnullN (tgt := 32) hx hb dX9_canGo_11 (by decide) ?_
      refine lv_iconst (v := 0) hx hb dX9_canGo_32 (by decide) ?_
      exact cl_zret F hB hrt dX9_canGo_33 (by first | rfl | exact (cl_nfz hb101).1) (by first | exact ⟨⟨_, rfl, fun z => absurd rfl z⟩, rfl⟩ | exact ⟨⟨_, rfl, fun _ => ⟨⟨_, hz1⟩, h29⟩⟩, rfl⟩ | fail "no road")
    · skip
      refine lv_astore_n (lv' := [(3, .ref _), (2, .null), (0, .ref _), (1, .ref _)]) hx hb dX9_canGo_9 rfl hl (by decide) rfl (fun ls hl => ?_)
      refine lv_aload_nN hx hb dX9_canGo_10 rfl (lv_at hl 1 rfl) ?_
      refine lv_ifnullN (tgt := 32) hx hb dX9_canGo_11 (by decide) ?_
      refine lv_iconst (v := 0) hx hb dX9_canGo_32 (by decide) ?_
      exact cl_zret F hB hrt dX9_canGo_33 (by first | rfl | exact (cl_nfz hb101).1) (by first | exact ⟨⟨_, rfl, fun z => absurd rfl z⟩, rfl⟩ | exact ⟨⟨_, rfl, fun _ => ⟨⟨_, hz1⟩, h29⟩⟩, rfl⟩ | fail "no road")
  · skip
    refine lv_astore_n (lv' := [(2, .ref _), (0, .ref _), (1, .ref _)]) hx hb dX9_canGo_4 rfl hl (by decide) rfl (fun ls hl => ?_)
    refine lv_aload_n hx hb dX9_canGo_5 rfl (lv_at hl 2 rfl) ?_
    refine gf_X9_350 F hB dX9_canGo_6 (Lp _ hj).1 ?_
    refine sg_split (fun hz6 => ?_) (fun b6 hz6 => ?_)
    · skip
      refine lv_astore_nN (lv' := [(3, .null), (2, .ref _), (0, .ref _), (1, .ref _)]) hx hb dX9_canGo_9 rfl hl (by decide) rfl (fun ls hl => ?_)
      refine lv_aload_n hx hb dX9_canGo_10 rfl (lv_at hl 1 rfl) ?_
      refine lv_ifnull hx hb dX9_canGo_11 ?_
      refine lv_aload_nN hx hb dX9_canGo_14 rfl (lv_at hl 0 rfl) ?_
      refine lv_ifnullN (tgt := 32) hx hb dX9_canGo_15 (by decide) ?_
      refine lv_iconst (v := 0) hx hb dX9_canGo_32 (by decide) ?_
      exact cl_zret F hB hrt dX9_canGo_33 (by first | rfl | exact (cl_nfz hb101).1) (by first | exact ⟨⟨_, rfl, fun z => absurd rfl z⟩, rfl⟩ | exact ⟨⟨_, rfl, fun _ => ⟨⟨_, hz1⟩, h29⟩⟩, rfl⟩ | fail "no road")
    · skip
      refine lv_astore_n (lv' := [(3, .ref _), (2, .ref _), (0, .ref _), (1, .ref _)]) hx hb dX9_canGo_9 rfl hl (by decide) rfl (fun ls hl => ?_)
      refine lv_aload_n hx hb dX9_canGo_10 rfl (lv_at hl 1 rfl) ?_
      refine lv_ifnull hx hb dX9_canGo_11 ?_
      refine lv_aload_n hx hb dX9_canGo_14 rfl (lv_at hl 0 rfl) ?_
      refine lv_ifnull hx hb dX9_canGo_15 ?_
      refine lv_aload_n hx hb dX9_canGo_18 rfl (lv_at hl 3 rfl) ?_
      obtain ⟨e9, he9, i9, k9, hi9, hk9, ed9, ee9, hs9⟩ := siP_e hI.2.1 hj hz1
      rw [hz6] at he9
      cases he9
      subst ed9
      subst ee9
      refine gf_X9_380 F hB dX9_canGo_19 (Lp _ hj).1 ?_
      refine lv_if_ne (tgt := 32) hx hb dX9_canGo_22 (by decide) (fun c22 => ?_) (fun c22 => ?_)
      · refine lv_iconst (v := 0) hx hb dX9_canGo_32 (by decide) ?_
        exact cl_zret F hB hrt dX9_canGo_33 (by first | rfl | exact (cl_nfz hb101).1) (by first | exact ⟨⟨_, rfl, fun z => absurd rfl z⟩, rfl⟩ | exact ⟨⟨_, rfl, fun _ => ⟨⟨_, hz1⟩, h29⟩⟩, rfl⟩ | fail "no road")
      · refine lv_aload_n hx hb dX9_canGo_25 rfl (lv_at hl 3 rfl) ?_
        refine gf_X9_356 F hB dX9_canGo_26 (Lp _ hj).1 ?_
        refine lv_if_ne (tgt := 34) hx hb dX9_canGo_29 (by decide) (fun c29 => ?_) (fun c29 => ?_)
        · refine lv_aload_n hx hb dX9_canGo_34 rfl (lv_at hl 3 rfl) ?_
          refine lv_iconst (v := 0) hx hb dX9_canGo_35 (by decide) ?_
          have h29 : 1 ≤ (sgI σ (yp Y j) 13).toInt := by
            have : (sgI σ (yp Y j) 13).toInt ≠ 0 := fun z => c29 (i_eq.mpr (by rw [e0]; exact z))
            omega
          refine cl_callN (ci := 10) F hB (k_trAt l D cy hB.2 hj _ _) ⟨va_cnB 1 F.1.2.2.2.2 (vgN (vm_2 _ (List.mem_of_getElem? (i := 25) rfl))) rfl rfl rfl (F.2.2.1.1 _ nf_129) (F.1.2.2.2.2 _ (List.mem_cons_of_mem _ (vm_2 _ (List.mem_of_getElem? (i := 22) rfl)))) ⟨by decide, by decide, by decide +kernel⟩ ⟨Nat.le_of_ble_eq_true rfl, Nat.le_of_ble_eq_true rfl⟩, F.1.2.2.2.2 _ (List.mem_cons_of_mem _ (vm_2 _ (List.mem_of_getElem? (i := 30) rfl))), F.1.2.2.2.2 _ (List.mem_cons_of_mem _ (vm_2 _ (List.mem_of_getElem? (i := 31) rfl)))⟩ rfl rfl (by decide) rfl hl.1 rfl (Nat.le_of_ble_eq_true rfl) dX9_canGo_36 ⟨Nat.le_of_ble_eq_true rfl, Nat.le_of_ble_eq_true rfl⟩ (Lp _ hj).1 (fun H locs v σ36 hB hP => ?_)
          obtain ⟨rfl, rfl⟩ := hP
          refine lv_astore (lv' := [(4, .ref _), (3, .ref _), (2, .ref _), (0, .ref _), (1, .ref _)]) hx hb dX9_canGo_39 hl (by decide) rfl (fun ls hl => ?_)
          refine lv_aload hx hb dX9_canGo_41 (lv_at hl 0 rfl) ?_
          refine gf_X9_377 F hB dX9_canGo_43 ((Lt _ hj).2.2 _ hT9).2 ?_
          refine lv_if_eq (tgt := 69) hx hb dX9_canGo_46 (by decide) (fun c46 => ?_) (fun c46 => ?_)
          · refine lv_iconst (v := 0) hx hb dX9_canGo_69 (by decide) ?_
            exact cl_zret F hB hrt dX9_canGo_70 (by first | rfl | exact (cl_nfz hb101).1) (by first | exact ⟨⟨_, rfl, fun z => absurd rfl z⟩, rfl⟩ | exact ⟨⟨_, rfl, fun _ => ⟨⟨_, hz1⟩, h29⟩⟩, rfl⟩ | fail "no road")
          · refine lv_aload_n hx hb dX9_canGo_49 rfl (lv_at hl 2 rfl) ?_
            refine gf_X9_74 F hB dX9_canGo_50 (Ld _ hi9).1 ?_
            refine lv_bipush (v := 99) hx hb dX9_canGo_53 (by decide) ?_
            refine lv_icmp_ne (tgt := 69) hx hb dX9_canGo_55 (by decide) (fun c55 => ?_) (fun c55 => ?_)
            · refine lv_iconst (v := 0) hx hb dX9_canGo_69 (by decide) ?_
              exact cl_zret F hB hrt dX9_canGo_70 (by first | rfl | exact (cl_nfz hb101).1) (by first | exact ⟨⟨_, rfl, fun z => absurd rfl z⟩, rfl⟩ | exact ⟨⟨_, rfl, fun _ => ⟨⟨_, hz1⟩, h29⟩⟩, rfl⟩ | fail "no road")
            · refine lv_aload_n hx hb dX9_canGo_58 rfl (lv_at hl 3 rfl) ?_
              refine gf_X9_252 F hB dX9_canGo_59 LX.1 ?_
              refine lv_aload_n hx hb dX9_canGo_62 rfl (lv_at hl 2 rfl) ?_
              refine gf_X9_255 F hB dX9_canGo_63 (Ld _ hi9).1 ?_
              refine lv_icmp_gt (tgt := 71) hx hb dX9_canGo_66 (by decide) (fun c66 => ?_) (fun c66 => ?_)
              · refine lv_aload_n hx hb dX9_canGo_71 rfl (lv_at hl 1 rfl) ?_
                refine lv_aload hx hb dX9_canGo_72 (lv_at hl 0 rfl) ?_
                refine cl_callS F hB (k_bp l D cy hB.2 hj hi9 hk9 hT9 (fun z => hI.2.2.2.1 j hj _ hz6 z 0 (by decide) (by rw [e0]; omega)) _) (cwS 2 F.1.2.2.2.2 (vgS (vm_9 _ (List.mem_of_getElem? (i := 2) rfl)) (vm_9 _ (List.mem_of_getElem? (i := 3) rfl)) (vm_4 _ (List.mem_of_getElem? (i := 20) rfl)) (vm_8 _ (List.mem_of_getElem? (i := 38) rfl))) rfl rfl rfl ⟨rfl, by decide, by decide, by decide +kernel⟩ ⟨Nat.le_of_ble_eq_true rfl, Nat.le_of_ble_eq_true rfl⟩) rfl hl.1 rfl (Nat.le_of_ble_eq_true rfl) dX9_canGo_74 ⟨Nat.le_of_ble_eq_true rfl, Nat.le_of_ble_eq_true rfl⟩ (fun H locs v σ74 hB hP => ?_)
                obtain ⟨⟨z74, rfl, hz74, hy74⟩, rfl⟩ := hP
                refine lv_istore (lv' := [(5, .int _), (4, .ref _), (3, .ref _), (2, .ref _), (0, .ref _), (1, .ref _)]) hx hb dX9_canGo_77 hl (by decide) rfl (fun ls hl => ?_)
                refine lv_aload_n hx hb dX9_canGo_79 rfl (lv_at hl 4 rfl) ?_
                refine gr_X9_45 F hB dX9_canGo_80 LX.1 LX.2.2.2.1 ?_
                refine lv_iload hx hb dX9_canGo_83 (lv_at hl 0 rfl) ?_
                refine cl_callS F hB (k_hostCost l D cy hB.2 _ _) (cwS 1 F.1.2.2.2.2 (vgS (vm_5 _ (List.mem_of_getElem? (i := 10) rfl)) (vm_5 _ (List.mem_of_getElem? (i := 11) rfl)) (vm_4 _ (List.mem_of_getElem? (i := 20) rfl)) (vm_5 _ (List.mem_of_getElem? (i := 7) rfl))) rfl rfl rfl ⟨rfl, by decide, by decide, by decide +kernel⟩ ⟨Nat.le_of_ble_eq_true rfl, Nat.le_of_ble_eq_true rfl⟩) rfl hl.1 rfl (Nat.le_of_ble_eq_true rfl) dX9_canGo_85 ⟨Nat.le_of_ble_eq_true rfl, Nat.le_of_ble_eq_true rfl⟩ (fun H locs v σ85 hB hP => ?_)
                obtain ⟨rfl, rfl⟩ := hP
                refine lv_aload_n hx hb dX9_canGo_88 rfl (lv_at hl 3 rfl) ?_
                refine gf_X9_182 F hB dX9_canGo_89 (Ld _ hi9).1 ?_
                refine lv_aload_n hx hb dX9_canGo_92 rfl (lv_at hl 3 rfl) ?_
                refine gf_X9_109 F hB dX9_canGo_93 (Ld _ hi9).1 ?_
                refine lv_iload hx hb dX9_canGo_96 (lv_at hl 0 rfl) ?_
                refine cl_callS F hB (k_hubCost l D cy hB.2 _ _ (by omega) (by omega) _) (cwS 2 F.1.2.2.2.2 (vgS (vm_5 _ (List.mem_of_getElem? (i := 12) rfl)) (vm_5 _ (List.mem_of_getElem? (i := 13) rfl)) (vm_4 _ (List.mem_of_getElem? (i := 20) rfl)) (vm_5 _ (List.mem_of_getElem? (i := 8) rfl))) rfl rfl rfl ⟨rfl, by decide, by decide, by decide +kernel⟩ ⟨Nat.le_of_ble_eq_true rfl, Nat.le_of_ble_eq_true rfl⟩) rfl hl.1 rfl (Nat.le_of_ble_eq_true rfl) dX9_canGo_98 ⟨Nat.le_of_ble_eq_true rfl, Nat.le_of_ble_eq_true rfl⟩ (fun H locs v σ98 hB hP => ?_)
                obtain ⟨⟨z98, rfl, hz98⟩, rfl⟩ := hP
                refine cl_callN (ci := 13) F hB (k_room l D cy hB.2 _ _ _ _) ⟨va_cnB 3 F.1.2.2.2.2 (vgN (vm_3 _ (List.mem_of_getElem? (i := 2) rfl))) rfl rfl rfl (F.2.2.1.1 _ nf_134) (F.1.2.2.2.2 _ (List.mem_cons_of_mem _ (vm_3 _ (List.mem_of_getElem? (i := 15) rfl)))) ⟨by decide, by decide, by decide +kernel⟩ ⟨Nat.le_of_ble_eq_true rfl, Nat.le_of_ble_eq_true rfl⟩, F.1.2.2.2.2 _ (List.mem_cons_of_mem _ (vm_9 _ (List.mem_of_getElem? (i := 4) rfl))), F.1.2.2.2.2 _ (List.mem_cons_of_mem _ (vm_9 _ (List.mem_of_getElem? (i := 5) rfl)))⟩ rfl rfl (by decide) rfl hl.1 rfl (Nat.le_of_ble_eq_true rfl) dX9_canGo_101 ⟨Nat.le_of_ble_eq_true rfl, Nat.le_of_ble_eq_true rfl⟩ LU.1 (fun H locs v σ101 hB hP => ?_)
                obtain ⟨⟨b101, rfl, hb101⟩, rfl⟩ := hP
                exact cl_zret F hB hrt dX9_canGo_104 (by first | rfl | exact (cl_nfz hb101).1) (by first | exact ⟨⟨_, rfl, fun z => absurd rfl z⟩, rfl⟩ | exact ⟨⟨_, rfl, fun _ => ⟨⟨_, hz1⟩, h29⟩⟩, rfl⟩ | fail "no road")
              · refine lv_iconst (v := 0) hx hb dX9_canGo_69 (by decide) ?_
                exact cl_zret F hB hrt dX9_canGo_70 (by first | rfl | exact (cl_nfz hb101).1) (by first | exact ⟨⟨_, rfl, fun z => absurd rfl z⟩, rfl⟩ | exact ⟨⟨_, rfl, fun _ => ⟨⟨_, hz1⟩, h29⟩⟩, rfl⟩ | fail "no road")
        · refine lv_iconst (v := 0) hx hb dX9_canGo_32 (by decide) ?_
          exact cl_zret F hB hrt dX9_canGo_33 (by first | rfl | exact (cl_nfz hb101).1) (by first | exact ⟨⟨_, rfl, fun z => absurd rfl z⟩, rfl⟩ | exact ⟨⟨_, rfl, fun _ => ⟨⟨_, hz1⟩, h29⟩⟩, rfl⟩ | fail "no road")

theorem dX9_nextBulkPipe_0 : decode cX9_nextBulkPipe 0 = .ok (.iconst 1, 1) := by decide +kernel
theorem dX9_nextBulkPipe_1 : decode cX9_nextBulkPipe 1 = .ok (.istore_n 1, 1) := by decide +kernel
theorem dX9_nextBulkPipe_2 : decode cX9_nextBulkPipe 2 = .ok (.iload_n 1, 1) := by decide +kernel
theorem dX9_nextBulkPipe_3 : decode cX9_nextBulkPipe 3 = .ok (.bipush 12, 2) := by decide +kernel
theorem dX9_nextBulkPipe_5 : decode cX9_nextBulkPipe 5 = .ok (.if_icmp .gt 50, 3) := by decide +kernel
theorem dX9_nextBulkPipe_8 : decode cX9_nextBulkPipe 8 = .ok (.aload_n 0, 1) := by decide +kernel
theorem dX9_nextBulkPipe_9 : decode cX9_nextBulkPipe 9 = .ok (.getfield 24, 3) := by decide +kernel
theorem dX9_nextBulkPipe_12 : decode cX9_nextBulkPipe 12 = .ok (.aload_n 0, 1) := by decide +kernel
theorem dX9_nextBulkPipe_13 : decode cX9_nextBulkPipe 13 = .ok (.getfield 28, 3) := by decide +kernel
theorem dX9_nextBulkPipe_16 : decode cX9_nextBulkPipe 16 = .ok (.iload_n 1, 1) := by decide +kernel
theorem dX9_nextBulkPipe_17 : decode cX9_nextBulkPipe 17 = .ok (.iadd, 1) := by decide +kernel
theorem dX9_nextBulkPipe_18 : decode cX9_nextBulkPipe 18 = .ok (.bipush 12, 2) := by decide +kernel
theorem dX9_nextBulkPipe_20 : decode cX9_nextBulkPipe 20 = .ok (.irem, 1) := by decide +kernel
theorem dX9_nextBulkPipe_21 : decode cX9_nextBulkPipe 21 = .ok (.aaload, 1) := by decide +kernel
theorem dX9_nextBulkPipe_22 : decode cX9_nextBulkPipe 22 = .ok (.astore_n 2, 1) := by decide +kernel
theorem dX9_nextBulkPipe_23 : decode cX9_nextBulkPipe 23 = .ok (.aload_n 2, 1) := by decide +kernel
theorem dX9_nextBulkPipe_24 : decode cX9_nextBulkPipe 24 = .ok (.getfield 574, 3) := by decide +kernel
theorem dX9_nextBulkPipe_27 : decode cX9_nextBulkPipe 27 = .ok (.bipush 98, 2) := by decide +kernel
theorem dX9_nextBulkPipe_29 : decode cX9_nextBulkPipe 29 = .ok (.if_icmp .ne 20, 3) := by decide +kernel
theorem dX9_nextBulkPipe_32 : decode cX9_nextBulkPipe 32 = .ok (.aload_n 2, 1) := by decide +kernel
theorem dX9_nextBulkPipe_33 : decode cX9_nextBulkPipe 33 = .ok (.getfield 427, 3) := by decide +kernel
theorem dX9_nextBulkPipe_36 : decode cX9_nextBulkPipe 36 = .ok (.ifCond .ne 13, 3) := by decide +kernel
theorem dX9_nextBulkPipe_39 : decode cX9_nextBulkPipe 39 = .ok (.aload_n 0, 1) := by decide +kernel
theorem dX9_nextBulkPipe_40 : decode cX9_nextBulkPipe 40 = .ok (.aload_n 2, 1) := by decide +kernel
theorem dX9_nextBulkPipe_41 : decode cX9_nextBulkPipe 41 = .ok (.invokevirtual 433, 3) := by decide +kernel
theorem dX9_nextBulkPipe_44 : decode cX9_nextBulkPipe 44 = .ok (.ifCond .eq 5, 3) := by decide +kernel
theorem dX9_nextBulkPipe_47 : decode cX9_nextBulkPipe 47 = .ok (.aload_n 2, 1) := by decide +kernel
theorem dX9_nextBulkPipe_48 : decode cX9_nextBulkPipe 48 = .ok (.areturn, 1) := by decide +kernel
theorem dX9_nextBulkPipe_49 : decode cX9_nextBulkPipe 49 = .ok (.iinc 1 1, 3) := by decide +kernel
theorem dX9_nextBulkPipe_52 : decode cX9_nextBulkPipe 52 = .ok (.goto (-50), 3) := by decide +kernel
theorem dX9_nextBulkPipe_55 : decode cX9_nextBulkPipe 55 = .ok (.aconst_null, 1) := by decide +kernel
theorem dX9_nextBulkPipe_56 : decode cX9_nextBulkPipe 56 = .ok (.areturn, 1) := by decide +kernel
set_option maxRecDepth 100000 in
set_option maxHeartbeats 4000000 in
theorem k_nbp (l : Launch) (D : va_G) (cy : Nat → ClassId) {ad τ : List Nat} {Y : CY} {σ : SG} (hV : VL cy ad τ Y σ) {B : Int} (hI : SI Y σ B) (sz : Nat) : clM l D cy ad τ Y σ sz yX9_nextBulkPipe (Cond.code yX9_nextBulkPipe cX9_nextBulkPipe 3 (some (.object "Hubcascade$Pipe")) :: vWall) 4 81 [.ref (yX Y)] (fun v s2 => (∃ r9 : Option Nat, v = some (va_rf r9) ∧ (r9 = none ∨ ∃ j, j < 12 ∧ r9 = some (yp Y j) ∧ (∃ d, sgR σ (yp Y j) 1 = some d) ∧ 1 ≤ (sgI σ (yp Y j) 13).toInt)) ∧ σ = s2) := by
  refine cl_ofW (cc := cX9_nextBulkPipe) (maxL := 3) (ret := (some (.object "Hubcascade$Pipe"))) hV (by decide) rfl (Nat.le_of_ble_eq_true rfl) (lv := [(0, .ref (yX Y))]) rfl (fun p e s m below meth c ls H hrt hnm F hB hl => ?_) sz
  have hx := F.1.1
  have hb := F.1.2.1
  have hown := F.1.2.2.2.1
  generalize hlo : ([] : List Loc) = locs at hB ⊢
  clear hlo
  obtain ⟨LX, LD, Ld, LE, Le, LP9, Lp, Lt, LU, LA, Lz⟩ := hV.2
  have e0 : (0 : Int32).toInt = 0 := rfl
  have e1 : (1 : Int32).toInt = 1 := rfl
  have e16 : (16 : Int32).toInt = 16 := rfl
  have e12 : (12 : Int32).toInt = 12 := rfl
  have e4 : (4 : Int32).toInt = 4 := rfl
  have e8 : (8 : Int32).toInt = 8 := rfl
  have cl6 := VT_in (ci := 14) (k := 6) (t := 0) (lo := 0) (hi := 11) hV.1 LX.1 (by decide) rfl (by decide) (by decide +kernel)
  refine lv_iconst (v := 1) hx hb dX9_nextBulkPipe_0 (by decide) ?_
  refine lv_istore_n (lv' := [(1, .int _), (0, .ref _)]) hx hb dX9_nextBulkPipe_1 rfl hl (by decide) rfl (fun ls hl => ?_)
  have key2 : ∃ i1 : Int32, clB D cy ad τ Y s σ H locs ∧ lv_has ls 3 [(1, .int i1), (0, .ref (yX Y))] ∧ (1 ≤ i1.toInt ∧ i1.toInt ≤ 13) := ⟨_, hB, (lv_sub hl [0, 1] rfl), ⟨by decide, by decide⟩⟩
  clear hB hl
  obtain ⟨i1, hB, hl, hi1⟩ := key2
  obtain ⟨d2, hd2⟩ : ∃ d : Nat, d = 20 - i1.toInt.toNat := ⟨_, rfl⟩
  induction d2 using Nat.strongRecOn generalizing H locs ls i1
  rename_i d2 ih2
  refine lv_iload_n hx hb dX9_nextBulkPipe_2 rfl (lv_at hl 0 rfl) ?_
  refine lv_bipush (v := 12) hx hb dX9_nextBulkPipe_3 (by decide) ?_
  refine lv_icmp_gt (tgt := 55) hx hb dX9_nextBulkPipe_5 (by decide) (fun c5 => ?_) (fun c5 => ?_)
  · refine lv_null hx hb dX9_nextBulkPipe_55 ?_
    exact cl_aret F hB hrt (Or.inl ⟨_, rfl⟩) (Or.inl rfl) dX9_nextBulkPipe_56 (⟨⟨none, rfl, Or.inl rfl⟩, rfl⟩)
  · refine lv_aload_n hx hb dX9_nextBulkPipe_8 rfl (lv_at hl 1 rfl) ?_
    have hn := i_nlt c5
    have ea : (sgI σ (yX Y) 6 + i1).toInt = (sgI σ (yX Y) 6).toInt + i1.toInt := i_add (by omega) (by omega)
    have hr := rem12 (x := sgI σ (yX Y) 6 + i1) (by omega) (by omega)
    have hj : (sgI σ (yX Y) 6 + i1 - (sgI σ (yX Y) 6 + i1) / 12 * 12).toInt.toNat < 12 := by omega
    refine gr_X9_24 F hB dX9_nextBulkPipe_9 LX.1 LX.2.2.1 ?_
    refine lv_aload_n hx hb dX9_nextBulkPipe_12 rfl (lv_at hl 1 rfl) ?_
    refine gf_X9_28 F hB dX9_nextBulkPipe_13 LX.1 ?_
    refine lv_iload_n hx hb dX9_nextBulkPipe_16 rfl (lv_at hl 0 rfl) ?_
    refine lv_iadd hx hb dX9_nextBulkPipe_17 ?_
    refine lv_bipush (v := 12) hx hb dX9_nextBulkPipe_18 (by decide) ?_
    refine lv_irem hx hb dX9_nextBulkPipe_20 (by decide) ?_
    refine sg_aald 6 hx hb F.2.1 hB.1 rfl rfl dX9_nextBulkPipe_21 LP9.1 (by omega) (by rw [LP9.2.1]; omega) (by rw [LP9.2.1]; decide) ?_
    rw [show sgR _ _ _ = some _ from LP9.2.2 _ hj]
    refine lv_astore_n (lv' := [(2, .ref _), (1, .int _), (0, .ref _)]) hx hb dX9_nextBulkPipe_22 rfl hl (by decide) rfl (fun ls hl => ?_)
    refine lv_aload_n hx hb dX9_nextBulkPipe_23 rfl (lv_at hl 0 rfl) ?_
    refine gf_X9_574 F hB dX9_nextBulkPipe_24 (Lp _ hj).1 ?_
    refine lv_bipush (v := 98) hx hb dX9_nextBulkPipe_27 (by decide) ?_
    refine lv_icmp_ne (tgt := 49) hx hb dX9_nextBulkPipe_29 (by decide) (fun c29 => ?_) (fun c29 => ?_)
    · refine lv_iinc (lv' := [(1, .int _), (2, .ref _), (0, .ref _)]) hx hb dX9_nextBulkPipe_49 hl (k := 1) rfl rfl (by decide) rfl (fun ls hl => ?_)
      refine lv_goto (tgt := 2) hx hb dX9_nextBulkPipe_52 (by decide) ?_
      have q9 := cl_add1 (x := i1) (by omega) (by omega)
      exact ih2 _ (by subst hd2; rw [q9]; omega) _ _ _ _ hB (lv_sub hl [0, 2] rfl) ⟨by rw [q9]; omega, by rw [q9]; omega⟩ rfl
    · refine lv_aload_n hx hb dX9_nextBulkPipe_32 rfl (lv_at hl 0 rfl) ?_
      refine gf_X9_427 F hB dX9_nextBulkPipe_33 (Lp _ hj).1 ?_
      refine lv_if_ne (tgt := 49) hx hb dX9_nextBulkPipe_36 (by decide) (fun c36 => ?_) (fun c36 => ?_)
      · refine lv_iinc (lv' := [(1, .int _), (2, .ref _), (0, .ref _)]) hx hb dX9_nextBulkPipe_49 hl (k := 1) rfl rfl (by decide) rfl (fun ls hl => ?_)
        refine lv_goto (tgt := 2) hx hb dX9_nextBulkPipe_52 (by decide) ?_
        have q9 := cl_add1 (x := i1) (by omega) (by omega)
        exact ih2 _ (by subst hd2; rw [q9]; omega) _ _ _ _ hB (lv_sub hl [0, 2] rfl) ⟨by rw [q9]; omega, by rw [q9]; omega⟩ rfl
      · refine lv_aload_n hx hb dX9_nextBulkPipe_39 rfl (lv_at hl 2 rfl) ?_
        refine lv_aload_n hx hb dX9_nextBulkPipe_40 rfl (lv_at hl 0 rfl) ?_
        refine cl_callV (ci := 14) F hB (k_canGo l D cy hB.2 hI hj _) (cwV 1 F.1.2.2.2.2 (vgV (vm_9 _ (List.mem_of_getElem? (i := 38) rfl)) (vm_9 _ (List.mem_of_getElem? (i := 39) rfl)) (vm_10 _ (List.mem_of_getElem? (i := 0) rfl)) (vm_4 _ (List.mem_of_getElem? (i := 20) rfl)) (vm_9 _ (List.mem_of_getElem? (i := 6) rfl))) rfl rfl rfl ⟨rfl, by decide, by decide, by decide +kernel⟩ ⟨Nat.le_of_ble_eq_true rfl, Nat.le_of_ble_eq_true rfl⟩) rfl rfl (by decide) rfl hl.1 rfl (Nat.le_of_ble_eq_true rfl) dX9_nextBulkPipe_41 ⟨Nat.le_of_ble_eq_true rfl, Nat.le_of_ble_eq_true rfl⟩ LX.1 (fun H locs v σ41 hB hP => ?_)
        obtain ⟨⟨b41, rfl, hb41⟩, rfl⟩ := hP
        refine lv_if_eq (tgt := 49) hx hb dX9_nextBulkPipe_44 (by decide) (fun c44 => ?_) (fun c44 => ?_)
        · refine lv_iinc (lv' := [(1, .int _), (2, .ref _), (0, .ref _)]) hx hb dX9_nextBulkPipe_49 hl (k := 1) rfl rfl (by decide) rfl (fun ls hl => ?_)
          refine lv_goto (tgt := 2) hx hb dX9_nextBulkPipe_52 (by decide) ?_
          have q9 := cl_add1 (x := i1) (by omega) (by omega)
          exact ih2 _ (by subst hd2; rw [q9]; omega) _ _ _ _ hB (lv_sub hl [0, 2] rfl) ⟨by rw [q9]; omega, by rw [q9]; omega⟩ rfl
        · refine lv_aload_n hx hb dX9_nextBulkPipe_47 rfl (lv_at hl 0 rfl) ?_
          exact cl_aret F hB hrt (Or.inl ⟨_, rfl⟩) (Or.inr ⟨_, rfl⟩) dX9_nextBulkPipe_48 (⟨⟨some _, rfl, Or.inr ⟨_, hj, rfl, hb41 c44⟩⟩, rfl⟩)
end CLK14
