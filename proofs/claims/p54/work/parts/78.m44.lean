section MM44
theorem aa_le {z s : Int32} {N sz m : Nat} (hz : z.toInt = m) (hs : s.toInt = sz) (hm : m ≤ 16) (hN : N < 1000000) (hsz : sz ≤ N) (c : z ≤ nI N - s) : sz + m ≤ N := by
  have e1 : (nI N).toInt = N := nI_toInt (by omega)
  have e2 := i_le c
  rw [i_sub (by omega) (by omega)] at e2
  omega
theorem aa_nle {z s : Int32} {N sz m : Nat} (hz : z.toInt = m) (hs : s.toInt = sz) (hm : m ≤ 16) (hN : N < 1000000) (hsz : sz ≤ N) (c : ¬ z ≤ nI N - s) : N < sz + m := by
  have e1 : (nI N).toInt = N := nI_toInt (by omega)
  have e2 := i_nle c
  rw [i_sub (by omega) (by omega)] at e2
  omega
theorem aa_pot {S : SG} {a m : Nat} {x : Int32} (h : x.toInt.toNat ≤ (sgI S a 2).toInt.toNat + m) (hm : m ≤ 16) : sgPot (sgPI S a 2 x) ≤ sgPot S + 80 := Nat.le_trans (sgPot_size (e := m) h) (by omega)
theorem aa_K2 {ia : Nat → Nat} {σ : SG} {l r q1 q2 w k : Nat} {y0 : Int32} (hk : ∀ j y, sgR σ q1 j = some y → sgK ia σ y) (hq2 : sgT σ q2 = 0) (n1 : q1 ≠ q2) (n2 : q1 ≠ l) (j y : Nat) (hy : sgR (sgPR (sgCp (sgNw (sgPI σ l 0 y0) q2 110 w) r q2 0 0 k) l 1 (some q2)) q1 j = some y) : sgK ia (sgPR (sgCp (sgNw (sgPI σ l 0 y0) q2 110 w) r q2 0 0 k) l 1 (some q2)) y := by
  have e : sgR (sgPR (sgCp (sgNw (sgPI σ l 0 y0) q2 110 w) r q2 0 0 k) l 1 (some q2)) q1 j = sgR σ q1 j := by
    show (if q1 = l ∧ j = 1 then some q2 else if q1 = q2 then va_cpy (sgR (sgNw (sgPI σ l 0 y0) q2 110 w) r) (sgR (sgNw (sgPI σ l 0 y0) q2 110 w) q2) 0 0 k j else if q1 = q2 then none else sgR σ q1 j) = _
    rw [if_neg (fun z => n2 z.1), if_neg n1, if_neg n1]
  rw [e] at hy
  exact sgK_nw (σ := sgPI σ l 0 y0) (n := w) hq2 (hk j y hy)
theorem aa_K3 {ia : Nat → Nat} {σ : SG} {l q1 q2 w : Nat} {y0 : Int32} (hk : ∀ j y, sgR σ q1 j = some y → sgK ia σ y) (hq2 : sgT σ q2 = 0) (n1 : q1 ≠ q2) (n2 : q1 ≠ l) (j y : Nat) (hy : sgR (sgPR (sgNw (sgPI σ l 0 y0) q2 110 w) l 1 (some q2)) q1 j = some y) : sgK ia (sgPR (sgNw (sgPI σ l 0 y0) q2 110 w) l 1 (some q2)) y := by
  have e : sgR (sgPR (sgNw (sgPI σ l 0 y0) q2 110 w) l 1 (some q2)) q1 j = sgR σ q1 j := by
    show (if q1 = l ∧ j = 1 then some q2 else if q1 = q2 then none else sgR σ q1 j) = _
    rw [if_neg (fun z => n2 z.1), if_neg n1]
  rw [e] at hy
  exact sgK_nw (σ := sgPI σ l 0 y0) (n := w) hq2 (hk j y hy)
theorem dJx4a65c_addAll_f0b43_0 : decode cJx4a65c_addAll_f0b43 0 = .ok (.aload_n 1, 1) := by decide +kernel
theorem dJx4a65c_addAll_f0b43_1 : decode cJx4a65c_addAll_f0b43 1 = .ok (.invokeinterface 42 1, 5) := by decide +kernel
theorem dJx4a65c_addAll_f0b43_6 : decode cJx4a65c_addAll_f0b43 6 = .ok (.astore_n 2, 1) := by decide +kernel
theorem dJx4a65c_addAll_f0b43_7 : decode cJx4a65c_addAll_f0b43 7 = .ok (.aload_n 0, 1) := by decide +kernel
theorem dJx4a65c_addAll_f0b43_8 : decode cJx4a65c_addAll_f0b43 8 = .ok (.dup, 1) := by decide +kernel
theorem dJx4a65c_addAll_f0b43_9 : decode cJx4a65c_addAll_f0b43 9 = .ok (.getfield 63, 3) := by decide +kernel
theorem dJx4a65c_addAll_f0b43_12 : decode cJx4a65c_addAll_f0b43 12 = .ok (.iconst 1, 1) := by decide +kernel
theorem dJx4a65c_addAll_f0b43_13 : decode cJx4a65c_addAll_f0b43 13 = .ok (.iadd, 1) := by decide +kernel
theorem dJx4a65c_addAll_f0b43_14 : decode cJx4a65c_addAll_f0b43 14 = .ok (.putfield 63, 3) := by decide +kernel
theorem dJx4a65c_addAll_f0b43_17 : decode cJx4a65c_addAll_f0b43 17 = .ok (.aload_n 2, 1) := by decide +kernel
theorem dJx4a65c_addAll_f0b43_18 : decode cJx4a65c_addAll_f0b43 18 = .ok (.arraylength, 1) := by decide +kernel
theorem dJx4a65c_addAll_f0b43_19 : decode cJx4a65c_addAll_f0b43 19 = .ok (.istore_n 3, 1) := by decide +kernel
theorem dJx4a65c_addAll_f0b43_20 : decode cJx4a65c_addAll_f0b43 20 = .ok (.iload_n 3, 1) := by decide +kernel
theorem dJx4a65c_addAll_f0b43_21 : decode cJx4a65c_addAll_f0b43 21 = .ok (.ifCond .ne 5, 3) := by decide +kernel
theorem dJx4a65c_addAll_f0b43_24 : decode cJx4a65c_addAll_f0b43 24 = .ok (.iconst 0, 1) := by decide +kernel
theorem dJx4a65c_addAll_f0b43_25 : decode cJx4a65c_addAll_f0b43 25 = .ok (.ireturn, 1) := by decide +kernel
theorem dJx4a65c_addAll_f0b43_26 : decode cJx4a65c_addAll_f0b43 26 = .ok (.iload_n 3, 1) := by decide +kernel
theorem dJx4a65c_addAll_f0b43_27 : decode cJx4a65c_addAll_f0b43 27 = .ok (.aload_n 0, 1) := by decide +kernel
theorem dJx4a65c_addAll_f0b43_28 : decode cJx4a65c_addAll_f0b43 28 = .ok (.getfield 9, 3) := by decide +kernel
theorem dJx4a65c_addAll_f0b43_31 : decode cJx4a65c_addAll_f0b43 31 = .ok (.dup, 1) := by decide +kernel
theorem dJx4a65c_addAll_f0b43_32 : decode cJx4a65c_addAll_f0b43 32 = .ok (.astore 4, 2) := by decide +kernel
theorem dJx4a65c_addAll_f0b43_34 : decode cJx4a65c_addAll_f0b43 34 = .ok (.arraylength, 1) := by decide +kernel
theorem dJx4a65c_addAll_f0b43_35 : decode cJx4a65c_addAll_f0b43 35 = .ok (.aload_n 0, 1) := by decide +kernel
theorem dJx4a65c_addAll_f0b43_36 : decode cJx4a65c_addAll_f0b43 36 = .ok (.getfield 48, 3) := by decide +kernel
theorem dJx4a65c_addAll_f0b43_39 : decode cJx4a65c_addAll_f0b43 39 = .ok (.dup, 1) := by decide +kernel
theorem dJx4a65c_addAll_f0b43_40 : decode cJx4a65c_addAll_f0b43 40 = .ok (.istore 5, 2) := by decide +kernel
theorem dJx4a65c_addAll_f0b43_42 : decode cJx4a65c_addAll_f0b43 42 = .ok (.isub, 1) := by decide +kernel
theorem dJx4a65c_addAll_f0b43_43 : decode cJx4a65c_addAll_f0b43 43 = .ok (.if_icmp .le 13, 3) := by decide +kernel
theorem dJx4a65c_addAll_f0b43_46 : decode cJx4a65c_addAll_f0b43 46 = .ok (.aload_n 0, 1) := by decide +kernel
theorem dJx4a65c_addAll_f0b43_47 : decode cJx4a65c_addAll_f0b43 47 = .ok (.iload 5, 2) := by decide +kernel
theorem dJx4a65c_addAll_f0b43_49 : decode cJx4a65c_addAll_f0b43 49 = .ok (.iload_n 3, 1) := by decide +kernel
theorem dJx4a65c_addAll_f0b43_50 : decode cJx4a65c_addAll_f0b43 50 = .ok (.iadd, 1) := by decide +kernel
theorem dJx4a65c_addAll_f0b43_51 : decode cJx4a65c_addAll_f0b43 51 = .ok (.invokevirtual 69, 3) := by decide +kernel
theorem dJx4a65c_addAll_f0b43_54 : decode cJx4a65c_addAll_f0b43 54 = .ok (.astore 4, 2) := by decide +kernel
theorem dJx4a65c_addAll_f0b43_56 : decode cJx4a65c_addAll_f0b43 56 = .ok (.aload_n 2, 1) := by decide +kernel
theorem dJx4a65c_addAll_f0b43_57 : decode cJx4a65c_addAll_f0b43 57 = .ok (.iconst 0, 1) := by decide +kernel
theorem dJx4a65c_addAll_f0b43_58 : decode cJx4a65c_addAll_f0b43 58 = .ok (.aload 4, 2) := by decide +kernel
theorem dJx4a65c_addAll_f0b43_60 : decode cJx4a65c_addAll_f0b43 60 = .ok (.iload 5, 2) := by decide +kernel
theorem dJx4a65c_addAll_f0b43_62 : decode cJx4a65c_addAll_f0b43 62 = .ok (.iload_n 3, 1) := by decide +kernel
theorem dJx4a65c_addAll_f0b43_63 : decode cJx4a65c_addAll_f0b43 63 = .ok (.invokestatic 112, 3) := by decide +kernel
theorem dJx4a65c_addAll_f0b43_66 : decode cJx4a65c_addAll_f0b43 66 = .ok (.aload_n 0, 1) := by decide +kernel
theorem dJx4a65c_addAll_f0b43_67 : decode cJx4a65c_addAll_f0b43 67 = .ok (.iload 5, 2) := by decide +kernel
theorem dJx4a65c_addAll_f0b43_69 : decode cJx4a65c_addAll_f0b43 69 = .ok (.iload_n 3, 1) := by decide +kernel
theorem dJx4a65c_addAll_f0b43_70 : decode cJx4a65c_addAll_f0b43 70 = .ok (.iadd, 1) := by decide +kernel
theorem dJx4a65c_addAll_f0b43_71 : decode cJx4a65c_addAll_f0b43 71 = .ok (.putfield 48, 3) := by decide +kernel
theorem dJx4a65c_addAll_f0b43_74 : decode cJx4a65c_addAll_f0b43 74 = .ok (.iconst 1, 1) := by decide +kernel
theorem dJx4a65c_addAll_f0b43_75 : decode cJx4a65c_addAll_f0b43 75 = .ok (.ireturn, 1) := by decide +kernel
set_option maxRecDepth 100000 in
set_option maxHeartbeats 4000000 in
theorem m_aaA (l : Launch) (D : va_G) (cy : Nat → ClassId) {eda ca : Nat} {ia : Nat → Nat} {σ : SG} {l0 l1 r ra sz1 m1 : Nat} (hL : sgLs σ l0 r sz1) (hel0 : ∀ j y : Nat, sgR σ r j = some y → sgK ia σ y) (hL1 : sgLs σ l1 ra m1) (hel1 : ∀ j y : Nat, sgR σ ra j = some y → sgK ia σ y) (hall : ∀ j, j < m1 → ∃ y, sgR σ ra j = some y) (hsm : sz1 + m1 ≤ 32) (hm16 : m1 ≤ 16) (sz : Nat) : sgM l D cy eda ca ia σ sz yJx4a65c_addAll_f0b43 (Cond.code yJx4a65c_addAll_f0b43 cJx4a65c_addAll_f0b43 6 (some .boolean) :: mWall) 4 107 2 192 [.ref l0, .ref l1] (fun v σ2 => ∃ b : Int32, v = some (.int b) ∧ ∃ q : Nat, sgT σ q = 0 ∧ ((m1 = 0 ∧ sgPI (aaC σ ra q m1) l0 0 (sgI (aaC σ ra q m1) l0 0 + 1) = σ2) ∨ sgAm l0 r sz1 m1 (aaE σ ra) (aaC σ ra q m1) σ2)) := by
  refine sg_ofW (cc := cJx4a65c_addAll_f0b43) (maxL := 6) (ret := (some .boolean)) (by decide) rfl (Nat.le_of_ble_eq_true rfl) (lv := [(0, .ref l0), (1, .ref l1)]) rfl (fun p e s m below meth c ls H N hrt hnm F hB hl => ?_) sz
  have hx := F.1.1
  have hb := F.1.2.1
  have hown := F.1.2.2.2.1
  refine lv_aload_n hx hb dJx4a65c_addAll_f0b43_0 rfl (lv_at hl 1 rfl) ?_
  have hb2 := hB.2.2
  refine sg_callFp (ci := 4) F hB (m_toArrA l D cy hL1 hel1 _) (va_cwF 0 F.1.2.2.2.2 (mgF (mm_9 _ (List.mem_of_getElem? (i := 25) rfl)) (mm_9 _ (List.mem_of_getElem? (i := 26) rfl)) (mm_9 _ (List.mem_of_getElem? (i := 27) rfl)) (mm_0 _ (List.mem_of_getElem? (i := 35) rfl)) (mm_9 _ (List.mem_of_getElem? (i := 24) rfl))) rfl rfl rfl F.2.2.2.1.2.2.2.2.2.2.2.2.2.2.2.1 (by decide +kernel) ⟨Nat.le_of_ble_eq_true rfl, Nat.le_of_ble_eq_true rfl⟩) rfl rfl (by decide) rfl hl.1 rfl (Nat.le_of_ble_eq_true rfl) dJx4a65c_addAll_f0b43_1 (Nat.le_of_ble_eq_true rfl) (by show N + m1 ≤ _ + sgPot σ; omega) hL1.1 (fun H locs v σ1 N hG hXa hX1 hP hNN hNm => ?_)
  obtain ⟨q1, rfl, hq1, rfl⟩ := hP
  have hN9 : N + sgPot (aaC σ ra q1 m1) ≤ _ := hNN
  have hBn := (⟨hG, hXa, by omega⟩ : sgB D cy s σ (aaC σ ra q1 m1) H locs N 16)
  clear hB; have hB := hBn; clear hBn
  have ed1 := sg_eda F hB
  obtain ⟨tq1, nq1, eq1, hO1, hn1, hk0⟩ := aa_0 hL1 hq1 hall
  have hk1 : ∀ j y, sgR (aaC σ ra q1 m1) q1 j = some y → sgK ia (aaC σ ra q1 m1) y := fun j y hy => by
    obtain ⟨j2, -, h2⟩ := hk0 j y hy
    exact sgK_mono (fun a ha => (hO1 a ha).1) (hel1 j2 y h2)
  have hL2 := sgLs_oFr hL hO1
  obtain ⟨t2, r2_, tr2, sz2, cap2, N2_⟩ := id hL2
  refine lv_astore_n (lv' := [(2, .ref _), (0, .ref _), (1, .ref _)]) hx hb dJx4a65c_addAll_f0b43_6 rfl hl (by decide) rfl (fun ls hl => ?_)
  refine lv_aload_n hx hb dJx4a65c_addAll_f0b43_7 rfl (lv_at hl 1 rfl) ?_
  refine lv_dup hx hb dJx4a65c_addAll_f0b43_8 rfl ?_
  refine gf_Jx4a65c_63 F hB dJx4a65c_addAll_f0b43_9 t2 ?_
  refine lv_iconst (v := 1) hx hb dJx4a65c_addAll_f0b43_12 (by decide) ?_
  refine lv_iadd hx hb dJx4a65c_addAll_f0b43_13 ?_
  refine pf_Jx4a65c_63 (d := 0) F hB dJx4a65c_addAll_f0b43_14 t2 sgPot_mod (fun H locs hBn => ?_)
  clear hB; have hB := hBn; clear hBn
  refine lv_aload_n hx hb dJx4a65c_addAll_f0b43_17 rfl (lv_at hl 0 rfl) ?_
  refine sg_alen 10 hx hb F.2.1 hB.1 rfl dJx4a65c_addAll_f0b43_18 (by exact tq1) ?_
  refine lv_istore_n (lv' := [(3, .int _), (2, .ref _), (0, .ref _), (1, .ref _)]) hx hb dJx4a65c_addAll_f0b43_19 rfl hl (by decide) rfl (fun ls hl => ?_)
  generalize hz : nI (sgN (sgPI (aaC σ ra q1 m1) l0 0 (sgI (aaC σ ra q1 m1) l0 0 + 1)) q1) = z at hl
  have ez : z.toInt = m1 := by rw [← hz]; exact (congrArg (fun t => (nI t).toInt) nq1).trans (nI_toInt (by omega))
  refine lv_iload_n hx hb dJx4a65c_addAll_f0b43_20 rfl (lv_at hl 0 rfl) ?_
  refine lv_if_ne (tgt := 26) hx hb dJx4a65c_addAll_f0b43_21 (by decide) (fun c21 => ?_) (fun c21 => ?_)
  · refine lv_iload_n hx hb dJx4a65c_addAll_f0b43_26 rfl (lv_at hl 0 rfl) ?_
    refine lv_aload_n hx hb dJx4a65c_addAll_f0b43_27 rfl (lv_at hl 2 rfl) ?_
    refine gr_Jx4a65c_9 F hB dJx4a65c_addAll_f0b43_28 (by exact t2) (by exact r2_) ?_
    refine lv_dup hx hb dJx4a65c_addAll_f0b43_31 rfl ?_
    refine lv_astore (lv' := [(4, .ref _), (3, .int _), (2, .ref _), (0, .ref _), (1, .ref _)]) hx hb dJx4a65c_addAll_f0b43_32 hl (by decide) rfl (fun ls hl => ?_)
    refine sg_alen 10 hx hb F.2.1 hB.1 rfl dJx4a65c_addAll_f0b43_34 (by exact tr2) ?_
    refine lv_aload_n hx hb dJx4a65c_addAll_f0b43_35 rfl (lv_at hl 3 rfl) ?_
    refine gf_Jx4a65c_48 F hB dJx4a65c_addAll_f0b43_36 (by exact t2) ?_
    rw [sgI_nk (by decide)]
    refine lv_dup hx hb dJx4a65c_addAll_f0b43_39 rfl ?_
    refine lv_istore (lv' := [(5, .int _), (4, .ref _), (3, .int _), (2, .ref _), (0, .ref _), (1, .ref _)]) hx hb dJx4a65c_addAll_f0b43_40 hl (by decide) rfl (fun ls hl => ?_)
    refine lv_isub hx hb dJx4a65c_addAll_f0b43_42 ?_
    have ex : ((sgI (aaC σ ra q1 m1) l0 2) + z).toInt = ((sz1 + m1 : Nat) : Int) := by rw [i_add (by omega) (by omega), sz2, ez]; omega
    refine lv_icmp_le (tgt := 56) hx hb dJx4a65c_addAll_f0b43_43 (by decide) (fun c43 => ?_) (fun c43 => ?_)
    · have ppa : sgPot (sgPI (sgCp (sgPI (aaC σ ra q1 m1) l0 0 (sgI (aaC σ ra q1 m1) l0 0 + 1)) q1 r 0 sz1 m1) l0 2 ((sgI (aaC σ ra q1 m1) l0 2) + z)) ≤ sgPot (sgCp (sgPI (aaC σ ra q1 m1) l0 0 (sgI (aaC σ ra q1 m1) l0 0 + 1)) q1 r 0 sz1 m1) + 80 := aa_pot (m := m1) (by show ((sgI (aaC σ ra q1 m1) l0 2) + z).toInt.toNat ≤ (sgI (sgPI (aaC σ ra q1 m1) l0 0 (sgI (aaC σ ra q1 m1) l0 0 + 1)) l0 2).toInt.toNat + m1; rw [sgI_nk (by decide), ex]; omega) hm16
      refine lv_aload_n hx hb dJx4a65c_addAll_f0b43_56 rfl (lv_at hl 3 rfl) ?_
      refine lv_iconst (v := 0) hx hb dJx4a65c_addAll_f0b43_57 (by decide) ?_
      refine lv_aload hx hb dJx4a65c_addAll_f0b43_58 (lv_at hl 1 rfl) ?_
      refine lv_iload hx hb dJx4a65c_addAll_f0b43_60 (lv_at hl 0 rfl) ?_
      refine lv_iload_n hx hb dJx4a65c_addAll_f0b43_62 rfl (lv_at hl 2 rfl) ?_
      refine sg_copy F hB hl.1 (F.1.2.2.2.2 _ (List.mem_cons_of_mem _ (mm_5 _ (List.mem_of_getElem? (i := 20) rfl)))) (F.1.2.2.2.2 _ (List.mem_cons_of_mem _ (mm_1 _ (List.mem_of_getElem? (i := 37) rfl)))) (F.1.2.2.2.2 _ (List.mem_cons_of_mem _ (mm_1 _ (List.mem_of_getElem? (i := 38) rfl)))) (F.1.2.2.2.2 _ (List.mem_cons_of_mem _ (mm_1 _ (List.mem_of_getElem? (i := 39) rfl)))) dJx4a65c_addAll_f0b43_63 (by first | exact tq1g | exact tq1) (by first | exact tq2g | exact tr2) (by decide) (by rw [sz2]; omega) (by rw [ez]; omega) (by first | exact p4g | (show (0 : Int32).toInt + z.toInt ≤ ((sgN (aaC σ ra q1 m1) q1 : Nat) : Int); rw [nq1, ez]; exact Int.le_of_eq (Int.zero_add _))) (by first | exact p5g | (have hc : sz1 + m1 ≤ sgN (aaC σ ra q1 m1) r := aa_le ez sz2 hm16 (show sgN (aaC σ ra q1 m1) r < 1000000 from N2_) (show sz1 ≤ sgN (aaC σ ra q1 m1) r from cap2) c43; show (sgI (aaC σ ra q1 m1) l0 2).toInt + z.toInt ≤ ((sgN (aaC σ ra q1 m1) r : Nat) : Int); omega)) (by first | exact fun i y _ hy => hk2g _ y hy | exact fun i y _ hy => hk1 _ y hy) (Nat.le_of_ble_eq_true rfl) (Nat.le_of_ble_eq_true rfl) (fun H locs hBn => ?_)
      clear hB; have hB := hBn; clear hBn
      rw [show (sgI (aaC σ ra q1 m1) l0 2).toInt.toNat = sz1 from by omega, show z.toInt.toNat = m1 from by omega, show (0 : Int32).toInt.toNat = 0 from rfl] at hB
      refine lv_aload_n hx hb dJx4a65c_addAll_f0b43_66 rfl (lv_at hl 4 rfl) ?_
      refine lv_iload hx hb dJx4a65c_addAll_f0b43_67 (lv_at hl 0 rfl) ?_
      refine lv_iload_n hx hb dJx4a65c_addAll_f0b43_69 rfl (lv_at hl 2 rfl) ?_
      refine lv_iadd hx hb dJx4a65c_addAll_f0b43_70 ?_
      refine pf_Jx4a65c_48 (d := 80) F hB dJx4a65c_addAll_f0b43_71 (by first | exact t2g | exact t2) (by first | exact ppg | exact ppa) (fun H locs hBn => ?_)
      clear hB; have hB := hBn; clear hBn
      refine lv_iconst (v := 1) hx hb dJx4a65c_addAll_f0b43_74 (by decide) ?_
      exact sg_zret F hB hrt dJx4a65c_addAll_f0b43_75 (by decide) (by decide) rfl (by first | exact ⟨_, rfl, q1, hq1, Or.inr (aa_2 hL2 (by exact hq2) hw48.2 (by omega) tq1 eq1 ex)⟩ | exact ⟨_, rfl, q1, hq1, Or.inr (aa_1 hL2 (aa_le ez sz2 hm16 (show sgN (aaC σ ra q1 m1) r < 1000000 from N2_) (show sz1 ≤ sgN (aaC σ ra q1 m1) r from cap2) c43) eq1 ex)⟩)
    · have hlt := aa_nle ez sz2 hm16 (show sgN (aaC σ ra q1 m1) r < 1000000 from N2_) (show sz1 ≤ sgN (aaC σ ra q1 m1) r from cap2) c43
      obtain ⟨w, hw⟩ : ∃ w : Nat, (w : Int) = max ((sz1 + m1 : Nat) : Int) ((sgN (aaC σ ra q1 m1) r : Int) + (sgN (aaC σ ra q1 m1) r : Int) / 2) := ⟨max (sz1 + m1) (sgN (aaC σ ra q1 m1) r + sgN (aaC σ ra q1 m1) r / 2), by omega⟩
      have hlt2 : sgN (aaC σ ra q1 m1) r < sz1 + m1 := hlt
      have hw48 : w ≤ 48 ∧ sz1 + m1 ≤ w := by omega
      have hL3 : sgLs (sgPI (aaC σ ra q1 m1) l0 0 (sgI (aaC σ ra q1 m1) l0 0 + 1)) l0 r sz1 := sgLs_I0 hL2
      have hb3 := hB.2.2
      refine lv_aload_n hx hb dJx4a65c_addAll_f0b43_46 rfl (lv_at hl 4 rfl) ?_
      refine lv_iload hx hb dJx4a65c_addAll_f0b43_47 (lv_at hl 0 rfl) ?_
      refine lv_iload_n hx hb dJx4a65c_addAll_f0b43_49 rfl (lv_at hl 2 rfl) ?_
      refine lv_iadd hx hb dJx4a65c_addAll_f0b43_50 ?_
      refine sg_callVp (ci := 4) F hB (m_growA l D cy hL3 (fun j y hy => sgK_mono (fun a ha => (hO1 a ha).1) (hel0 j y (((hO1 r (t_nz hL.2.2.1 (by decide))).2.2 j).2.symm.trans hy))) ((sgI (aaC σ ra q1 m1) l0 2) + z) (w := w) (c0 := 96) (fun q hq => by have hg := sgPot_grA (w := w) hL3 hB.1.1.2 hq; have hN9 : sgN (sgPI (aaC σ ra q1 m1) l0 0 (sgI (aaC σ ra q1 m1) l0 0 + 1)) r = sgN (aaC σ ra q1 m1) r := rfl; omega) (by omega) (by rw [ex]; show ((sgN (aaC σ ra q1 m1) r : Nat) : Int) < _; omega) (by rw [ex]; omega) (by rw [ex]; exact hw) _) (cwV 1 F.1.2.2.2.2 (mgV (mm_2 _ (List.mem_of_getElem? (i := 16) rfl)) (mm_2 _ (List.mem_of_getElem? (i := 17) rfl)) (mm_2 _ (List.mem_of_getElem? (i := 18) rfl)) (mm_0 _ (List.mem_of_getElem? (i := 35) rfl)) (mm_2 _ (List.mem_of_getElem? (i := 14) rfl))) rfl rfl rfl ⟨rfl, by decide, by decide, by decide +kernel⟩ ⟨Nat.le_of_ble_eq_true rfl, Nat.le_of_ble_eq_true rfl⟩) rfl rfl (by decide) rfl hl.1 rfl (Nat.le_of_ble_eq_true rfl) dJx4a65c_addAll_f0b43_51 (Nat.le_of_ble_eq_true rfl) (by show N + w ≤ _ + sgPot σ; omega) (by assumption) (fun H locs v σ51 N hG hXa hX51 hP hNN hNm => ?_)
      obtain ⟨q2, rfl, hq2, rfl⟩ := hP
      have hN9 : N + sgPot (sgPR (sgCp (sgNw (sgPI (aaC σ ra q1 m1) l0 0 (sgI (aaC σ ra q1 m1) l0 0 + 1)) q2 110 w) r q2 0 0 (min (sgN (aaC σ ra q1 m1) r) w)) l0 1 (some q2)) ≤ _ := hNN
      have hBn := (⟨hG, hXa, by omega⟩ : sgB D cy s σ (sgPR (sgCp (sgNw (sgPI (aaC σ ra q1 m1) l0 0 (sgI (aaC σ ra q1 m1) l0 0 + 1)) q2 110 w) r q2 0 0 (min (sgN (aaC σ ra q1 m1) r) w)) l0 1 (some q2)) H locs N 112)
      clear hB; have hB := hBn; clear hBn
      have hlq : l0 ≠ q2 := fun z9 => by have w9 : sgT (aaC σ ra q1 m1) q2 = 0 := hq2; rw [← z9, t2] at w9; exact absurd w9 (by decide)
      have hqq : q1 ≠ q2 := fun z9 => by have w9 : sgT (aaC σ ra q1 m1) q2 = 0 := hq2; rw [← z9, tq1] at w9; exact absurd w9 (by decide)
      have hql : q1 ≠ l0 := fun z9 => by have w9 : sgT (aaC σ ra q1 m1) q1 = 5 := (congrArg (sgT (aaC σ ra q1 m1)) z9).trans t2; rw [tq1] at w9; exact absurd w9 (by decide)
      have tq1g : sgT (sgPR (sgCp (sgNw (sgPI (aaC σ ra q1 m1) l0 0 (sgI (aaC σ ra q1 m1) l0 0 + 1)) q2 110 w) r q2 0 0 (min (sgN (aaC σ ra q1 m1) r) w)) l0 1 (some q2)) q1 = 110 := nw_k (n9 := w) (σ := (sgPI (aaC σ ra q1 m1) l0 0 (sgI (aaC σ ra q1 m1) l0 0 + 1))) tq1 (by decide) hq2
      have tq2g : sgT (sgPR (sgCp (sgNw (sgPI (aaC σ ra q1 m1) l0 0 (sgI (aaC σ ra q1 m1) l0 0 + 1)) q2 110 w) r q2 0 0 (min (sgN (aaC σ ra q1 m1) r) w)) l0 1 (some q2)) q2 = 110 := (show sgT (sgNw (sgPI (aaC σ ra q1 m1) l0 0 (sgI (aaC σ ra q1 m1) l0 0 + 1)) q2 110 w) q2 = 110 from by rw [sgNw_T, if_pos rfl])
      have t2g : sgT (sgPR (sgCp (sgNw (sgPI (aaC σ ra q1 m1) l0 0 (sgI (aaC σ ra q1 m1) l0 0 + 1)) q2 110 w) r q2 0 0 (min (sgN (aaC σ ra q1 m1) r) w)) l0 1 (some q2)) l0 = 5 := nw_k (n9 := w) (σ := (sgPI (aaC σ ra q1 m1) l0 0 (sgI (aaC σ ra q1 m1) l0 0 + 1))) t2 (by decide) hq2
      have p4g : (0 : Int32).toInt + z.toInt ≤ ((sgN (sgPR (sgCp (sgNw (sgPI (aaC σ ra q1 m1) l0 0 (sgI (aaC σ ra q1 m1) l0 0 + 1)) q2 110 w) r q2 0 0 (min (sgN (aaC σ ra q1 m1) r) w)) l0 1 (some q2)) q1 : Nat) : Int) := by rw [show sgN (sgPR (sgCp (sgNw (sgPI (aaC σ ra q1 m1) l0 0 (sgI (aaC σ ra q1 m1) l0 0 + 1)) q2 110 w) r q2 0 0 (min (sgN (aaC σ ra q1 m1) r) w)) l0 1 (some q2)) q1 = m1 from (show sgN (sgNw (sgPI (aaC σ ra q1 m1) l0 0 (sgI (aaC σ ra q1 m1) l0 0 + 1)) q2 110 w) q1 = m1 from by rw [sgNw_N, if_neg hqq]; exact nq1), ez]; exact Int.le_of_eq (Int.zero_add _)
      have p5g : (sgI (aaC σ ra q1 m1) l0 2).toInt + z.toInt ≤ ((sgN (sgPR (sgCp (sgNw (sgPI (aaC σ ra q1 m1) l0 0 (sgI (aaC σ ra q1 m1) l0 0 + 1)) q2 110 w) r q2 0 0 (min (sgN (aaC σ ra q1 m1) r) w)) l0 1 (some q2)) q2 : Nat) : Int) := by rw [show sgN (sgPR (sgCp (sgNw (sgPI (aaC σ ra q1 m1) l0 0 (sgI (aaC σ ra q1 m1) l0 0 + 1)) q2 110 w) r q2 0 0 (min (sgN (aaC σ ra q1 m1) r) w)) l0 1 (some q2)) q2 = w from (show sgN (sgNw (sgPI (aaC σ ra q1 m1) l0 0 (sgI (aaC σ ra q1 m1) l0 0 + 1)) q2 110 w) q2 = w from by rw [sgNw_N, if_pos rfl]), ez, sz2]; omega
      have hk2g := aa_K2 (ia := ia) (l := l0) (r := r) (w := w) (k := min (sgN (aaC σ ra q1 m1) r) w) (y0 := sgI (aaC σ ra q1 m1) l0 0 + 1) hk1 (by exact hq2) hqq hql
      have ppg : sgPot (sgPI (sgCp (sgPR (sgCp (sgNw (sgPI (aaC σ ra q1 m1) l0 0 (sgI (aaC σ ra q1 m1) l0 0 + 1)) q2 110 w) r q2 0 0 (min (sgN (aaC σ ra q1 m1) r) w)) l0 1 (some q2)) q1 q2 0 sz1 m1) l0 2 ((sgI (aaC σ ra q1 m1) l0 2) + z)) ≤ sgPot (sgCp (sgPR (sgCp (sgNw (sgPI (aaC σ ra q1 m1) l0 0 (sgI (aaC σ ra q1 m1) l0 0 + 1)) q2 110 w) r q2 0 0 (min (sgN (aaC σ ra q1 m1) r) w)) l0 1 (some q2)) q1 q2 0 sz1 m1) + 80 := aa_pot (m := m1) (by show ((sgI (aaC σ ra q1 m1) l0 2) + z).toInt.toNat ≤ (sgI (sgNw (sgPI (aaC σ ra q1 m1) l0 0 (sgI (aaC σ ra q1 m1) l0 0 + 1)) q2 110 w) l0 2).toInt.toNat + m1; rw [sgNw_I, if_neg hlq, sgI_nk (by decide), ex]; omega) hm16
      refine lv_astore (lv' := [(4, .ref _), (5, .int _), (3, .int _), (2, .ref _), (0, .ref _), (1, .ref _)]) hx hb dJx4a65c_addAll_f0b43_54 hl (by decide) rfl (fun ls hl => ?_)
      have ppa : sgPot (sgPI (sgCp (sgPI (aaC σ ra q1 m1) l0 0 (sgI (aaC σ ra q1 m1) l0 0 + 1)) q1 r 0 sz1 m1) l0 2 ((sgI (aaC σ ra q1 m1) l0 2) + z)) ≤ sgPot (sgCp (sgPI (aaC σ ra q1 m1) l0 0 (sgI (aaC σ ra q1 m1) l0 0 + 1)) q1 r 0 sz1 m1) + 80 := aa_pot (m := m1) (by show ((sgI (aaC σ ra q1 m1) l0 2) + z).toInt.toNat ≤ (sgI (sgPI (aaC σ ra q1 m1) l0 0 (sgI (aaC σ ra q1 m1) l0 0 + 1)) l0 2).toInt.toNat + m1; rw [sgI_nk (by decide), ex]; omega) hm16
      refine lv_aload_n hx hb dJx4a65c_addAll_f0b43_56 rfl (lv_at hl 3 rfl) ?_
      refine lv_iconst (v := 0) hx hb dJx4a65c_addAll_f0b43_57 (by decide) ?_
      refine lv_aload hx hb dJx4a65c_addAll_f0b43_58 (lv_at hl 0 rfl) ?_
      refine lv_iload hx hb dJx4a65c_addAll_f0b43_60 (lv_at hl 1 rfl) ?_
      refine lv_iload_n hx hb dJx4a65c_addAll_f0b43_62 rfl (lv_at hl 2 rfl) ?_
      refine sg_copy F hB hl.1 (F.1.2.2.2.2 _ (List.mem_cons_of_mem _ (mm_5 _ (List.mem_of_getElem? (i := 20) rfl)))) (F.1.2.2.2.2 _ (List.mem_cons_of_mem _ (mm_1 _ (List.mem_of_getElem? (i := 37) rfl)))) (F.1.2.2.2.2 _ (List.mem_cons_of_mem _ (mm_1 _ (List.mem_of_getElem? (i := 38) rfl)))) (F.1.2.2.2.2 _ (List.mem_cons_of_mem _ (mm_1 _ (List.mem_of_getElem? (i := 39) rfl)))) dJx4a65c_addAll_f0b43_63 (by first | exact tq1g | exact tq1) (by first | exact tq2g | exact tr2) (by decide) (by rw [sz2]; omega) (by rw [ez]; omega) (by first | exact p4g | (show (0 : Int32).toInt + z.toInt ≤ ((sgN (aaC σ ra q1 m1) q1 : Nat) : Int); rw [nq1, ez]; exact Int.le_of_eq (Int.zero_add _))) (by first | exact p5g | (have hc : sz1 + m1 ≤ sgN (aaC σ ra q1 m1) r := aa_le ez sz2 hm16 (show sgN (aaC σ ra q1 m1) r < 1000000 from N2_) (show sz1 ≤ sgN (aaC σ ra q1 m1) r from cap2) c43; show (sgI (aaC σ ra q1 m1) l0 2).toInt + z.toInt ≤ ((sgN (aaC σ ra q1 m1) r : Nat) : Int); omega)) (by first | exact fun i y _ hy => hk2g _ y hy | exact fun i y _ hy => hk1 _ y hy) (Nat.le_of_ble_eq_true rfl) (Nat.le_of_ble_eq_true rfl) (fun H locs hBn => ?_)
      clear hB; have hB := hBn; clear hBn
      rw [show (sgI (aaC σ ra q1 m1) l0 2).toInt.toNat = sz1 from by omega, show z.toInt.toNat = m1 from by omega, show (0 : Int32).toInt.toNat = 0 from rfl] at hB
      refine lv_aload_n hx hb dJx4a65c_addAll_f0b43_66 rfl (lv_at hl 4 rfl) ?_
      refine lv_iload hx hb dJx4a65c_addAll_f0b43_67 (lv_at hl 1 rfl) ?_
      refine lv_iload_n hx hb dJx4a65c_addAll_f0b43_69 rfl (lv_at hl 2 rfl) ?_
      refine lv_iadd hx hb dJx4a65c_addAll_f0b43_70 ?_
      refine pf_Jx4a65c_48 (d := 80) F hB dJx4a65c_addAll_f0b43_71 (by first | exact t2g | exact t2) (by first | exact ppg | exact ppa) (fun H locs hBn => ?_)
      clear hB; have hB := hBn; clear hBn
      refine lv_iconst (v := 1) hx hb dJx4a65c_addAll_f0b43_74 (by decide) ?_
      exact sg_zret F hB hrt dJx4a65c_addAll_f0b43_75 (by decide) (by decide) rfl (by first | exact ⟨_, rfl, q1, hq1, Or.inr (aa_2 hL2 (by exact hq2) hw48.2 (by omega) tq1 eq1 ex)⟩ | exact ⟨_, rfl, q1, hq1, Or.inr (aa_1 hL2 (aa_le ez sz2 hm16 (show sgN (aaC σ ra q1 m1) r < 1000000 from N2_) (show sz1 ≤ sgN (aaC σ ra q1 m1) r from cap2) c43) eq1 ex)⟩)
  · refine lv_iconst (v := 0) hx hb dJx4a65c_addAll_f0b43_24 (by decide) ?_
    exact sg_zret F hB hrt dJx4a65c_addAll_f0b43_25 (by decide) (by decide) rfl (⟨_, rfl, q1, hq1, Or.inl ⟨(by have w9 : z = 0 := (by first | exact c21 | exact Classical.not_not.mp c21); rw [w9] at ez; have e0 : (0 : Int32).toInt = 0 := rfl; omega), rfl⟩⟩)

set_option maxRecDepth 100000 in
set_option maxHeartbeats 4000000 in
theorem m_aaB (l : Launch) (D : va_G) (cy : Nat → ClassId) {eda ca : Nat} {ia : Nat → Nat} {σ : SG} {l0 l1 ra m1 : Nat} (t0 : sgT σ l0 = 5) (r0 : sgR σ l0 1 = some eda) (s0 : (sgI σ l0 2).toInt = 0) (hL1 : sgLs σ l1 ra m1) (hel1 : ∀ j y : Nat, sgR σ ra j = some y → sgK ia σ y) (hall : ∀ j, j < m1 → ∃ y, sgR σ ra j = some y) (hsm : 0 + m1 ≤ 32) (hm16 : m1 ≤ 16) (sz : Nat) : sgM l D cy eda ca ia σ sz yJx4a65c_addAll_f0b43 (Cond.code yJx4a65c_addAll_f0b43 cJx4a65c_addAll_f0b43 6 (some .boolean) :: mWall) 4 107 2 192 [.ref l0, .ref l1] (fun v σ2 => ∃ b : Int32, v = some (.int b) ∧ ∃ q : Nat, sgT σ q = 0 ∧ ((m1 = 0 ∧ sgPI (aaC σ ra q m1) l0 0 (sgI (aaC σ ra q m1) l0 0 + 1) = σ2) ∨ sgAm l0 eda 0 m1 (aaE σ ra) (aaC σ ra q m1) σ2)) := by
  refine sg_ofW (cc := cJx4a65c_addAll_f0b43) (maxL := 6) (ret := (some .boolean)) (by decide) rfl (Nat.le_of_ble_eq_true rfl) (lv := [(0, .ref l0), (1, .ref l1)]) rfl (fun p e s m below meth c ls H N hrt hnm F hB hl => ?_) sz
  have hx := F.1.1
  have hb := F.1.2.1
  have hown := F.1.2.2.2.1
  refine lv_aload_n hx hb dJx4a65c_addAll_f0b43_0 rfl (lv_at hl 1 rfl) ?_
  have hb2 := hB.2.2
  refine sg_callFp (ci := 4) F hB (m_toArrA l D cy hL1 hel1 _) (va_cwF 0 F.1.2.2.2.2 (mgF (mm_9 _ (List.mem_of_getElem? (i := 25) rfl)) (mm_9 _ (List.mem_of_getElem? (i := 26) rfl)) (mm_9 _ (List.mem_of_getElem? (i := 27) rfl)) (mm_0 _ (List.mem_of_getElem? (i := 35) rfl)) (mm_9 _ (List.mem_of_getElem? (i := 24) rfl))) rfl rfl rfl F.2.2.2.1.2.2.2.2.2.2.2.2.2.2.2.1 (by decide +kernel) ⟨Nat.le_of_ble_eq_true rfl, Nat.le_of_ble_eq_true rfl⟩) rfl rfl (by decide) rfl hl.1 rfl (Nat.le_of_ble_eq_true rfl) dJx4a65c_addAll_f0b43_1 (Nat.le_of_ble_eq_true rfl) (by show N + m1 ≤ _ + sgPot σ; omega) hL1.1 (fun H locs v σ1 N hG hXa hX1 hP hNN hNm => ?_)
  obtain ⟨q1, rfl, hq1, rfl⟩ := hP
  have hN9 : N + sgPot (aaC σ ra q1 m1) ≤ _ := hNN
  have hBn := (⟨hG, hXa, by omega⟩ : sgB D cy s σ (aaC σ ra q1 m1) H locs N 16)
  clear hB; have hB := hBn; clear hBn
  have ed1 := sg_eda F hB
  obtain ⟨tq1, nq1, eq1, hO1, hn1, hk0⟩ := aa_0 hL1 hq1 hall
  have hk1 : ∀ j y, sgR (aaC σ ra q1 m1) q1 j = some y → sgK ia (aaC σ ra q1 m1) y := fun j y hy => by
    obtain ⟨j2, -, h2⟩ := hk0 j y hy
    exact sgK_mono (fun a ha => (hO1 a ha).1) (hel1 j2 y h2)
  have o9 := hO1 l0 (t_nz t0 (by decide))
  have t2 := o9.1.trans t0
  have r2_ := (o9.2.2 1).2.trans r0
  have sz2 : (sgI (aaC σ ra q1 m1) l0 2).toInt = 0 := (congrArg Int32.toInt (o9.2.2 2).1).trans s0
  refine lv_astore_n (lv' := [(2, .ref _), (0, .ref _), (1, .ref _)]) hx hb dJx4a65c_addAll_f0b43_6 rfl hl (by decide) rfl (fun ls hl => ?_)
  refine lv_aload_n hx hb dJx4a65c_addAll_f0b43_7 rfl (lv_at hl 1 rfl) ?_
  refine lv_dup hx hb dJx4a65c_addAll_f0b43_8 rfl ?_
  refine gf_Jx4a65c_63 F hB dJx4a65c_addAll_f0b43_9 t2 ?_
  refine lv_iconst (v := 1) hx hb dJx4a65c_addAll_f0b43_12 (by decide) ?_
  refine lv_iadd hx hb dJx4a65c_addAll_f0b43_13 ?_
  refine pf_Jx4a65c_63 (d := 0) F hB dJx4a65c_addAll_f0b43_14 t2 sgPot_mod (fun H locs hBn => ?_)
  clear hB; have hB := hBn; clear hBn
  refine lv_aload_n hx hb dJx4a65c_addAll_f0b43_17 rfl (lv_at hl 0 rfl) ?_
  refine sg_alen 10 hx hb F.2.1 hB.1 rfl dJx4a65c_addAll_f0b43_18 (by exact tq1) ?_
  refine lv_istore_n (lv' := [(3, .int _), (2, .ref _), (0, .ref _), (1, .ref _)]) hx hb dJx4a65c_addAll_f0b43_19 rfl hl (by decide) rfl (fun ls hl => ?_)
  generalize hz : nI (sgN (sgPI (aaC σ ra q1 m1) l0 0 (sgI (aaC σ ra q1 m1) l0 0 + 1)) q1) = z at hl
  have ez : z.toInt = m1 := by rw [← hz]; exact (congrArg (fun t => (nI t).toInt) nq1).trans (nI_toInt (by omega))
  refine lv_iload_n hx hb dJx4a65c_addAll_f0b43_20 rfl (lv_at hl 0 rfl) ?_
  refine lv_if_ne (tgt := 26) hx hb dJx4a65c_addAll_f0b43_21 (by decide) (fun c21 => ?_) (fun c21 => ?_)
  · refine lv_iload_n hx hb dJx4a65c_addAll_f0b43_26 rfl (lv_at hl 0 rfl) ?_
    refine lv_aload_n hx hb dJx4a65c_addAll_f0b43_27 rfl (lv_at hl 2 rfl) ?_
    refine gr_Jx4a65c_9 F hB dJx4a65c_addAll_f0b43_28 (by exact t2) (by exact r2_) ?_
    refine lv_dup hx hb dJx4a65c_addAll_f0b43_31 rfl ?_
    refine lv_astore (lv' := [(4, .ref _), (3, .int _), (2, .ref _), (0, .ref _), (1, .ref _)]) hx hb dJx4a65c_addAll_f0b43_32 hl (by decide) rfl (fun ls hl => ?_)
    refine va_tlen (v := 0) hx hb F.2.2.2.1.2.1 hB.1.2.2 rfl dJx4a65c_addAll_f0b43_34 ?_
    refine lv_aload_n hx hb dJx4a65c_addAll_f0b43_35 rfl (lv_at hl 3 rfl) ?_
    refine gf_Jx4a65c_48 F hB dJx4a65c_addAll_f0b43_36 (by exact t2) ?_
    rw [sgI_nk (by decide)]
    refine lv_dup hx hb dJx4a65c_addAll_f0b43_39 rfl ?_
    refine lv_istore (lv' := [(5, .int _), (4, .ref _), (3, .int _), (2, .ref _), (0, .ref _), (1, .ref _)]) hx hb dJx4a65c_addAll_f0b43_40 hl (by decide) rfl (fun ls hl => ?_)
    refine lv_isub hx hb dJx4a65c_addAll_f0b43_42 ?_
    refine lv_icmp_le (tgt := 56) hx hb dJx4a65c_addAll_f0b43_43 (by decide) (fun c43 => ((by have e9 := i_le c43; rw [i_sub (by rw [sz2]; decide) (by rw [sz2]; decide), sz2, ez] at e9; have e0 : (0 : Int32).toInt = 0 := rfl; have w9 := m_neI c21; rw [ez, e0] at w9; rw [e0] at e9; omega : False)).elim) (fun c43 => ?_)
    have ex : ((sgI (aaC σ ra q1 m1) l0 2) + z).toInt = ((0 + m1 : Nat) : Int) := by rw [i_add (by rw [sz2]; omega) (by rw [sz2]; omega), sz2, ez]; omega
    obtain ⟨w, hw⟩ : ∃ w : Nat, (w : Int) = max 10 ((0 + m1 : Nat) : Int) := ⟨max 10 m1, by omega⟩
    have hw48 : w ≤ 16 ∧ m1 ≤ w := by omega
    have hb3 := hB.2.2
    refine lv_aload_n hx hb dJx4a65c_addAll_f0b43_46 rfl (lv_at hl 4 rfl) ?_
    refine lv_iload hx hb dJx4a65c_addAll_f0b43_47 (lv_at hl 0 rfl) ?_
    refine lv_iload_n hx hb dJx4a65c_addAll_f0b43_49 rfl (lv_at hl 2 rfl) ?_
    refine lv_iadd hx hb dJx4a65c_addAll_f0b43_50 ?_
    refine sg_callVp (ci := 4) F hB (m_growB l D cy (by exact t2) (by exact r2_) (by rw [sgI_nk (by decide)]; exact sz2) ((sgI (aaC σ ra q1 m1) l0 2) + z) (w := w) (by rw [ex]; omega) (by rw [ex]; exact hw) _) (cwV 1 F.1.2.2.2.2 (mgV (mm_2 _ (List.mem_of_getElem? (i := 16) rfl)) (mm_2 _ (List.mem_of_getElem? (i := 17) rfl)) (mm_2 _ (List.mem_of_getElem? (i := 18) rfl)) (mm_0 _ (List.mem_of_getElem? (i := 35) rfl)) (mm_2 _ (List.mem_of_getElem? (i := 14) rfl))) rfl rfl rfl ⟨rfl, by decide, by decide, by decide +kernel⟩ ⟨Nat.le_of_ble_eq_true rfl, Nat.le_of_ble_eq_true rfl⟩) rfl rfl (by decide) rfl hl.1 rfl (Nat.le_of_ble_eq_true rfl) dJx4a65c_addAll_f0b43_51 (Nat.le_of_ble_eq_true rfl) (by show N + w ≤ _ + sgPot σ; omega) (by assumption) (fun H locs v σ51 N hG hXa hX51 hP hNN hNm => ?_)
    obtain ⟨q2, rfl, heq, hq2, rfl⟩ := hP
    have hN9 : N + sgPot (sgPR (sgNw (sgPI (aaC σ ra q1 m1) l0 0 (sgI (aaC σ ra q1 m1) l0 0 + 1)) q2 110 w) l0 1 (some q2)) ≤ _ := hNN
    have hBn := (⟨hG, hXa, by omega⟩ : sgB D cy s σ (sgPR (sgNw (sgPI (aaC σ ra q1 m1) l0 0 (sgI (aaC σ ra q1 m1) l0 0 + 1)) q2 110 w) l0 1 (some q2)) H locs N 112)
    clear hB; have hB := hBn; clear hBn
    have hlq : l0 ≠ q2 := fun z9 => by have w9 : sgT (aaC σ ra q1 m1) q2 = 0 := hq2; rw [← z9, t2] at w9; exact absurd w9 (by decide)
    have hqq : q1 ≠ q2 := fun z9 => by have w9 : sgT (aaC σ ra q1 m1) q2 = 0 := hq2; rw [← z9, tq1] at w9; exact absurd w9 (by decide)
    have hql : q1 ≠ l0 := fun z9 => by have w9 : sgT (aaC σ ra q1 m1) q1 = 5 := (congrArg (sgT (aaC σ ra q1 m1)) z9).trans t2; rw [tq1] at w9; exact absurd w9 (by decide)
    have tq1g : sgT (sgPR (sgNw (sgPI (aaC σ ra q1 m1) l0 0 (sgI (aaC σ ra q1 m1) l0 0 + 1)) q2 110 w) l0 1 (some q2)) q1 = 110 := nw_k (n9 := w) (σ := (sgPI (aaC σ ra q1 m1) l0 0 (sgI (aaC σ ra q1 m1) l0 0 + 1))) tq1 (by decide) hq2
    have tq2g : sgT (sgPR (sgNw (sgPI (aaC σ ra q1 m1) l0 0 (sgI (aaC σ ra q1 m1) l0 0 + 1)) q2 110 w) l0 1 (some q2)) q2 = 110 := (show sgT (sgNw (sgPI (aaC σ ra q1 m1) l0 0 (sgI (aaC σ ra q1 m1) l0 0 + 1)) q2 110 w) q2 = 110 from by rw [sgNw_T, if_pos rfl])
    have t2g : sgT (sgPR (sgNw (sgPI (aaC σ ra q1 m1) l0 0 (sgI (aaC σ ra q1 m1) l0 0 + 1)) q2 110 w) l0 1 (some q2)) l0 = 5 := nw_k (n9 := w) (σ := (sgPI (aaC σ ra q1 m1) l0 0 (sgI (aaC σ ra q1 m1) l0 0 + 1))) t2 (by decide) hq2
    have p4g : (0 : Int32).toInt + z.toInt ≤ ((sgN (sgPR (sgNw (sgPI (aaC σ ra q1 m1) l0 0 (sgI (aaC σ ra q1 m1) l0 0 + 1)) q2 110 w) l0 1 (some q2)) q1 : Nat) : Int) := by rw [show sgN (sgPR (sgNw (sgPI (aaC σ ra q1 m1) l0 0 (sgI (aaC σ ra q1 m1) l0 0 + 1)) q2 110 w) l0 1 (some q2)) q1 = m1 from (show sgN (sgNw (sgPI (aaC σ ra q1 m1) l0 0 (sgI (aaC σ ra q1 m1) l0 0 + 1)) q2 110 w) q1 = m1 from by rw [sgNw_N, if_neg hqq]; exact nq1), ez]; exact Int.le_of_eq (Int.zero_add _)
    have p5g : (sgI (aaC σ ra q1 m1) l0 2).toInt + z.toInt ≤ ((sgN (sgPR (sgNw (sgPI (aaC σ ra q1 m1) l0 0 (sgI (aaC σ ra q1 m1) l0 0 + 1)) q2 110 w) l0 1 (some q2)) q2 : Nat) : Int) := by rw [show sgN (sgPR (sgNw (sgPI (aaC σ ra q1 m1) l0 0 (sgI (aaC σ ra q1 m1) l0 0 + 1)) q2 110 w) l0 1 (some q2)) q2 = w from (show sgN (sgNw (sgPI (aaC σ ra q1 m1) l0 0 (sgI (aaC σ ra q1 m1) l0 0 + 1)) q2 110 w) q2 = w from by rw [sgNw_N, if_pos rfl]), ez, sz2]; omega
    have hk2g := aa_K3 (ia := ia) (l := l0) (w := w) (y0 := sgI (aaC σ ra q1 m1) l0 0 + 1) hk1 (by exact hq2) hqq hql
    have ppg : sgPot (sgPI (sgCp (sgPR (sgNw (sgPI (aaC σ ra q1 m1) l0 0 (sgI (aaC σ ra q1 m1) l0 0 + 1)) q2 110 w) l0 1 (some q2)) q1 q2 0 0 m1) l0 2 ((sgI (aaC σ ra q1 m1) l0 2) + z)) ≤ sgPot (sgCp (sgPR (sgNw (sgPI (aaC σ ra q1 m1) l0 0 (sgI (aaC σ ra q1 m1) l0 0 + 1)) q2 110 w) l0 1 (some q2)) q1 q2 0 0 m1) + 80 := aa_pot (m := m1) (by show ((sgI (aaC σ ra q1 m1) l0 2) + z).toInt.toNat ≤ (sgI (sgNw (sgPI (aaC σ ra q1 m1) l0 0 (sgI (aaC σ ra q1 m1) l0 0 + 1)) q2 110 w) l0 2).toInt.toNat + m1; rw [sgNw_I, if_neg hlq, sgI_nk (by decide), ex]; omega) hm16
    refine lv_astore (lv' := [(4, .ref _), (5, .int _), (3, .int _), (2, .ref _), (0, .ref _), (1, .ref _)]) hx hb dJx4a65c_addAll_f0b43_54 hl (by decide) rfl (fun ls hl => ?_)
    refine lv_aload_n hx hb dJx4a65c_addAll_f0b43_56 rfl (lv_at hl 3 rfl) ?_
    refine lv_iconst (v := 0) hx hb dJx4a65c_addAll_f0b43_57 (by decide) ?_
    refine lv_aload hx hb dJx4a65c_addAll_f0b43_58 (lv_at hl 0 rfl) ?_
    refine lv_iload hx hb dJx4a65c_addAll_f0b43_60 (lv_at hl 1 rfl) ?_
    refine lv_iload_n hx hb dJx4a65c_addAll_f0b43_62 rfl (lv_at hl 2 rfl) ?_
    refine sg_copy F hB hl.1 (F.1.2.2.2.2 _ (List.mem_cons_of_mem _ (mm_5 _ (List.mem_of_getElem? (i := 20) rfl)))) (F.1.2.2.2.2 _ (List.mem_cons_of_mem _ (mm_1 _ (List.mem_of_getElem? (i := 37) rfl)))) (F.1.2.2.2.2 _ (List.mem_cons_of_mem _ (mm_1 _ (List.mem_of_getElem? (i := 38) rfl)))) (F.1.2.2.2.2 _ (List.mem_cons_of_mem _ (mm_1 _ (List.mem_of_getElem? (i := 39) rfl)))) dJx4a65c_addAll_f0b43_63 tq1g tq2g (by decide) (by rw [sz2]; decide) (by rw [ez]; omega) p4g p5g (fun i y _ hy => hk2g _ y hy) (Nat.le_of_ble_eq_true rfl) (Nat.le_of_ble_eq_true rfl) (fun H locs hBn => ?_)
    clear hB; have hB := hBn; clear hBn
    rw [show (sgI (aaC σ ra q1 m1) l0 2).toInt.toNat = 0 from by omega, show z.toInt.toNat = m1 from by omega, show (0 : Int32).toInt.toNat = 0 from rfl] at hB
    refine lv_aload_n hx hb dJx4a65c_addAll_f0b43_66 rfl (lv_at hl 4 rfl) ?_
    refine lv_iload hx hb dJx4a65c_addAll_f0b43_67 (lv_at hl 1 rfl) ?_
    refine lv_iload_n hx hb dJx4a65c_addAll_f0b43_69 rfl (lv_at hl 2 rfl) ?_
    refine lv_iadd hx hb dJx4a65c_addAll_f0b43_70 ?_
    refine pf_Jx4a65c_48 (d := 80) F hB dJx4a65c_addAll_f0b43_71 (by exact t2g) ppg (fun H locs hBn => ?_)
    clear hB; have hB := hBn; clear hBn
    refine lv_iconst (v := 1) hx hb dJx4a65c_addAll_f0b43_74 (by decide) ?_
    exact sg_zret F hB hrt dJx4a65c_addAll_f0b43_75 (by decide) (by decide) rfl (⟨_, rfl, q1, hq1, Or.inr (aa_3 (by exact t2) ed1 heq (by exact hq2) hw48.2 (by omega) tq1 eq1 ex)⟩)
  · refine lv_iconst (v := 0) hx hb dJx4a65c_addAll_f0b43_24 (by decide) ?_
    exact sg_zret F hB hrt dJx4a65c_addAll_f0b43_25 (by decide) (by decide) rfl (⟨_, rfl, q1, hq1, Or.inl ⟨(by have w9 : z = 0 := (by first | exact c21 | exact Classical.not_not.mp c21); rw [w9] at ez; have e0 : (0 : Int32).toInt = 0 := rfl; omega), rfl⟩⟩)

set_option maxRecDepth 100000 in
set_option maxHeartbeats 4000000 in
theorem m_aaN (l : Launch) (D : va_G) (cy : Nat → ClassId) {eda ca : Nat} {ia : Nat → Nat} {σ : SG} {l0 l1 : Nat} (t0 : sgT σ l0 = 5) (t1 : sgT σ l1 = 5) (r1 : sgR σ l1 1 = some eda) (s1 : (sgI σ l1 2).toInt = 0) (sz : Nat) : sgM l D cy eda ca ia σ sz yJx4a65c_addAll_f0b43 (Cond.code yJx4a65c_addAll_f0b43 cJx4a65c_addAll_f0b43 6 (some .boolean) :: mWall) 4 107 2 192 [.ref l0, .ref l1] (fun v σ2 => ∃ b : Int32, v = some (.int b) ∧ ∃ q : Nat, sgT σ q = 0 ∧ sgPI (sgNw σ q 110 0) l0 0 (sgI (sgNw σ q 110 0) l0 0 + 1) = σ2) := by
  refine sg_ofW (cc := cJx4a65c_addAll_f0b43) (maxL := 6) (ret := (some .boolean)) (by decide) rfl (Nat.le_of_ble_eq_true rfl) (lv := [(0, .ref l0), (1, .ref l1)]) rfl (fun p e s m below meth c ls H N hrt hnm F hB hl => ?_) sz
  have hx := F.1.1
  have hb := F.1.2.1
  have hown := F.1.2.2.2.1
  refine lv_aload_n hx hb dJx4a65c_addAll_f0b43_0 rfl (lv_at hl 1 rfl) ?_
  have hb2 := hB.2.2
  refine sg_callFp (ci := 4) F hB (m_toArrE l D cy t1 r1 s1 _) (va_cwF 0 F.1.2.2.2.2 (mgF (mm_9 _ (List.mem_of_getElem? (i := 25) rfl)) (mm_9 _ (List.mem_of_getElem? (i := 26) rfl)) (mm_9 _ (List.mem_of_getElem? (i := 27) rfl)) (mm_0 _ (List.mem_of_getElem? (i := 35) rfl)) (mm_9 _ (List.mem_of_getElem? (i := 24) rfl))) rfl rfl rfl F.2.2.2.1.2.2.2.2.2.2.2.2.2.2.2.1 (by decide +kernel) ⟨Nat.le_of_ble_eq_true rfl, Nat.le_of_ble_eq_true rfl⟩) rfl rfl (by decide) rfl hl.1 rfl (Nat.le_of_ble_eq_true rfl) dJx4a65c_addAll_f0b43_1 (Nat.le_of_ble_eq_true rfl) (by show N + 0 ≤ _ + sgPot σ; omega) t1 (fun H locs v σ1 N hG hXa hX1 hP hNN hNm => ?_)
  obtain ⟨q1, rfl, hq1, rfl⟩ := hP
  have hBn := (⟨hG, hXa, by omega⟩ : sgB D cy s σ (sgNw σ q1 110 0) H locs N 16)
  clear hB; have hB := hBn; clear hBn
  have t2 : sgT (sgNw σ q1 110 0) l0 = 5 := nw_k t0 (by decide) hq1
  have tq1 : sgT (sgNw σ q1 110 0) q1 = 110 := by rw [sgNw_T, if_pos rfl]
  refine lv_astore_n (lv' := [(2, .ref _), (0, .ref _), (1, .ref _)]) hx hb dJx4a65c_addAll_f0b43_6 rfl hl (by decide) rfl (fun ls hl => ?_)
  refine lv_aload_n hx hb dJx4a65c_addAll_f0b43_7 rfl (lv_at hl 1 rfl) ?_
  refine lv_dup hx hb dJx4a65c_addAll_f0b43_8 rfl ?_
  refine gf_Jx4a65c_63 F hB dJx4a65c_addAll_f0b43_9 t2 ?_
  refine lv_iconst (v := 1) hx hb dJx4a65c_addAll_f0b43_12 (by decide) ?_
  refine lv_iadd hx hb dJx4a65c_addAll_f0b43_13 ?_
  refine pf_Jx4a65c_63 (d := 0) F hB dJx4a65c_addAll_f0b43_14 t2 sgPot_mod (fun H locs hBn => ?_)
  clear hB; have hB := hBn; clear hBn
  refine lv_aload_n hx hb dJx4a65c_addAll_f0b43_17 rfl (lv_at hl 0 rfl) ?_
  refine sg_alen 10 hx hb F.2.1 hB.1 rfl dJx4a65c_addAll_f0b43_18 (by exact tq1) ?_
  refine lv_istore_n (lv' := [(3, .int _), (2, .ref _), (0, .ref _), (1, .ref _)]) hx hb dJx4a65c_addAll_f0b43_19 rfl hl (by decide) rfl (fun ls hl => ?_)
  refine lv_iload_n hx hb dJx4a65c_addAll_f0b43_20 rfl (lv_at hl 0 rfl) ?_
  refine lv_if_ne (tgt := 26) hx hb dJx4a65c_addAll_f0b43_21 (by decide) (fun c21 => ((c21 (by show nI (sgN (sgNw σ q1 110 0) q1) = 0; rw [sgNw_N, if_pos rfl]; rfl) : False)).elim) (fun c21 => ?_)
  refine lv_iconst (v := 0) hx hb dJx4a65c_addAll_f0b43_24 (by decide) ?_
  exact sg_zret F hB hrt dJx4a65c_addAll_f0b43_25 (by decide) (by decide) rfl (⟨_, rfl, q1, hq1, rfl⟩)
end MM44
