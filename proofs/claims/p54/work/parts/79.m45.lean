section MM45
section MM45A
variable {eda n S hw : Nat} {ia : Nat → Nat} {K : KM} {g : GH} {σ σ1 σ2 : SG} {l r ra sz m q : Nat}
theorem sgLz_oFr (h : sgLz eda σ l r sz) (hO : oFr σ σ2) : sgLz eda σ2 l r sz := by
  rcases h with h | ⟨h1, h2, h3, h4, h5⟩
  · exact Or.inl (sgLs_oFr h hO)
  · obtain ⟨a1, a2, a3⟩ := hO l (by rw [h1]; decide)
    exact Or.inr ⟨a1.trans h1, (a3 1).2.trans h2, h3, h4, by rw [(a3 2).1]; exact h5⟩
/-- what addAll leaves -/
def aaP (eda : Nat) (ia : Nat → Nat) (l r sz ra m : Nat) (σ σ2 : SG) : Prop := ∃ (q : Nat) (σ1 : SG), oFr σ σ1 ∧ (∀ a, sgT σ a = 0 → sgT σ1 a = 0 ∨ a = q) ∧ sgT σ1 q = 110 ∧ (∀ j y, sgR σ1 q j = some y → sgK ia σ y) ∧ sgT σ1 eda = 0 ∧ ((m = 0 ∧ ∃ x, sgPI σ1 l 0 x = σ2) ∨ sgAm l r sz m (aaE σ ra) σ1 σ2)
theorem aa_inv (h : Inv eda ia K g n S hw σ) (tl : sgT σ l = 5) (rl : gRo g l = 6) (hz : sgLz eda σ l r sz) (hzt : sgLz eda σ (kT K) ra m) (hsm : sz + m ≤ 32) (hP : aaP eda ia l r sz ra m σ σ2) (he2 : sgT σ2 eda = 0) : Inv eda ia K g n S hw σ2 ∧ tFr σ σ2 := by
  obtain ⟨q, σ1, hO, hn, tq, hk, he, hc⟩ := hP
  obtain ⟨h1, hq1⟩ := inv_nq h hO hn tq hk he
  have hT : tFr σ σ1 := fun a ha => ⟨(hO a ha).1, (hO a ha).2.1⟩
  have t1 : sgT σ1 l = 5 := tFr_T hT tl (by decide)
  rcases hc with ⟨-, x, rfl⟩ | hc
  · exact ⟨inv_PI h1 (by rw [t1]; unfold iCn; omega), hT⟩
  · have tt := inv_tT h
    have em : m = sgSz σ (kT K) := (sgLz_Sz hzt).symm
    have c2 := (inv_M h).2.2
    have hE : ∀ j, j < m → sgBx ia σ1 (aaE σ ra j) := fun j hj => by
      obtain ⟨y, y1, y2⟩ := inv_L h (kT K) tt.1 j (by omega)
      rw [sgAt_of (sgLz_R hzt)] at y1
      unfold iEl at y2
      rw [tt.2] at y2
      have ey : aaE σ ra j = y := by
        unfold aaE
        rw [y1]
        rfl
      rw [ey]
      exact sgBx_mono hT y2
    obtain ⟨w1, w2⟩ := inv_am h1 t1 rl (sgLz_oFr hz hO) hc he2 hE (by have := c2.2.2.2.1; have := c2.2.2.1; omega)
    exact ⟨w1, tFr_tr hT w2⟩
end MM45A
set_option maxRecDepth 100000 in
theorem m_addAll (l : Launch) (D : va_G) (cy : Nat → ClassId) {eda ca : Nat} {ia : Nat → Nat} {σ : SG} {l0 l1 r ra sz1 m1 : Nat} (hz0 : sgLz eda σ l0 r sz1) (hz1 : sgLz eda σ l1 ra m1) (hel : ∀ a j y : Nat, sgT σ a = 110 → sgR σ a j = some y → sgK ia σ y) (hall : ∀ j, j < m1 → ∃ y, sgR σ ra j = some y) (hsm : sz1 + m1 ≤ 32) (hm16 : m1 ≤ 16) (he : sgT σ eda = 0) (sz : Nat) : sgM l D cy eda ca ia σ sz yJx4a65c_addAll_f0b43 (Cond.code yJx4a65c_addAll_f0b43 cJx4a65c_addAll_f0b43 6 (some .boolean) :: mWall) 4 107 2 192 [.ref l0, .ref l1] (fun v σ2 => ∃ b : Int32, v = some (.int b) ∧ (sgT σ2 eda = 0 → aaP eda ia l0 r sz1 ra m1 σ σ2)) := by
  have t0 := sgLz_T hz0
  have n0 : ∀ q, sgT σ q = 0 → l0 ≠ q := fun q hq z => by rw [z, hq] at t0; exact absurd t0 (by decide)
  rcases hz1 with hL1 | ⟨t1, r1, e1, rfl, s1⟩
  · have hK : ∀ q, sgT σ q = 0 → ∀ σ2 : SG, sgT σ2 eda = 0 → ((m1 = 0 ∧ sgPI (aaC σ ra q m1) l0 0 (sgI (aaC σ ra q m1) l0 0 + 1) = σ2) ∨ sgAm l0 r sz1 m1 (aaE σ ra) (aaC σ ra q m1) σ2) → aaP eda ia l0 r sz1 ra m1 σ σ2 := fun q hq σ2 he2 hc => by
      obtain ⟨w1, w2, w3, w4, w5, w6⟩ := aa_0 hL1 hq hall
      refine ⟨q, aaC σ ra q m1, w4, w5, w1, fun j y hy => ?_, ?_, ?_⟩
      · obtain ⟨j2, -, h2⟩ := w6 j y hy
        exact hel ra j2 y hL1.2.2.1 h2
      · rcases w5 eda he with z | z
        · exact z
        · rcases hc with ⟨-, rfl⟩ | ⟨r2, -, -, -, -, -, -, c6, -⟩
          · exact he2
          · have q0 := (c6 eda (by rw [z, w1]; decide)).1
            exact q0.symm.trans he2
      · rcases hc with ⟨z1, z2⟩ | hc
        · exact Or.inl ⟨z1, _, z2⟩
        · exact Or.inr hc
    rcases hz0 with hL | ⟨q0, q1, q2, q3, q4⟩
    · refine sgM_post (m_aaA l D cy hL (fun j y hy => hel r j y hL.2.2.1 hy) hL1 (fun j y hy => hel ra j y hL1.2.2.1 hy) hall hsm hm16 sz) (fun v σ2 => ?_)
      rintro ⟨b, e1, q, hq, hc⟩
      exact ⟨b, e1, fun he2 => hK q hq σ2 he2 hc⟩
    · subst q2 q3
      refine sgM_post (m_aaB l D cy q0 q1 q4 hL1 (fun j y hy => hel ra j y hL1.2.2.1 hy) hall hsm hm16 sz) (fun v σ2 => ?_)
      rintro ⟨b, e1, q, hq, hc⟩
      exact ⟨b, e1, fun he2 => hK q hq σ2 he2 hc⟩
  · subst e1
    refine sgM_post (m_aaN l D cy t0 t1 r1 s1 sz) (fun v σ2 => ?_)
    rintro ⟨b, e1, q, hq, rfl⟩
    refine ⟨b, e1, fun he2 => ⟨q, sgNw σ q 110 0, oFr_nw oFr_rf hq, fun a z => (nw_c a z).imp id (fun w => ?_), by rw [sgNw_T, if_pos rfl], fun j y hy => ?_, he2, Or.inl ⟨rfl, _, rfl⟩⟩⟩
    · by_cases c : a = q
      · exact c
      · rw [sgNw_T, if_neg c, z] at w
        exact absurd w (by decide)
    · rw [sgNw_R, if_pos rfl] at hy
      exact absurd hy (by simp)
theorem dX14_load_0 : decode cX14_load 0 = .ok (.aload_n 0, 1) := by decide +kernel
theorem dX14_load_1 : decode cX14_load 1 = .ok (.aload_n 0, 1) := by decide +kernel
theorem dX14_load_2 : decode cX14_load 2 = .ok (.iload_n 1, 1) := by decide +kernel
theorem dX14_load_3 : decode cX14_load 3 = .ok (.iload_n 2, 1) := by decide +kernel
theorem dX14_load_4 : decode cX14_load 4 = .ok (.invokevirtual 256, 3) := by decide +kernel
theorem dX14_load_7 : decode cX14_load 7 = .ok (.ifCond .ne 7, 3) := by decide +kernel
theorem dX14_load_10 : decode cX14_load 10 = .ok (.iconst 1, 1) := by decide +kernel
theorem dX14_load_11 : decode cX14_load 11 = .ok (.goto 4, 3) := by decide +kernel
theorem dX14_load_14 : decode cX14_load 14 = .ok (.iconst 0, 1) := by decide +kernel
theorem dX14_load_15 : decode cX14_load 15 = .ok (.putfield 61, 3) := by decide +kernel
theorem dX14_load_18 : decode cX14_load 18 = .ok (.aload_n 0, 1) := by decide +kernel
theorem dX14_load_19 : decode cX14_load 19 = .ok (.getfield 61, 3) := by decide +kernel
theorem dX14_load_22 : decode cX14_load 22 = .ok (.ifCond .le 5, 3) := by decide +kernel
theorem dX14_load_25 : decode cX14_load 25 = .ok (.iconst 0, 1) := by decide +kernel
theorem dX14_load_26 : decode cX14_load 26 = .ok (.ireturn, 1) := by decide +kernel
theorem dX14_load_27 : decode cX14_load 27 = .ok (.aload_n 0, 1) := by decide +kernel
theorem dX14_load_28 : decode cX14_load 28 = .ok (.getfield 10, 3) := by decide +kernel
theorem dX14_load_31 : decode cX14_load 31 = .ok (.iload_n 1, 1) := by decide +kernel
theorem dX14_load_32 : decode cX14_load 32 = .ok (.invokevirtual 76, 3) := by decide +kernel
theorem dX14_load_35 : decode cX14_load 35 = .ok (.checkcast 48, 3) := by decide +kernel
theorem dX14_load_38 : decode cX14_load 38 = .ok (.getfield 96, 3) := by decide +kernel
theorem dX14_load_41 : decode cX14_load 41 = .ok (.iload_n 2, 1) := by decide +kernel
theorem dX14_load_42 : decode cX14_load 42 = .ok (.aaload, 1) := by decide +kernel
theorem dX14_load_43 : decode cX14_load 43 = .ok (.astore_n 3, 1) := by decide +kernel
theorem dX14_load_44 : decode cX14_load 44 = .ok (.aload_n 0, 1) := by decide +kernel
theorem dX14_load_45 : decode cX14_load 45 = .ok (.aload_n 3, 1) := by decide +kernel
theorem dX14_load_46 : decode cX14_load 46 = .ok (.getfield 300, 3) := by decide +kernel
theorem dX14_load_49 : decode cX14_load 49 = .ok (.ifCond .ne 7, 3) := by decide +kernel
theorem dX14_load_52 : decode cX14_load 52 = .ok (.iconst 2, 1) := by decide +kernel
theorem dX14_load_53 : decode cX14_load 53 = .ok (.goto 28, 3) := by decide +kernel
theorem dX14_load_56 : decode cX14_load 56 = .ok (.aload_n 3, 1) := by decide +kernel
theorem dX14_load_57 : decode cX14_load 57 = .ok (.getfield 320, 3) := by decide +kernel
theorem dX14_load_60 : decode cX14_load 60 = .ok (.invokevirtual 64, 3) := by decide +kernel
theorem dX14_load_63 : decode cX14_load 63 = .ok (.aload_n 0, 1) := by decide +kernel
theorem dX14_load_64 : decode cX14_load 64 = .ok (.getfield 25, 3) := by decide +kernel
theorem dX14_load_67 : decode cX14_load 67 = .ok (.invokevirtual 64, 3) := by decide +kernel
theorem dX14_load_70 : decode cX14_load 70 = .ok (.iadd, 1) := by decide +kernel
theorem dX14_load_71 : decode cX14_load 71 = .ok (.bipush 32, 2) := by decide +kernel
theorem dX14_load_73 : decode cX14_load 73 = .ok (.if_icmp .le 7, 3) := by decide +kernel
theorem dX14_load_76 : decode cX14_load 76 = .ok (.iconst 3, 1) := by decide +kernel
theorem dX14_load_77 : decode cX14_load 77 = .ok (.goto 4, 3) := by decide +kernel
theorem dX14_load_80 : decode cX14_load 80 = .ok (.iconst 0, 1) := by decide +kernel
theorem dX14_load_81 : decode cX14_load 81 = .ok (.putfield 61, 3) := by decide +kernel
theorem dX14_load_84 : decode cX14_load 84 = .ok (.aload_n 0, 1) := by decide +kernel
theorem dX14_load_85 : decode cX14_load 85 = .ok (.getfield 61, 3) := by decide +kernel
theorem dX14_load_88 : decode cX14_load 88 = .ok (.ifCond .le 5, 3) := by decide +kernel
theorem dX14_load_91 : decode cX14_load 91 = .ok (.iconst 0, 1) := by decide +kernel
theorem dX14_load_92 : decode cX14_load 92 = .ok (.ireturn, 1) := by decide +kernel
theorem dX14_load_93 : decode cX14_load 93 = .ok (.aload_n 3, 1) := by decide +kernel
theorem dX14_load_94 : decode cX14_load 94 = .ok (.getfield 320, 3) := by decide +kernel
theorem dX14_load_97 : decode cX14_load 97 = .ok (.aload_n 0, 1) := by decide +kernel
theorem dX14_load_98 : decode cX14_load 98 = .ok (.getfield 25, 3) := by decide +kernel
theorem dX14_load_101 : decode cX14_load 101 = .ok (.invokevirtual 323, 3) := by decide +kernel
theorem dX14_load_104 : decode cX14_load 104 = .ok (.pop, 1) := by decide +kernel
theorem dX14_load_105 : decode cX14_load 105 = .ok (.aload_n 0, 1) := by decide +kernel
theorem dX14_load_106 : decode cX14_load 106 = .ok (.getfield 25, 3) := by decide +kernel
theorem dX14_load_109 : decode cX14_load 109 = .ok (.invokevirtual 218, 3) := by decide +kernel
theorem dX14_load_112 : decode cX14_load 112 = .ok (.aload_n 3, 1) := by decide +kernel
theorem dX14_load_113 : decode cX14_load 113 = .ok (.getfield 320, 3) := by decide +kernel
theorem dX14_load_116 : decode cX14_load 116 = .ok (.invokevirtual 64, 3) := by decide +kernel
theorem dX14_load_119 : decode cX14_load 119 = .ok (.ireturn, 1) := by decide +kernel
set_option maxRecDepth 100000 in
set_option maxHeartbeats 4000000 in
theorem m_load (l : Launch) (D : va_G) (cy : Nat → ClassId) {eda ca : Nat} {ia : Nat → Nat} {σ : SG} {K : KM} {g : GH} {n S hw : Nat} (h : Inv eda ia K g n S hw σ) (x y : Int32) (sz : Nat) : sgM l D cy eda ca ia σ sz yX14_load (Cond.code yX14_load cX14_load 4 (some .int) :: mWall) 5 132 2 192 [.ref (kA K), .int x, .int y] (fun v σ2 => (∃ y : Int32, v = some (.int y)) ∧ Inv eda ia K g n S hw σ2) := by
  refine sg_ofW (cc := cX14_load) (maxL := 4) (ret := (some .int)) (by decide) rfl (Nat.le_of_ble_eq_true rfl) (lv := [(0, .ref (kA K)), (1, .int x), (2, .int y)]) rfl (fun p e s m below meth c ls H N hrt hnm F hB hl => ?_) sz
  have hx := F.1.1
  have hb := F.1.2.1
  have hown := F.1.2.2.2.1
  generalize hlo : ([] : List Loc) = locs at hB ⊢
  clear hlo
  refine lv_aload_n hx hb dX14_load_0 rfl (lv_at hl 0 rfl) ?_
  refine lv_aload_n hx hb dX14_load_1 rfl (lv_at hl 0 rfl) ?_
  refine lv_iload_n hx hb dX14_load_2 rfl (lv_at hl 1 rfl) ?_
  refine lv_iload_n hx hb dX14_load_3 rfl (lv_at hl 2 rfl) ?_
  refine sg_callV (ci := 19) F hB (m_isEnd l D cy h x y _) (cwV 2 F.1.2.2.2.2 (mgV (mm_8 _ (List.mem_of_getElem? (i := 29) rfl)) (mm_8 _ (List.mem_of_getElem? (i := 30) rfl)) (mm_8 _ (List.mem_of_getElem? (i := 31) rfl)) (mm_3 _ (List.mem_of_getElem? (i := 23) rfl)) (mm_8 _ (List.mem_of_getElem? (i := 27) rfl))) rfl rfl rfl ⟨rfl, by decide, by decide, by decide +kernel⟩ ⟨Nat.le_of_ble_eq_true rfl, Nat.le_of_ble_eq_true rfl⟩) rfl rfl (by decide) rfl hl.1 rfl (Nat.le_of_ble_eq_true rfl) dX14_load_4 (Nat.le_of_ble_eq_true rfl) (Nat.add_le_add_right (Nat.le_of_ble_eq_true rfl) _) (inv_A h) (fun H locs v σ4 N hBn hX4 hP => ?_)
  clear hB; have hB := hBn; clear hBn
  obtain ⟨b4, rfl, rfl, hb4⟩ := hP
  refine lv_if_ne (tgt := 14) hx hb dX14_load_7 (by decide) (fun c7 => ?_) (fun c7 => ?_)
  · refine lv_iconst (v := 0) hx hb dX14_load_14 (by decide) ?_
    refine pf_X14_61 F hB dX14_load_15 (inv_A h) (fun H locs hBn => ?_)
    clear hB; have hB := hBn; clear hBn
    have hI15 := inv_PIc (t := 20) hB h (inv_A h) (by unfold iCn; omega)
    refine lv_aload_n hx hb dX14_load_18 rfl (lv_at hl 0 rfl) ?_
    refine gf_X14_61 F hB dX14_load_19 (inv_A hI15) ?_
    rw [sgI_PI, if_pos ⟨rfl, rfl⟩]
    refine lv_if_le (tgt := 27) hx hb dX14_load_22 (by decide) (fun c22 => ?_) (fun c22 => (by first | exact absurd c22 (by decide) | exact (c22 (by decide)).elim))
    obtain ⟨⟨hx1, hx2⟩, ⟨hy1, hy2⟩, x9, hx9⟩ := sgb_t hb4 c7
    obtain ⟨e9, f9, l9, en1, en2, en3, en4, en5, -⟩ := inv_ends hI15 (k := x.toInt.toNat) (by omega)
    have hx9b : iEn g (sgPI σ (kA K) 0 0) x.toInt.toNat y.toInt.toNat = some x9 := hx9
    have hq6 := (iEn_of (j := y.toInt.toNat) en1).symm.trans hx9b
    have hq7 := inv_en hI15 (k := x.toInt.toNat) (by omega) (by omega) hx9b
    obtain ⟨l1, el1, el2, el3, el4, el5, el6⟩ := inv_el hI15 hq7
    refine lv_aload_n hx hb dX14_load_27 rfl (lv_at hl 0 rfl) ?_
    refine gr_X14_10 F hB dX14_load_28 (inv_A hI15) (inv_r1 hI15) ?_
    refine lv_iload_n hx hb dX14_load_31 rfl (lv_at hl 1 rfl) ?_
    refine sg_callV (ci := 4) F hB (m_getD l D cy hI15 x (by omega) (by omega) _) (cwV 1 F.1.2.2.2.2 (mgV (mm_4 _ (List.mem_of_getElem? (i := 3) rfl)) (mm_4 _ (List.mem_of_getElem? (i := 4) rfl)) (mm_4 _ (List.mem_of_getElem? (i := 5) rfl)) (mm_0 _ (List.mem_of_getElem? (i := 35) rfl)) (mm_3 _ (List.mem_of_getElem? (i := 34) rfl))) rfl rfl rfl ⟨rfl, by decide, by decide, by decide +kernel⟩ ⟨Nat.le_of_ble_eq_true rfl, Nat.le_of_ble_eq_true rfl⟩) rfl rfl (by decide) rfl hl.1 rfl (Nat.le_of_ble_eq_true rfl) dX14_load_32 (Nat.le_of_ble_eq_true rfl) (Nat.add_le_add_right (Nat.le_of_ble_eq_true rfl) _) (inv_tD hI15).1 (fun H locs v σ32 N hBn hX32 hP => ?_)
    clear hB; have hB := hBn; clear hBn
    obtain ⟨rfl, rfl⟩ := hP
    have dv32 := (inv_dv hI15 (k := (x : Int32).toInt.toNat) (by omega)).2.1
    refine va_castY hx hb hown (F.1.2.2.2.2 _ (List.mem_cons_of_mem _ (mm_4 _ (List.mem_of_getElem? (i := 2) rfl)))) (F.2.2.1.2.2 ("HubcascadeModel$Device", "HubcascadeModel$Device") (by decide +kernel)) (sg_recv (ci := 15) F.2.1 hB (by assumption) (by decide) rfl) dX14_load_35 ?_
    refine gr_X14_96 F hB dX14_load_38 dv32 en1 ?_
    refine lv_iload_n hx hb dX14_load_41 rfl (lv_at hl 2 rfl) ?_
    refine sg_aaldR 8 hx hb F.2.1 hB.1 rfl rfl dX14_load_42 en4 (by omega) (m_ltN en5 (by omega)) (m_ltM en5 (by decide)) hq6 ?_
    refine lv_astore_n (lv' := [(3, .ref _), (0, .ref _), (1, .int _), (2, .int _)]) hx hb dX14_load_43 rfl hl (by decide) rfl (fun ls hl => ?_)
    refine lv_aload_n hx hb dX14_load_44 rfl (lv_at hl 1 rfl) ?_
    refine lv_aload_n hx hb dX14_load_45 rfl (lv_at hl 0 rfl) ?_
    refine gf_X14_300 F hB dX14_load_46 hq7 ?_
    refine lv_if_ne (tgt := 56) hx hb dX14_load_49 (by decide) (fun c49 => ?_) (fun c49 => ?_)
    · refine lv_aload_n hx hb dX14_load_56 rfl (lv_at hl 0 rfl) ?_
      refine gr_X14_320 F hB dX14_load_57 hq7 el1 ?_
      refine sg_callV (ci := 4) F hB (m_size l D cy (by exact el2) _) (cwV 0 F.1.2.2.2.2 (mgV (mm_3 _ (List.mem_of_getElem? (i := 18) rfl)) (mm_3 _ (List.mem_of_getElem? (i := 19) rfl)) (mm_3 _ (List.mem_of_getElem? (i := 20) rfl)) (mm_0 _ (List.mem_of_getElem? (i := 35) rfl)) (mm_3 _ (List.mem_of_getElem? (i := 16) rfl))) rfl rfl rfl ⟨rfl, by decide, by decide, by decide +kernel⟩ ⟨Nat.le_of_ble_eq_true rfl, Nat.le_of_ble_eq_true rfl⟩) rfl rfl (by decide) rfl hl.1 rfl (Nat.le_of_ble_eq_true rfl) dX14_load_60 (Nat.le_of_ble_eq_true rfl) (Nat.add_le_add_right (Nat.le_of_ble_eq_true rfl) _) el2 (fun H locs v σ60 N hBn hX60 hP => ?_)
      clear hB; have hB := hBn; clear hBn
      obtain ⟨rfl, rfl⟩ := hP
      refine lv_aload_n hx hb dX14_load_63 rfl (lv_at hl 1 rfl) ?_
      refine gr_X14_25 F hB dX14_load_64 (inv_A hI15) (inv_r4 hI15) ?_
      refine sg_callV (ci := 4) F hB (m_size l D cy (by exact (inv_tT hI15).1) _) (cwV 0 F.1.2.2.2.2 (mgV (mm_3 _ (List.mem_of_getElem? (i := 18) rfl)) (mm_3 _ (List.mem_of_getElem? (i := 19) rfl)) (mm_3 _ (List.mem_of_getElem? (i := 20) rfl)) (mm_0 _ (List.mem_of_getElem? (i := 35) rfl)) (mm_3 _ (List.mem_of_getElem? (i := 16) rfl))) rfl rfl rfl ⟨rfl, by decide, by decide, by decide +kernel⟩ ⟨Nat.le_of_ble_eq_true rfl, Nat.le_of_ble_eq_true rfl⟩) rfl rfl (by decide) rfl hl.1 rfl (Nat.le_of_ble_eq_true rfl) dX14_load_67 (Nat.le_of_ble_eq_true rfl) (Nat.add_le_add_right (Nat.le_of_ble_eq_true rfl) _) (inv_tT hI15).1 (fun H locs v σ67 N hBn hX67 hP => ?_)
      clear hB; have hB := hBn; clear hBn
      obtain ⟨rfl, rfl⟩ := hP
      refine lv_iadd hx hb dX14_load_70 ?_
      refine lv_bipush (v := 32) hx hb dX14_load_71 (by decide) ?_
      refine lv_icmp_le (tgt := 80) hx hb dX14_load_73 (by decide) (fun c73 => ?_) (fun c73 => ?_)
      · refine lv_iconst (v := 0) hx hb dX14_load_80 (by decide) ?_
        refine pf_X14_61 F hB dX14_load_81 (inv_A hI15) (fun H locs hBn => ?_)
        clear hB; have hB := hBn; clear hBn
        have hI81 := inv_PIc (t := 20) hB hI15 (inv_A hI15) (by unfold iCn; omega)
        refine lv_aload_n hx hb dX14_load_84 rfl (lv_at hl 1 rfl) ?_
        refine gf_X14_61 F hB dX14_load_85 (inv_A hI81) ?_
        rw [sgI_PI, if_pos ⟨rfl, rfl⟩]
        refine lv_if_le (tgt := 93) hx hb dX14_load_88 (by decide) (fun c88 => ?_) (fun c88 => (by first | exact absurd c88 (by decide) | exact (c88 (by decide)).elim))
        obtain ⟨ra0, za0, zb0⟩ := (inv_LS hI81).1 _ (by exact el2) id
        obtain ⟨ra1, za1, zb1⟩ := (inv_LS hI81).1 _ (inv_tT hI81).1 id
        have zt101 := inv_szT hI81
        have hsm101 : sgSz (sgPI (sgPI σ (kA K) 0 0) (kA K) 0 0) l1 + sgSz (sgPI (sgPI σ (kA K) 0 0) (kA K) 0 0) (kT K) ≤ 32 := by
          have q1 : sgSz (sgPI (sgPI σ (kA K) 0 0) (kA K) 0 0) l1 = sgSz (sgPI σ (kA K) 0 0) l1 := sgSz_nk (by decide)
          have q2 : sgSz (sgPI (sgPI σ (kA K) 0 0) (kA K) 0 0) (kT K) = sgSz (sgPI σ (kA K) 0 0) (kT K) := sgSz_nk (by decide)
          rw [q1, q2]
          have w0 := (inv_szT hI15).1
          have w1 := (inv_szT hI15).2
          have w2 := (inv_M hI15).2.2.2.2.2.2.1
          have w3 := i_le c73
          have e32 : (32 : Int32).toInt = 32 := rfl
          rw [i_add (by omega) (by omega), el5, w0, e32] at w3
          omega
        have hall101 : ∀ j, j < sgSz (sgPI (sgPI σ (kA K) 0 0) (kA K) 0 0) (kT K) → ∃ y, sgR (sgPI (sgPI σ (kA K) 0 0) (kA K) 0 0) ra1 j = some y := fun j hj => by
          obtain ⟨y9, w1, -⟩ := inv_L hI81 (kT K) (inv_tT hI81).1 j hj
          exact ⟨y9, by rw [← sgAt_of (sgLz_R za1)]; exact w1⟩
        refine lv_aload_n hx hb dX14_load_93 rfl (lv_at hl 0 rfl) ?_
        refine gr_X14_320 F hB dX14_load_94 (by exact hq7) (by exact el1) ?_
        refine lv_aload_n hx hb dX14_load_97 rfl (lv_at hl 1 rfl) ?_
        refine gr_X14_25 F hB dX14_load_98 (inv_A hI81) (inv_r4 hI81) ?_
        refine sg_callV (ci := 4) F hB (m_addAll l D cy za0 za1 (inv_LS hI81).2.2.1 hall101 hsm101 zt101.2 (sg_eda F hB) _) (cwV 1 F.1.2.2.2.2 (mgV (mm_9 _ (List.mem_of_getElem? (i := 29) rfl)) (mm_9 _ (List.mem_of_getElem? (i := 30) rfl)) (mm_9 _ (List.mem_of_getElem? (i := 31) rfl)) (mm_0 _ (List.mem_of_getElem? (i := 35) rfl)) (mm_9 _ (List.mem_of_getElem? (i := 28) rfl))) rfl rfl rfl ⟨rfl, by decide, by decide, by decide +kernel⟩ ⟨Nat.le_of_ble_eq_true rfl, Nat.le_of_ble_eq_true rfl⟩) rfl rfl (by decide) rfl hl.1 rfl (Nat.le_of_ble_eq_true rfl) dX14_load_101 (Nat.le_of_ble_eq_true rfl) (Nat.add_le_add_right (Nat.le_of_ble_eq_true rfl) _) (by exact el2) (fun H locs v σ101 N hBn hX101 hP => ?_)
        clear hB; have hB := hBn; clear hBn
        obtain ⟨b101, rfl, hP2⟩ := hP
        obtain ⟨hI101, hT101⟩ := aa_inv hI81 (by exact el2) el3 za0 za1 hsm101 (hP2 (sg_eda F hB)) (sg_eda F hB)
        refine lv_pop hx hb dX14_load_104 rfl ?_
        refine lv_aload_n hx hb dX14_load_105 rfl (lv_at hl 1 rfl) ?_
        refine gr_X14_25 F hB dX14_load_106 (inv_A hI101) (inv_r4 hI101) ?_
        obtain ⟨ra109, za109, zb109⟩ := (inv_LS hI101).1 _ (inv_tT hI101).1 id
        refine sg_callV (ci := 4) F hB (m_clr l D cy za109 _) (cwV 0 F.1.2.2.2.2 (mgV (mm_7 _ (List.mem_of_getElem? (i := 38) rfl)) (mm_7 _ (List.mem_of_getElem? (i := 39) rfl)) (mm_8 _ (List.mem_of_getElem? (i := 0) rfl)) (mm_0 _ (List.mem_of_getElem? (i := 35) rfl)) (mm_7 _ (List.mem_of_getElem? (i := 36) rfl))) rfl rfl rfl ⟨rfl, by decide, by decide, by decide +kernel⟩ ⟨Nat.le_of_ble_eq_true rfl, Nat.le_of_ble_eq_true rfl⟩) rfl rfl (by decide) rfl hl.1 rfl (Nat.le_of_ble_eq_true rfl) dX14_load_109 (Nat.le_of_ble_eq_true rfl) (Nat.add_le_add_right (Nat.le_of_ble_eq_true rfl) _) (inv_tT hI101).1 (fun H locs v σ109 N hBn hX109 hP => ?_)
        clear hB; have hB := hBn; clear hBn
        obtain ⟨rfl, ho, ho2, ho3, ho4⟩ := hP
        obtain ⟨hI109, -⟩ := inv_clr hI101 (inv_tT hI101).1 za109 ho ho2 ho3 ho4 (inv_tT hI101).2 (inv_nD hI101 (by rw [(inv_tT hI101).2]; decide))
        have tx109 : sgT σ109 x9 = 17 := (ho.1 x9).1.trans (tFr_T hT101 hq7 (by decide))
        obtain ⟨l2, hl2, tl2, -⟩ := inv_el hI109 tx109
        refine lv_aload_n hx hb dX14_load_112 rfl (lv_at hl 0 rfl) ?_
        refine gr_X14_320 F hB dX14_load_113 tx109 hl2 ?_
        refine sg_callV (ci := 4) F hB (m_size l D cy (by exact tl2) _) (cwV 0 F.1.2.2.2.2 (mgV (mm_3 _ (List.mem_of_getElem? (i := 18) rfl)) (mm_3 _ (List.mem_of_getElem? (i := 19) rfl)) (mm_3 _ (List.mem_of_getElem? (i := 20) rfl)) (mm_0 _ (List.mem_of_getElem? (i := 35) rfl)) (mm_3 _ (List.mem_of_getElem? (i := 16) rfl))) rfl rfl rfl ⟨rfl, by decide, by decide, by decide +kernel⟩ ⟨Nat.le_of_ble_eq_true rfl, Nat.le_of_ble_eq_true rfl⟩) rfl rfl (by decide) rfl hl.1 rfl (Nat.le_of_ble_eq_true rfl) dX14_load_116 (Nat.le_of_ble_eq_true rfl) (Nat.add_le_add_right (Nat.le_of_ble_eq_true rfl) _) tl2 (fun H locs v σ116 N hBn hX116 hP => ?_)
        clear hB; have hB := hBn; clear hBn
        obtain ⟨rfl, rfl⟩ := hP
        exact sg_iret F hB hrt dX14_load_119 (by decide) (by decide) (⟨⟨_, rfl⟩, hI109⟩)
      · refine lv_iconst (v := 3) hx hb dX14_load_76 (by decide) ?_
        refine lv_goto (tgt := 81) hx hb dX14_load_77 (by decide) ?_
        refine pf_X14_61 F hB dX14_load_81 (inv_A hI15) (fun H locs hBn => ?_)
        clear hB; have hB := hBn; clear hBn
        have hI81 := inv_PIc (t := 20) hB hI15 (inv_A hI15) (by unfold iCn; omega)
        refine lv_aload_n hx hb dX14_load_84 rfl (lv_at hl 1 rfl) ?_
        refine gf_X14_61 F hB dX14_load_85 (inv_A hI81) ?_
        rw [sgI_PI, if_pos ⟨rfl, rfl⟩]
        refine lv_if_le (tgt := 93) hx hb dX14_load_88 (by decide) (fun c88 => (by first | exact absurd c88 (by decide) | exact (c88 (by decide)).elim)) (fun c88 => ?_)
        refine lv_iconst (v := 0) hx hb dX14_load_91 (by decide) ?_
        exact sg_iret F hB hrt dX14_load_92 (by decide) (by decide) (⟨⟨_, rfl⟩, hI81⟩)
    · refine lv_iconst (v := 2) hx hb dX14_load_52 (by decide) ?_
      refine lv_goto (tgt := 81) hx hb dX14_load_53 (by decide) ?_
      refine pf_X14_61 F hB dX14_load_81 (inv_A hI15) (fun H locs hBn => ?_)
      clear hB; have hB := hBn; clear hBn
      have hI81 := inv_PIc (t := 20) hB hI15 (inv_A hI15) (by unfold iCn; omega)
      refine lv_aload_n hx hb dX14_load_84 rfl (lv_at hl 1 rfl) ?_
      refine gf_X14_61 F hB dX14_load_85 (inv_A hI81) ?_
      rw [sgI_PI, if_pos ⟨rfl, rfl⟩]
      refine lv_if_le (tgt := 93) hx hb dX14_load_88 (by decide) (fun c88 => (by first | exact absurd c88 (by decide) | exact (c88 (by decide)).elim)) (fun c88 => ?_)
      refine lv_iconst (v := 0) hx hb dX14_load_91 (by decide) ?_
      exact sg_iret F hB hrt dX14_load_92 (by decide) (by decide) (⟨⟨_, rfl⟩, hI81⟩)
  · refine lv_iconst (v := 1) hx hb dX14_load_10 (by decide) ?_
    refine lv_goto (tgt := 15) hx hb dX14_load_11 (by decide) ?_
    refine pf_X14_61 F hB dX14_load_15 (inv_A h) (fun H locs hBn => ?_)
    clear hB; have hB := hBn; clear hBn
    have hI15 := inv_PIc (t := 20) hB h (inv_A h) (by unfold iCn; omega)
    refine lv_aload_n hx hb dX14_load_18 rfl (lv_at hl 0 rfl) ?_
    refine gf_X14_61 F hB dX14_load_19 (inv_A hI15) ?_
    rw [sgI_PI, if_pos ⟨rfl, rfl⟩]
    refine lv_if_le (tgt := 27) hx hb dX14_load_22 (by decide) (fun c22 => (by first | exact absurd c22 (by decide) | exact (c22 (by decide)).elim)) (fun c22 => ?_)
    refine lv_iconst (v := 0) hx hb dX14_load_25 (by decide) ?_
    exact sg_iret F hB hrt dX14_load_26 (by decide) (by decide) (⟨⟨_, rfl⟩, hI15⟩)
end MM45
