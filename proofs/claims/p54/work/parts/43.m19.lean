section MM19
theorem sgM_post {l : Launch} {D : va_G} {cy : Nat → ClassId} {eda ca : Nat} {ia : Nat → Nat} {σ : SG} {sz : Nat} {y : MethodName} {WS : List Cond} {fr lo mc c : Nat} {av : List Value} {Post Post2 : Option Value → SG → Prop} (h : sgM l D cy eda ca ia σ sz y WS fr lo mc c av Post) (hi : ∀ v σ2, Post v σ2 → Post2 v σ2) : sgM l D cy eda ca ia σ sz y WS fr lo mc c av Post2 := by
  intro p e ha hc hk s m args below hf happ hP hK
  obtain ⟨k, o, h1, h2, h3, ⟨⟨v, σ2, w1, w2, w3, w4, w5⟩, w6⟩, L, h5, h6⟩ := h p e ha hc hk s m args below hf happ hP hK
  exact ⟨k, o, h1, h2, h3, ⟨⟨v, σ2, w1, w2, w3, hi v σ2 w4, w5⟩, w6⟩, L, h5, h6⟩
theorem sgb_iff {b : Int32} {P Q : Prop} (h : sgb b P) (e : P ↔ Q) : sgb b Q := by
  rcases h with ⟨h1, h2⟩ | ⟨h1, h2⟩
  · exact Or.inl ⟨h1, e.mp h2⟩
  · exact Or.inr ⟨h1, fun z => h2 (e.mpr z)⟩
/-- an iterator at its place -/
def itF (l0 q j : Nat) (σ : SG) : Prop := sgT σ q = 4 ∧ sgR σ q 3 = some l0 ∧ sgT σ l0 = 5 ∧ sgI σ l0 0 = sgI σ q 2 ∧ (sgI σ q 0).toInt = j ∧ j ≤ sgSz σ l0
theorem itF_0 {l0 q : Nat} {σ σ2 : SG} (ht : sgT σ l0 = 5) (h : sgIt l0 q σ σ2) : itF l0 q 0 σ2 := by
  obtain ⟨h1, h2, h3, h4, h5⟩ := h
  obtain ⟨e1, e2, e3⟩ := h1.1 l0 (by rw [ht]; decide)
  exact ⟨h2, h3, by rw [e1]; exact ht, by rw [(e3 0).1, h5], by rw [h4]; rfl, Nat.zero_le _⟩
/-- an int elsewhere -/
theorem itF_PI {l0 q j a k : Nat} {σ : SG} {x : Int32} (h : itF l0 q j σ) (h1 : a ≠ q) (h2 : a ≠ l0) : itF l0 q j (sgPI σ a k x) := by
  obtain ⟨q1, q2, q3, q4, q5, q6⟩ := h
  refine ⟨q1, q2, q3, ?_, ?_, ?_⟩
  · rw [sgI_PI, if_neg (fun z => h2 z.1.symm), sgI_PI, if_neg (fun z => h1 z.1.symm)]; exact q4
  · rw [sgI_PI, if_neg (fun z => h1 z.1.symm)]; exact q5
  · unfold sgSz; rw [sgI_PI, if_neg (fun z => h2 z.1.symm)]; exact q6
theorem m_hasN (l : Launch) (D : va_G) (cy : Nat → ClassId) {eda ca : Nat} {ia : Nat → Nat} {σ : SG} {K : KM} {g : GH} {n S hw : Nat} (h : Inv eda ia K g n S hw σ) {l0 q j : Nat} (hf : itF l0 q j σ) (sz : Nat) : sgM l D cy eda ca ia σ sz yJx35411_hasNext_aae02 (Cond.code yJx35411_hasNext_aae02 cJx35411_hasNext_aae02 1 (some .boolean) :: mWall) 0 0 0 0 [.ref q] (fun v σ2 => ∃ b : Int32, v = some (.int b) ∧ σ = σ2 ∧ sgb b (j < sgSz σ l0)) := by
  obtain ⟨q1, q2, q3, q4, q5, q6⟩ := hf
  have hz := (inv_lsz h q3).1
  refine sgM_post (m_hasNext l D cy q1 q2 q3 sz) (fun v σ2 => ?_)
  rintro ⟨b, e1, e2, e3⟩
  refine ⟨b, e1, e2, sgb_iff e3 ⟨fun z => ?_, fun z w => ?_⟩⟩
  · have := m_neI z
    omega
  · have := m_eqI w
    omega
theorem m_nextI (l : Launch) (D : va_G) (cy : Nat → ClassId) {eda ca : Nat} {ia : Nat → Nat} {σ : SG} {K : KM} {g : GH} {n S hw : Nat} (h : Inv eda ia K g n S hw σ) {l0 q j : Nat} (hf : itF l0 q j σ) (hj : j < sgSz σ l0) (sz : Nat) : sgM l D cy eda ca ia σ sz yJx35411_next_0502b (Cond.code yJx35411_next_0502b cJx35411_next_0502b 3 (some (.object "java/lang/Object")) :: mWall) 1 20 0 0 [.ref q] (fun v σ2 => ∃ y : Nat, v = some (.ref y) ∧ sgAt σ l0 j = some y ∧ iEl ia g σ l0 j y ∧ Inv eda ia K g n S hw σ2 ∧ itF l0 q (j + 1) σ2 ∧ sgPI (sgPI σ q 0 (sgI σ q 0 + 1)) q 1 (sgI σ q 0) = σ2) := by
  obtain ⟨q1, q2, q3, q4, q5, q6⟩ := hf
  obtain ⟨r, z1, z2⟩ := (inv_LS h).1 l0 q3 id
  have gs := sgLz_s z1 (by omega)
  obtain ⟨y, w1, w2⟩ := inv_L h l0 q3 j hj
  have hqt : q ≠ l0 := fun z => by rw [z, q3] at q1; exact absurd q1 (by decide)
  refine sgM_post (m_next l D cy q1 q2 q3 q4 gs q5 hj (by rw [← sgAt_of gs.2.1]; exact w1) sz) (fun v σ2 => ?_)
  rintro ⟨rfl, rfl⟩
  refine ⟨y, rfl, w1, w2, inv_PI (inv_PI h (by rw [q1]; unfold iCn; omega)) (by rw [show sgT (sgPI σ q 0 _) q = 4 from q1]; unfold iCn; omega), ⟨q1, q2, q3, ?_, ?_, ?_⟩, rfl⟩
  · rw [sgI_nk (by decide), sgI_PI, if_neg (fun z => hqt z.1.symm), sgI_nk (by decide), sgI_nk (by decide)]; exact q4
  · rw [sgI_nk (by decide), sgI_PI, if_pos ⟨rfl, rfl⟩, m_add1 (by omega) (by omega), q5]; rfl
  · rw [sgSz_nk (by decide), sgSz_nk (by decide)]; omega
theorem dX14_draw_0 : decode cX14_draw 0 = .ok (.aload_n 0, 1) := by decide +kernel
theorem dX14_draw_1 : decode cX14_draw 1 = .ok (.aload_n 0, 1) := by decide +kernel
theorem dX14_draw_2 : decode cX14_draw 2 = .ok (.iload_n 1, 1) := by decide +kernel
theorem dX14_draw_3 : decode cX14_draw 3 = .ok (.invokevirtual 149, 3) := by decide +kernel
theorem dX14_draw_6 : decode cX14_draw 6 = .ok (.ifCond .ne 7, 3) := by decide +kernel
theorem dX14_draw_9 : decode cX14_draw 9 = .ok (.iconst 1, 1) := by decide +kernel
theorem dX14_draw_10 : decode cX14_draw 10 = .ok (.goto 18, 3) := by decide +kernel
theorem dX14_draw_13 : decode cX14_draw 13 = .ok (.iload_n 2, 1) := by decide +kernel
theorem dX14_draw_14 : decode cX14_draw 14 = .ok (.iconst 0, 1) := by decide +kernel
theorem dX14_draw_15 : decode cX14_draw 15 = .ok (.bipush 9, 2) := by decide +kernel
theorem dX14_draw_17 : decode cX14_draw 17 = .ok (.invokestatic 68, 3) := by decide +kernel
theorem dX14_draw_20 : decode cX14_draw 20 = .ok (.ifCond .ne 7, 3) := by decide +kernel
theorem dX14_draw_23 : decode cX14_draw 23 = .ok (.iconst 2, 1) := by decide +kernel
theorem dX14_draw_24 : decode cX14_draw 24 = .ok (.goto 4, 3) := by decide +kernel
theorem dX14_draw_27 : decode cX14_draw 27 = .ok (.iconst 0, 1) := by decide +kernel
theorem dX14_draw_28 : decode cX14_draw 28 = .ok (.putfield 61, 3) := by decide +kernel
theorem dX14_draw_31 : decode cX14_draw 31 = .ok (.aload_n 0, 1) := by decide +kernel
theorem dX14_draw_32 : decode cX14_draw 32 = .ok (.getfield 61, 3) := by decide +kernel
theorem dX14_draw_35 : decode cX14_draw 35 = .ok (.ifCond .le 5, 3) := by decide +kernel
theorem dX14_draw_38 : decode cX14_draw 38 = .ok (.iconst 0, 1) := by decide +kernel
theorem dX14_draw_39 : decode cX14_draw 39 = .ok (.ireturn, 1) := by decide +kernel
theorem dX14_draw_40 : decode cX14_draw 40 = .ok (.aload_n 0, 1) := by decide +kernel
theorem dX14_draw_41 : decode cX14_draw 41 = .ok (.getfield 10, 3) := by decide +kernel
theorem dX14_draw_44 : decode cX14_draw 44 = .ok (.iload_n 1, 1) := by decide +kernel
theorem dX14_draw_45 : decode cX14_draw 45 = .ok (.invokevirtual 76, 3) := by decide +kernel
theorem dX14_draw_48 : decode cX14_draw 48 = .ok (.checkcast 48, 3) := by decide +kernel
theorem dX14_draw_51 : decode cX14_draw 51 = .ok (.getfield 196, 3) := by decide +kernel
theorem dX14_draw_54 : decode cX14_draw 54 = .ok (.istore_n 3, 1) := by decide +kernel
theorem dX14_draw_55 : decode cX14_draw 55 = .ok (.aload_n 0, 1) := by decide +kernel
theorem dX14_draw_56 : decode cX14_draw 56 = .ok (.getfield 10, 3) := by decide +kernel
theorem dX14_draw_59 : decode cX14_draw 59 = .ok (.iload_n 1, 1) := by decide +kernel
theorem dX14_draw_60 : decode cX14_draw 60 = .ok (.invokevirtual 76, 3) := by decide +kernel
theorem dX14_draw_63 : decode cX14_draw 63 = .ok (.checkcast 48, 3) := by decide +kernel
theorem dX14_draw_66 : decode cX14_draw 66 = .ok (.iload_n 2, 1) := by decide +kernel
theorem dX14_draw_67 : decode cX14_draw 67 = .ok (.putfield 196, 3) := by decide +kernel
theorem dX14_draw_70 : decode cX14_draw 70 = .ok (.iload_n 3, 1) := by decide +kernel
theorem dX14_draw_71 : decode cX14_draw 71 = .ok (.ireturn, 1) := by decide +kernel
set_option maxRecDepth 100000 in
set_option maxHeartbeats 4000000 in
theorem m_draw (l : Launch) (D : va_G) (cy : Nat → ClassId) {eda ca : Nat} {ia : Nat → Nat} {σ : SG} {K : KM} {g : GH} {n S hw : Nat} (h : Inv eda ia K g n S hw σ) (x y : Int32) (sz : Nat) : sgM l D cy eda ca ia σ sz yX14_draw (Cond.code yX14_draw cX14_draw 4 (some .int) :: mWall) 3 64 0 0 [.ref (kA K), .int x, .int y] (fun v σ2 => (∃ y : Int32, v = some (.int y)) ∧ Inv eda ia K g n S hw σ2) := by
  refine sg_ofW (cc := cX14_draw) (maxL := 4) (ret := (some .int)) (by decide) rfl (Nat.le_of_ble_eq_true rfl) (lv := [(0, .ref (kA K)), (1, .int x), (2, .int y)]) rfl (fun p e s m below meth c ls H N hrt hnm F hB hl => ?_) sz
  have hx := F.1.1
  have hb := F.1.2.1
  have hown := F.1.2.2.2.1
  refine lv_aload_n hx hb dX14_draw_0 rfl (lv_at hl 0 rfl) ?_
  refine lv_aload_n hx hb dX14_draw_1 rfl (lv_at hl 0 rfl) ?_
  refine lv_iload_n hx hb dX14_draw_2 rfl (lv_at hl 1 rfl) ?_
  refine sg_callV (ci := 19) F hB (m_isOther l D cy h x _) (cwV 1 F.1.2.2.2.2 (mgV (mm_6 _ (List.mem_of_getElem? (i := 6) rfl)) (mm_6 _ (List.mem_of_getElem? (i := 7) rfl)) (mm_6 _ (List.mem_of_getElem? (i := 8) rfl)) (mm_3 _ (List.mem_of_getElem? (i := 23) rfl)) (mm_6 _ (List.mem_of_getElem? (i := 5) rfl))) rfl rfl rfl ⟨rfl, by decide, by decide, by decide +kernel⟩ ⟨Nat.le_of_ble_eq_true rfl, Nat.le_of_ble_eq_true rfl⟩) rfl rfl (by decide) rfl hl.1 rfl (Nat.le_of_ble_eq_true rfl) dX14_draw_3 (Nat.le_of_ble_eq_true rfl) (Nat.add_le_add_right (Nat.le_of_ble_eq_true rfl) _) (inv_A h) (fun H locs v σ3 N hBn hX3 hP => ?_)
  clear hB; have hB := hBn; clear hBn
  obtain ⟨b3, rfl, rfl, hb3⟩ := hP
  refine lv_if_ne (tgt := 13) hx hb dX14_draw_6 (by decide) (fun c6 => ?_) (fun c6 => ?_)
  · refine lv_iload_n hx hb dX14_draw_13 rfl (lv_at hl 2 rfl) ?_
    refine lv_iconst (v := 0) hx hb dX14_draw_14 (by decide) ?_
    refine lv_bipush (v := 9) hx hb dX14_draw_15 (by decide) ?_
    refine sg_callS F hB (m_in l D cy y 0 9 _) (cwS 3 F.1.2.2.2.2 (mgS (mm_3 _ (List.mem_of_getElem? (i := 21) rfl)) (mm_3 _ (List.mem_of_getElem? (i := 22) rfl)) (mm_3 _ (List.mem_of_getElem? (i := 23) rfl)) (mm_1 _ (List.mem_of_getElem? (i := 19) rfl))) rfl rfl rfl ⟨rfl, by decide, by decide, by decide +kernel⟩ ⟨Nat.le_of_ble_eq_true rfl, Nat.le_of_ble_eq_true rfl⟩) rfl hl.1 rfl (Nat.le_of_ble_eq_true rfl) dX14_draw_17 (Nat.le_of_ble_eq_true rfl) (Nat.add_le_add_right (Nat.le_of_ble_eq_true rfl) _)  (fun H locs v σ17 N hBn hX17 hP => ?_)
    clear hB; have hB := hBn; clear hBn
    obtain ⟨b17, rfl, rfl, hb17⟩ := hP
    refine lv_if_ne (tgt := 27) hx hb dX14_draw_20 (by decide) (fun c20 => ?_) (fun c20 => ?_)
    · refine lv_iconst (v := 0) hx hb dX14_draw_27 (by decide) ?_
      refine pf_X14_61 F hB dX14_draw_28 (inv_A h) (fun H locs hBn => ?_)
      clear hB; have hB := hBn; clear hBn
      have hI28 := inv_PIc (t := 20) hB h (inv_A h) (by unfold iCn; omega)
      refine lv_aload_n hx hb dX14_draw_31 rfl (lv_at hl 0 rfl) ?_
      refine gf_X14_61 F hB dX14_draw_32 (inv_A hI28) ?_
      rw [sgI_PI, if_pos ⟨rfl, rfl⟩]
      refine lv_if_le (tgt := 40) hx hb dX14_draw_35 (by decide) (fun c35 => ?_) (fun c35 => (by first | exact absurd c35 (by decide) | exact (c35 (by decide)).elim))
      have hx5 : 1 ≤ x.toInt ∧ x.toInt < n := sgb_t hb3 c6
      refine lv_aload_n hx hb dX14_draw_40 rfl (lv_at hl 0 rfl) ?_
      refine gr_X14_10 F hB dX14_draw_41 (inv_A hI28) (inv_r1 hI28) ?_
      refine lv_iload_n hx hb dX14_draw_44 rfl (lv_at hl 1 rfl) ?_
      refine sg_callV (ci := 4) F hB (m_getD l D cy hI28 x (by omega) (by omega) _) (cwV 1 F.1.2.2.2.2 (mgV (mm_4 _ (List.mem_of_getElem? (i := 3) rfl)) (mm_4 _ (List.mem_of_getElem? (i := 4) rfl)) (mm_4 _ (List.mem_of_getElem? (i := 5) rfl)) (mm_0 _ (List.mem_of_getElem? (i := 35) rfl)) (mm_3 _ (List.mem_of_getElem? (i := 34) rfl))) rfl rfl rfl ⟨rfl, by decide, by decide, by decide +kernel⟩ ⟨Nat.le_of_ble_eq_true rfl, Nat.le_of_ble_eq_true rfl⟩) rfl rfl (by decide) rfl hl.1 rfl (Nat.le_of_ble_eq_true rfl) dX14_draw_45 (Nat.le_of_ble_eq_true rfl) (Nat.add_le_add_right (Nat.le_of_ble_eq_true rfl) _) (inv_tD hI28).1 (fun H locs v σ45 N hBn hX45 hP => ?_)
      clear hB; have hB := hBn; clear hBn
      obtain ⟨rfl, rfl⟩ := hP
      have dv45 := (inv_dv hI28 (k := (x : Int32).toInt.toNat) (by omega)).2.1
      refine va_castY hx hb hown (F.1.2.2.2.2 _ (List.mem_cons_of_mem _ (mm_4 _ (List.mem_of_getElem? (i := 2) rfl)))) (F.2.2.1.2.2 ("HubcascadeModel$Device", "HubcascadeModel$Device") (by decide +kernel)) (sg_recv (ci := 15) F.2.1 hB (by assumption) (by decide) rfl) dX14_draw_48 ?_
      refine gf_X14_196 F hB dX14_draw_51 (by assumption) ?_
      refine lv_istore_n (lv' := [(3, .int _), (0, .ref _), (1, .int _), (2, .int _)]) hx hb dX14_draw_54 rfl hl (by decide) rfl (fun ls hl => ?_)
      refine lv_aload_n hx hb dX14_draw_55 rfl (lv_at hl 1 rfl) ?_
      refine gr_X14_10 F hB dX14_draw_56 (inv_A hI28) (inv_r1 hI28) ?_
      refine lv_iload_n hx hb dX14_draw_59 rfl (lv_at hl 2 rfl) ?_
      refine sg_callV (ci := 4) F hB (m_getD l D cy hI28 x (by omega) (by omega) _) (cwV 1 F.1.2.2.2.2 (mgV (mm_4 _ (List.mem_of_getElem? (i := 3) rfl)) (mm_4 _ (List.mem_of_getElem? (i := 4) rfl)) (mm_4 _ (List.mem_of_getElem? (i := 5) rfl)) (mm_0 _ (List.mem_of_getElem? (i := 35) rfl)) (mm_3 _ (List.mem_of_getElem? (i := 34) rfl))) rfl rfl rfl ⟨rfl, by decide, by decide, by decide +kernel⟩ ⟨Nat.le_of_ble_eq_true rfl, Nat.le_of_ble_eq_true rfl⟩) rfl rfl (by decide) rfl hl.1 rfl (Nat.le_of_ble_eq_true rfl) dX14_draw_60 (Nat.le_of_ble_eq_true rfl) (Nat.add_le_add_right (Nat.le_of_ble_eq_true rfl) _) (inv_tD hI28).1 (fun H locs v σ60 N hBn hX60 hP => ?_)
      clear hB; have hB := hBn; clear hBn
      obtain ⟨rfl, rfl⟩ := hP
      have dv60 := (inv_dv hI28 (k := (x : Int32).toInt.toNat) (by omega)).2.1
      refine va_castY hx hb hown (F.1.2.2.2.2 _ (List.mem_cons_of_mem _ (mm_4 _ (List.mem_of_getElem? (i := 2) rfl)))) (F.2.2.1.2.2 ("HubcascadeModel$Device", "HubcascadeModel$Device") (by decide +kernel)) (sg_recv (ci := 15) F.2.1 hB (by assumption) (by decide) rfl) dX14_draw_63 ?_
      refine lv_iload_n hx hb dX14_draw_66 rfl (lv_at hl 3 rfl) ?_
      refine pf_X14_196 F hB dX14_draw_67 dv60 (fun H locs hBn => ?_)
      clear hB; have hB := hBn; clear hBn
      have hI67 := inv_PIc (t := 16) hB hI28 dv60 (by unfold iCn; omega)
      refine lv_iload_n hx hb dX14_draw_70 rfl (lv_at hl 0 rfl) ?_
      exact sg_iret F hB hrt dX14_draw_71 (by decide) (by decide) (⟨⟨_, rfl⟩, hI67⟩)
    · refine lv_iconst (v := 2) hx hb dX14_draw_23 (by decide) ?_
      refine lv_goto (tgt := 28) hx hb dX14_draw_24 (by decide) ?_
      refine pf_X14_61 F hB dX14_draw_28 (inv_A h) (fun H locs hBn => ?_)
      clear hB; have hB := hBn; clear hBn
      have hI28 := inv_PIc (t := 20) hB h (inv_A h) (by unfold iCn; omega)
      refine lv_aload_n hx hb dX14_draw_31 rfl (lv_at hl 0 rfl) ?_
      refine gf_X14_61 F hB dX14_draw_32 (inv_A hI28) ?_
      rw [sgI_PI, if_pos ⟨rfl, rfl⟩]
      refine lv_if_le (tgt := 40) hx hb dX14_draw_35 (by decide) (fun c35 => (by first | exact absurd c35 (by decide) | exact (c35 (by decide)).elim)) (fun c35 => ?_)
      refine lv_iconst (v := 0) hx hb dX14_draw_38 (by decide) ?_
      exact sg_iret F hB hrt dX14_draw_39 (by decide) (by decide) (⟨⟨_, rfl⟩, hI28⟩)
  · refine lv_iconst (v := 1) hx hb dX14_draw_9 (by decide) ?_
    refine lv_goto (tgt := 28) hx hb dX14_draw_10 (by decide) ?_
    refine pf_X14_61 F hB dX14_draw_28 (inv_A h) (fun H locs hBn => ?_)
    clear hB; have hB := hBn; clear hBn
    have hI28 := inv_PIc (t := 20) hB h (inv_A h) (by unfold iCn; omega)
    refine lv_aload_n hx hb dX14_draw_31 rfl (lv_at hl 0 rfl) ?_
    refine gf_X14_61 F hB dX14_draw_32 (inv_A hI28) ?_
    rw [sgI_PI, if_pos ⟨rfl, rfl⟩]
    refine lv_if_le (tgt := 40) hx hb dX14_draw_35 (by decide) (fun c35 => (by first | exact absurd c35 (by decide) | exact (c35 (by decide)).elim)) (fun c35 => ?_)
    refine lv_iconst (v := 0) hx hb dX14_draw_38 (by decide) ?_
    exact sg_iret F hB hrt dX14_draw_39 (by decide) (by decide) (⟨⟨_, rfl⟩, hI28⟩)
theorem dX14_left_0 : decode cX14_left 0 = .ok (.aload_n 0, 1) := by decide +kernel
theorem dX14_left_1 : decode cX14_left 1 = .ok (.iload_n 1, 1) := by decide +kernel
theorem dX14_left_2 : decode cX14_left 2 = .ok (.iconst (-1), 1) := by decide +kernel
theorem dX14_left_3 : decode cX14_left 3 = .ok (.if_icmp .eq 15, 3) := by decide +kernel
theorem dX14_left_6 : decode cX14_left 6 = .ok (.aload_n 0, 1) := by decide +kernel
theorem dX14_left_7 : decode cX14_left 7 = .ok (.iload_n 1, 1) := by decide +kernel
theorem dX14_left_8 : decode cX14_left 8 = .ok (.invokevirtual 72, 3) := by decide +kernel
theorem dX14_left_11 : decode cX14_left 11 = .ok (.ifCond .ne 7, 3) := by decide +kernel
theorem dX14_left_14 : decode cX14_left 14 = .ok (.iconst 1, 1) := by decide +kernel
theorem dX14_left_15 : decode cX14_left 15 = .ok (.goto 15, 3) := by decide +kernel
theorem dX14_left_18 : decode cX14_left 18 = .ok (.aload_n 0, 1) := by decide +kernel
theorem dX14_left_19 : decode cX14_left 19 = .ok (.getfield 205, 3) := by decide +kernel
theorem dX14_left_22 : decode cX14_left 22 = .ok (.ifCond .ne 7, 3) := by decide +kernel
theorem dX14_left_25 : decode cX14_left 25 = .ok (.iconst 2, 1) := by decide +kernel
theorem dX14_left_26 : decode cX14_left 26 = .ok (.goto 4, 3) := by decide +kernel
theorem dX14_left_29 : decode cX14_left 29 = .ok (.iconst 0, 1) := by decide +kernel
theorem dX14_left_30 : decode cX14_left 30 = .ok (.putfield 61, 3) := by decide +kernel
theorem dX14_left_33 : decode cX14_left 33 = .ok (.aload_n 0, 1) := by decide +kernel
theorem dX14_left_34 : decode cX14_left 34 = .ok (.getfield 61, 3) := by decide +kernel
theorem dX14_left_37 : decode cX14_left 37 = .ok (.ifCond .le 7, 3) := by decide +kernel
theorem dX14_left_40 : decode cX14_left 40 = .ok (.iconst 0, 1) := by decide +kernel
theorem dX14_left_41 : decode cX14_left 41 = .ok (.goto 21, 3) := by decide +kernel
theorem dX14_left_44 : decode cX14_left 44 = .ok (.iload_n 1, 1) := by decide +kernel
theorem dX14_left_45 : decode cX14_left 45 = .ok (.iconst (-1), 1) := by decide +kernel
theorem dX14_left_46 : decode cX14_left 46 = .ok (.if_icmp .ne 10, 3) := by decide +kernel
theorem dX14_left_49 : decode cX14_left 49 = .ok (.aload_n 0, 1) := by decide +kernel
theorem dX14_left_50 : decode cX14_left 50 = .ok (.getfield 42, 3) := by decide +kernel
theorem dX14_left_53 : decode cX14_left 53 = .ok (.goto 9, 3) := by decide +kernel
theorem dX14_left_56 : decode cX14_left 56 = .ok (.aload_n 0, 1) := by decide +kernel
theorem dX14_left_57 : decode cX14_left 57 = .ok (.getfield 45, 3) := by decide +kernel
theorem dX14_left_60 : decode cX14_left 60 = .ok (.iload_n 1, 1) := by decide +kernel
theorem dX14_left_61 : decode cX14_left 61 = .ok (.iaload, 1) := by decide +kernel
theorem dX14_left_62 : decode cX14_left 62 = .ok (.ireturn, 1) := by decide +kernel
set_option maxRecDepth 100000 in
set_option maxHeartbeats 4000000 in
theorem m_left (l : Launch) (D : va_G) (cy : Nat → ClassId) {eda ca : Nat} {ia : Nat → Nat} {σ : SG} {K : KM} {g : GH} {n S hw : Nat} (h : Inv eda ia K g n S hw σ) (x : Int32) (sz : Nat) : sgM l D cy eda ca ia σ sz yX14_left (Cond.code yX14_left cX14_left 2 (some .int) :: mWall) 2 43 0 0 [.ref (kA K), .int x] (fun v σ2 => (∃ y : Int32, v = some (.int y)) ∧ Inv eda ia K g n S hw σ2) := by
  refine sg_ofW (cc := cX14_left) (maxL := 2) (ret := (some .int)) (by decide) rfl (Nat.le_of_ble_eq_true rfl) (lv := [(0, .ref (kA K)), (1, .int x)]) rfl (fun p e s m below meth c ls H N hrt hnm F hB hl => ?_) sz
  have hx := F.1.1
  have hb := F.1.2.1
  have hown := F.1.2.2.2.1
  have hH := inv_tH h
  obtain ⟨z1, z2, z3⟩ := inv_sz h
  refine lv_aload_n hx hb dX14_left_0 rfl (lv_at hl 0 rfl) ?_
  refine lv_iload_n hx hb dX14_left_1 rfl (lv_at hl 1 rfl) ?_
  refine lv_iconst (v := (-1)) hx hb dX14_left_2 (by decide) ?_
  refine lv_icmp_eq (tgt := 18) hx hb dX14_left_3 (by decide) (fun c3 => ?_) (fun c3 => ?_)
  · refine lv_aload_n hx hb dX14_left_18 rfl (lv_at hl 0 rfl) ?_
    refine gf_X14_205 F hB dX14_left_19 (inv_A h) ?_
    refine lv_if_ne (tgt := 29) hx hb dX14_left_22 (by decide) (fun c22 => ?_) (fun c22 => ?_)
    · refine lv_iconst (v := 0) hx hb dX14_left_29 (by decide) ?_
      refine pf_X14_61 F hB dX14_left_30 (inv_A h) (fun H locs hBn => ?_)
      clear hB; have hB := hBn; clear hBn
      have hI30 := inv_PIc (t := 20) hB h (inv_A h) (by unfold iCn; omega)
      refine lv_aload_n hx hb dX14_left_33 rfl (lv_at hl 0 rfl) ?_
      refine gf_X14_61 F hB dX14_left_34 (inv_A hI30) ?_
      rw [sgI_PI, if_pos ⟨rfl, rfl⟩]
      refine lv_if_le (tgt := 44) hx hb dX14_left_37 (by decide) (fun c37 => ?_) (fun c37 => (by first | exact absurd c37 (by decide) | exact (c37 (by decide)).elim))
      refine lv_iload_n hx hb dX14_left_44 rfl (lv_at hl 1 rfl) ?_
      refine lv_iconst (v := (-1)) hx hb dX14_left_45 (by decide) ?_
      refine lv_icmp_ne (tgt := 56) hx hb dX14_left_46 (by decide) (fun c46 => ?_) (fun c46 => ?_)
      · have hx5 : 0 ≤ x.toInt ∧ x.toInt < n := by first | exact sgb_t hb8 c11 | exact absurd c3 c46
        refine lv_aload_n hx hb dX14_left_56 rfl (lv_at hl 0 rfl) ?_
        refine gr_X14_45 F hB dX14_left_57 (inv_A hI30) (inv_r12 hI30) ?_
        refine lv_iload_n hx hb dX14_left_60 rfl (lv_at hl 1 rfl) ?_
        refine sg_iald hx hb F.2.1 hB.1 dX14_left_61 (by exact hH.1) (by omega) (m_ltN (n := 16) hH.2 (by omega)) (m_ltM hH.2 (by decide)) ?_
        exact sg_iret F hB hrt dX14_left_62 (by decide) (by decide) (by first | exact ⟨⟨_, rfl⟩, hI30⟩ | exact absurd c3 c46)
      · refine lv_aload_n hx hb dX14_left_49 rfl (lv_at hl 0 rfl) ?_
        refine gf_X14_42 F hB dX14_left_50 (inv_A hI30) ?_
        refine lv_goto (tgt := 62) hx hb dX14_left_53 (by decide) ?_
        exact sg_iret F hB hrt dX14_left_62 (by decide) (by decide) (by first | exact ⟨⟨_, rfl⟩, hI30⟩ | exact absurd c3 c46)
    · refine lv_iconst (v := 2) hx hb dX14_left_25 (by decide) ?_
      refine lv_goto (tgt := 30) hx hb dX14_left_26 (by decide) ?_
      refine pf_X14_61 F hB dX14_left_30 (inv_A h) (fun H locs hBn => ?_)
      clear hB; have hB := hBn; clear hBn
      have hI30 := inv_PIc (t := 20) hB h (inv_A h) (by unfold iCn; omega)
      refine lv_aload_n hx hb dX14_left_33 rfl (lv_at hl 0 rfl) ?_
      refine gf_X14_61 F hB dX14_left_34 (inv_A hI30) ?_
      rw [sgI_PI, if_pos ⟨rfl, rfl⟩]
      refine lv_if_le (tgt := 44) hx hb dX14_left_37 (by decide) (fun c37 => (by first | exact absurd c37 (by decide) | exact (c37 (by decide)).elim)) (fun c37 => ?_)
      refine lv_iconst (v := 0) hx hb dX14_left_40 (by decide) ?_
      refine lv_goto (tgt := 62) hx hb dX14_left_41 (by decide) ?_
      exact sg_iret F hB hrt dX14_left_62 (by decide) (by decide) (by first | exact ⟨⟨_, rfl⟩, hI30⟩ | exact absurd c3 c46)
  · refine lv_aload_n hx hb dX14_left_6 rfl (lv_at hl 0 rfl) ?_
    refine lv_iload_n hx hb dX14_left_7 rfl (lv_at hl 1 rfl) ?_
    refine sg_callV (ci := 19) F hB (m_isDevice l D cy h x _) (cwV 1 F.1.2.2.2.2 (mgV (mm_3 _ (List.mem_of_getElem? (i := 25) rfl)) (mm_3 _ (List.mem_of_getElem? (i := 26) rfl)) (mm_3 _ (List.mem_of_getElem? (i := 27) rfl)) (mm_3 _ (List.mem_of_getElem? (i := 23) rfl)) (mm_3 _ (List.mem_of_getElem? (i := 17) rfl))) rfl rfl rfl ⟨rfl, by decide, by decide, by decide +kernel⟩ ⟨Nat.le_of_ble_eq_true rfl, Nat.le_of_ble_eq_true rfl⟩) rfl rfl (by decide) rfl hl.1 rfl (Nat.le_of_ble_eq_true rfl) dX14_left_8 (Nat.le_of_ble_eq_true rfl) (Nat.add_le_add_right (Nat.le_of_ble_eq_true rfl) _) (inv_A h) (fun H locs v σ8 N hBn hX8 hP => ?_)
    clear hB; have hB := hBn; clear hBn
    obtain ⟨b8, rfl, rfl, hb8⟩ := hP
    refine lv_if_ne (tgt := 18) hx hb dX14_left_11 (by decide) (fun c11 => ?_) (fun c11 => ?_)
    · refine lv_aload_n hx hb dX14_left_18 rfl (lv_at hl 0 rfl) ?_
      refine gf_X14_205 F hB dX14_left_19 (inv_A h) ?_
      refine lv_if_ne (tgt := 29) hx hb dX14_left_22 (by decide) (fun c22 => ?_) (fun c22 => ?_)
      · refine lv_iconst (v := 0) hx hb dX14_left_29 (by decide) ?_
        refine pf_X14_61 F hB dX14_left_30 (inv_A h) (fun H locs hBn => ?_)
        clear hB; have hB := hBn; clear hBn
        have hI30 := inv_PIc (t := 20) hB h (inv_A h) (by unfold iCn; omega)
        refine lv_aload_n hx hb dX14_left_33 rfl (lv_at hl 0 rfl) ?_
        refine gf_X14_61 F hB dX14_left_34 (inv_A hI30) ?_
        rw [sgI_PI, if_pos ⟨rfl, rfl⟩]
        refine lv_if_le (tgt := 44) hx hb dX14_left_37 (by decide) (fun c37 => ?_) (fun c37 => (by first | exact absurd c37 (by decide) | exact (c37 (by decide)).elim))
        refine lv_iload_n hx hb dX14_left_44 rfl (lv_at hl 1 rfl) ?_
        refine lv_iconst (v := (-1)) hx hb dX14_left_45 (by decide) ?_
        refine lv_icmp_ne (tgt := 56) hx hb dX14_left_46 (by decide) (fun c46 => ?_) (fun c46 => ?_)
        · have hx5 : 0 ≤ x.toInt ∧ x.toInt < n := by first | exact sgb_t hb8 c11 | exact absurd c3 c46
          refine lv_aload_n hx hb dX14_left_56 rfl (lv_at hl 0 rfl) ?_
          refine gr_X14_45 F hB dX14_left_57 (inv_A hI30) (inv_r12 hI30) ?_
          refine lv_iload_n hx hb dX14_left_60 rfl (lv_at hl 1 rfl) ?_
          refine sg_iald hx hb F.2.1 hB.1 dX14_left_61 (by exact hH.1) (by omega) (m_ltN (n := 16) hH.2 (by omega)) (m_ltM hH.2 (by decide)) ?_
          exact sg_iret F hB hrt dX14_left_62 (by decide) (by decide) (by first | exact ⟨⟨_, rfl⟩, hI30⟩ | exact absurd c3 c46)
        · refine lv_aload_n hx hb dX14_left_49 rfl (lv_at hl 0 rfl) ?_
          refine gf_X14_42 F hB dX14_left_50 (inv_A hI30) ?_
          refine lv_goto (tgt := 62) hx hb dX14_left_53 (by decide) ?_
          exact sg_iret F hB hrt dX14_left_62 (by decide) (by decide) (by first | exact ⟨⟨_, rfl⟩, hI30⟩ | exact absurd c3 c46)
      · refine lv_iconst (v := 2) hx hb dX14_left_25 (by decide) ?_
        refine lv_goto (tgt := 30) hx hb dX14_left_26 (by decide) ?_
        refine pf_X14_61 F hB dX14_left_30 (inv_A h) (fun H locs hBn => ?_)
        clear hB; have hB := hBn; clear hBn
        have hI30 := inv_PIc (t := 20) hB h (inv_A h) (by unfold iCn; omega)
        refine lv_aload_n hx hb dX14_left_33 rfl (lv_at hl 0 rfl) ?_
        refine gf_X14_61 F hB dX14_left_34 (inv_A hI30) ?_
        rw [sgI_PI, if_pos ⟨rfl, rfl⟩]
        refine lv_if_le (tgt := 44) hx hb dX14_left_37 (by decide) (fun c37 => (by first | exact absurd c37 (by decide) | exact (c37 (by decide)).elim)) (fun c37 => ?_)
        refine lv_iconst (v := 0) hx hb dX14_left_40 (by decide) ?_
        refine lv_goto (tgt := 62) hx hb dX14_left_41 (by decide) ?_
        exact sg_iret F hB hrt dX14_left_62 (by decide) (by decide) (by first | exact ⟨⟨_, rfl⟩, hI30⟩ | exact absurd c3 c46)
    · refine lv_iconst (v := 1) hx hb dX14_left_14 (by decide) ?_
      refine lv_goto (tgt := 30) hx hb dX14_left_15 (by decide) ?_
      refine pf_X14_61 F hB dX14_left_30 (inv_A h) (fun H locs hBn => ?_)
      clear hB; have hB := hBn; clear hBn
      have hI30 := inv_PIc (t := 20) hB h (inv_A h) (by unfold iCn; omega)
      refine lv_aload_n hx hb dX14_left_33 rfl (lv_at hl 0 rfl) ?_
      refine gf_X14_61 F hB dX14_left_34 (inv_A hI30) ?_
      rw [sgI_PI, if_pos ⟨rfl, rfl⟩]
      refine lv_if_le (tgt := 44) hx hb dX14_left_37 (by decide) (fun c37 => (by first | exact absurd c37 (by decide) | exact (c37 (by decide)).elim)) (fun c37 => ?_)
      refine lv_iconst (v := 0) hx hb dX14_left_40 (by decide) ?_
      refine lv_goto (tgt := 62) hx hb dX14_left_41 (by decide) ?_
      exact sg_iret F hB hrt dX14_left_62 (by decide) (by decide) (by first | exact ⟨⟨_, rfl⟩, hI30⟩ | exact absurd c3 c46)
theorem dX14_sixteen_0 : decode cX14_sixteen 0 = .ok (.aload_n 0, 1) := by decide +kernel
theorem dX14_sixteen_1 : decode cX14_sixteen 1 = .ok (.iconst 0, 1) := by decide +kernel
theorem dX14_sixteen_2 : decode cX14_sixteen 2 = .ok (.putfield 61, 3) := by decide +kernel
theorem dX14_sixteen_5 : decode cX14_sixteen 5 = .ok (.ldc 221, 2) := by decide +kernel
theorem dX14_sixteen_7 : decode cX14_sixteen 7 = .ok (.istore_n 1, 1) := by decide +kernel
theorem dX14_sixteen_8 : decode cX14_sixteen 8 = .ok (.aload_n 0, 1) := by decide +kernel
theorem dX14_sixteen_9 : decode cX14_sixteen 9 = .ok (.getfield 25, 3) := by decide +kernel
theorem dX14_sixteen_12 : decode cX14_sixteen 12 = .ok (.invokevirtual 108, 3) := by decide +kernel
theorem dX14_sixteen_15 : decode cX14_sixteen 15 = .ok (.astore_n 2, 1) := by decide +kernel
theorem dX14_sixteen_16 : decode cX14_sixteen 16 = .ok (.aload_n 2, 1) := by decide +kernel
theorem dX14_sixteen_17 : decode cX14_sixteen 17 = .ok (.invokeinterface 112 1, 5) := by decide +kernel
theorem dX14_sixteen_22 : decode cX14_sixteen 22 = .ok (.ifCond .eq 50, 3) := by decide +kernel
theorem dX14_sixteen_25 : decode cX14_sixteen 25 = .ok (.aload_n 2, 1) := by decide +kernel
theorem dX14_sixteen_26 : decode cX14_sixteen 26 = .ok (.invokeinterface 118 1, 5) := by decide +kernel
theorem dX14_sixteen_31 : decode cX14_sixteen 31 = .ok (.checkcast 213, 3) := by decide +kernel
theorem dX14_sixteen_34 : decode cX14_sixteen 34 = .ok (.invokevirtual 222, 3) := by decide +kernel
theorem dX14_sixteen_37 : decode cX14_sixteen 37 = .ok (.istore_n 3, 1) := by decide +kernel
theorem dX14_sixteen_38 : decode cX14_sixteen 38 = .ok (.iconst 0, 1) := by decide +kernel
theorem dX14_sixteen_39 : decode cX14_sixteen 39 = .ok (.istore 4, 2) := by decide +kernel
theorem dX14_sixteen_41 : decode cX14_sixteen 41 = .ok (.iload 4, 2) := by decide +kernel
theorem dX14_sixteen_43 : decode cX14_sixteen 43 = .ok (.bipush 8, 2) := by decide +kernel
theorem dX14_sixteen_45 : decode cX14_sixteen 45 = .ok (.if_icmp .ge 24, 3) := by decide +kernel
theorem dX14_sixteen_48 : decode cX14_sixteen 48 = .ok (.iload_n 1, 1) := by decide +kernel
theorem dX14_sixteen_49 : decode cX14_sixteen 49 = .ok (.iload_n 3, 1) := by decide +kernel
theorem dX14_sixteen_50 : decode cX14_sixteen 50 = .ok (.iload 4, 2) := by decide +kernel
theorem dX14_sixteen_52 : decode cX14_sixteen 52 = .ok (.ishr, 1) := by decide +kernel
theorem dX14_sixteen_53 : decode cX14_sixteen 53 = .ok (.iconst 1, 1) := by decide +kernel
theorem dX14_sixteen_54 : decode cX14_sixteen 54 = .ok (.iand, 1) := by decide +kernel
theorem dX14_sixteen_55 : decode cX14_sixteen 55 = .ok (.bipush 16, 2) := by decide +kernel
theorem dX14_sixteen_57 : decode cX14_sixteen 57 = .ok (.ldc 225, 2) := by decide +kernel
theorem dX14_sixteen_59 : decode cX14_sixteen 59 = .ok (.invokestatic 208, 3) := by decide +kernel
theorem dX14_sixteen_62 : decode cX14_sixteen 62 = .ok (.istore_n 1, 1) := by decide +kernel
theorem dX14_sixteen_63 : decode cX14_sixteen 63 = .ok (.iinc 4 1, 3) := by decide +kernel
theorem dX14_sixteen_66 : decode cX14_sixteen 66 = .ok (.goto (-25), 3) := by decide +kernel
theorem dX14_sixteen_69 : decode cX14_sixteen 69 = .ok (.goto (-53), 3) := by decide +kernel
theorem dX14_sixteen_72 : decode cX14_sixteen 72 = .ok (.ldc 221, 2) := by decide +kernel
theorem dX14_sixteen_74 : decode cX14_sixteen 74 = .ok (.iload_n 1, 1) := by decide +kernel
theorem dX14_sixteen_75 : decode cX14_sixteen 75 = .ok (.isub, 1) := by decide +kernel
theorem dX14_sixteen_76 : decode cX14_sixteen 76 = .ok (.ireturn, 1) := by decide +kernel
set_option maxRecDepth 100000 in
set_option maxHeartbeats 4000000 in
theorem m_sixteen (l : Launch) (D : va_G) (cy : Nat → ClassId) {eda ca : Nat} {ia : Nat → Nat} {σ : SG} {K : KM} {g : GH} {n S hw : Nat} (h : Inv eda ia K g n S hw σ) (sz : Nat) : sgM l D cy eda ca ia σ sz yX14_sixteen (Cond.code yX14_sixteen cX14_sixteen 5 (some .int) :: mWall) 3 55 1 4 [.ref (kA K)] (fun v σ2 => (∃ y : Int32, v = some (.int y)) ∧ Inv eda ia K g n S hw σ2) := by
  refine sg_ofW (cc := cX14_sixteen) (maxL := 5) (ret := (some .int)) (by decide) rfl (Nat.le_of_ble_eq_true rfl) (lv := [(0, .ref (kA K))]) rfl (fun p e s m below meth c ls H N hrt hnm F hB hl => ?_) sz
  have hx := F.1.1
  have hb := F.1.2.1
  have hown := F.1.2.2.2.1
  generalize hlo : ([] : List Loc) = locs at hB ⊢
  clear hlo
  refine lv_aload_n hx hb dX14_sixteen_0 rfl (lv_at hl 0 rfl) ?_
  refine lv_iconst (v := 0) hx hb dX14_sixteen_1 (by decide) ?_
  refine pf_X14_61 F hB dX14_sixteen_2 (inv_A h) (fun H locs hBn => ?_)
  clear hB; have hB := hBn; clear hBn
  have hI2 := inv_PIc (t := 20) hB h (inv_A h) (by unfold iCn; omega)
  refine lv_ldc hx hb hown (F.1.2.2.2.2 _ (List.mem_cons_of_mem _ (mm_8 _ (List.mem_of_getElem? (i := 2) rfl)))) dX14_sixteen_5 ?_
  refine lv_istore_n (lv' := [(1, .int _), (0, .ref _)]) hx hb dX14_sixteen_7 rfl hl (by decide) rfl (fun ls hl => ?_)
  refine lv_aload_n hx hb dX14_sixteen_8 rfl (lv_at hl 1 rfl) ?_
  refine gr_X14_25 F hB dX14_sixteen_9 (inv_A hI2) (inv_r4 hI2) ?_
  refine sg_callV (ci := 4) F hB (m_iter l D cy (by exact (inv_tT hI2).1) _) (cwV 0 F.1.2.2.2.2 (mgV (mm_5 _ (List.mem_of_getElem? (i := 6) rfl)) (mm_5 _ (List.mem_of_getElem? (i := 7) rfl)) (mm_5 _ (List.mem_of_getElem? (i := 8) rfl)) (mm_0 _ (List.mem_of_getElem? (i := 35) rfl)) (mm_4 _ (List.mem_of_getElem? (i := 32) rfl))) rfl rfl rfl ⟨rfl, by decide, by decide, by decide +kernel⟩ ⟨Nat.le_of_ble_eq_true rfl, Nat.le_of_ble_eq_true rfl⟩) rfl rfl (by decide) rfl hl.1 rfl (Nat.le_of_ble_eq_true rfl) dX14_sixteen_12 (Nat.le_of_ble_eq_true rfl) (Nat.add_le_add_right (Nat.le_of_ble_eq_true rfl) _) (inv_tT hI2).1 (fun H locs v σ12 N hBn hX12 hP => ?_)
  clear hB; have hB := hBn; clear hBn
  obtain ⟨q12, rfl, hq12, hit12⟩ := hP
  have hI12 := inv_Qt hI2 hit12.1 (sg_eda F hB)
  have hf12 := itF_0 (inv_tT hI2).1 hit12
  refine lv_astore_n (lv' := [(2, .ref _), (1, .int _), (0, .ref _)]) hx hb dX14_sixteen_15 rfl hl (by decide) rfl (fun ls hl => ?_)
  have key16 : ∃ (σ3 : SG) (j : Nat) (c1 : Int32), sgB D cy s σ σ3 H locs N 4 ∧ lv_has ls 5 [(2, .ref q12), (1, .int c1), (0, .ref (kA K))] ∧ Inv eda ia K g n S hw σ3 ∧ itF (kT K) q12 j σ3 := ⟨_, 0, _, hB, (lv_sub hl [0, 1, 2] rfl), hI12, hf12⟩
  clear hB hl
  obtain ⟨σ3, j, c1, hB, hl, hI3, hf3⟩ := key16
  obtain ⟨d16, hd16⟩ : ∃ d : Nat, d = sgSz σ3 (kT K) - j := ⟨_, rfl⟩
  induction d16 using Nat.strongRecOn generalizing H locs ls N σ3 j c1 
  rename_i d16 ih16
  refine lv_aload_n hx hb dX14_sixteen_16 rfl (lv_at hl 0 rfl) ?_
  refine sg_callF (ci := 3) F hB (m_hasN l D cy hI3 hf3 _) (va_cwF 0 F.1.2.2.2.2 (mgF (mm_5 _ (List.mem_of_getElem? (i := 9) rfl)) (mm_5 _ (List.mem_of_getElem? (i := 10) rfl)) (mm_5 _ (List.mem_of_getElem? (i := 11) rfl)) (mm_4 _ (List.mem_of_getElem? (i := 35) rfl)) (mm_4 _ (List.mem_of_getElem? (i := 38) rfl))) rfl rfl rfl F.2.2.2.1.2.2.2.2.2.2.1 (by decide +kernel) ⟨Nat.le_of_ble_eq_true rfl, Nat.le_of_ble_eq_true rfl⟩) rfl rfl (by decide) rfl hl.1 rfl (Nat.le_of_ble_eq_true rfl) dX14_sixteen_17 (Nat.le_of_ble_eq_true rfl) (Nat.add_le_add_right (Nat.le_of_ble_eq_true rfl) _) hf3.1 (fun H locs v σ17 N hBn hX17 hP => ?_)
  clear hB; have hB := hBn; clear hBn
  obtain ⟨b17, rfl, rfl, hb17⟩ := hP
  refine lv_if_eq (tgt := 72) hx hb dX14_sixteen_22 (by decide) (fun c22 => ?_) (fun c22 => ?_)
  · refine lv_ldc hx hb hown (F.1.2.2.2.2 _ (List.mem_cons_of_mem _ (mm_8 _ (List.mem_of_getElem? (i := 2) rfl)))) dX14_sixteen_72 ?_
    refine lv_iload_n hx hb dX14_sixteen_74 rfl (lv_at hl 1 rfl) ?_
    refine lv_isub hx hb dX14_sixteen_75 ?_
    exact sg_iret F hB hrt dX14_sixteen_76 (by decide) (by decide) (⟨⟨_, rfl⟩, hI3⟩)
  · refine lv_aload_n hx hb dX14_sixteen_25 rfl (lv_at hl 0 rfl) ?_
    refine sg_callF (ci := 3) F hB (m_nextI l D cy hI3 hf3 (sgb_t hb17 c22) _) (va_cwF 0 F.1.2.2.2.2 (mgF (mm_5 _ (List.mem_of_getElem? (i := 12) rfl)) (mm_5 _ (List.mem_of_getElem? (i := 13) rfl)) (mm_5 _ (List.mem_of_getElem? (i := 14) rfl)) (mm_4 _ (List.mem_of_getElem? (i := 35) rfl)) (mm_5 _ (List.mem_of_getElem? (i := 1) rfl))) rfl rfl rfl F.2.2.2.1.2.2.2.2.2.2.2.1 (by decide +kernel) ⟨Nat.le_of_ble_eq_true rfl, Nat.le_of_ble_eq_true rfl⟩) rfl rfl (by decide) rfl hl.1 rfl (Nat.le_of_ble_eq_true rfl) dX14_sixteen_26 (Nat.le_of_ble_eq_true rfl) (Nat.add_le_add_right (Nat.le_of_ble_eq_true rfl) _) hf3.1 (fun H locs v σ26 N hBn hX26 hP => ?_)
    clear hB; have hB := hBn; clear hBn
    obtain ⟨y26, rfl, ha26, hE26, hI26, hf26, hs26⟩ := hP
    have hbx : sgBx ia σ26 y26 := by
      unfold iEl at hE26
      rw [(inv_tT hI3).2] at hE26
      exact sgBx_mono (fun a _ => by rw [← hs26]; exact ⟨rfl, rfl⟩) hE26
    refine va_castY hx hb hown (F.1.2.2.2.2 _ (List.mem_cons_of_mem _ (mm_8 _ (List.mem_of_getElem? (i := 3) rfl)))) (F.2.2.1.2.2 ("java/lang/Integer", "java/lang/Integer") (by decide +kernel)) (sg_rbx F hB hbx) dX14_sixteen_31 ?_
    refine sg_callVr F hB (m_unbox l D cy (by exact hbx) _) (cwV 0 F.1.2.2.2.2 (mgV (mm_8 _ (List.mem_of_getElem? (i := 5) rfl)) (mm_8 _ (List.mem_of_getElem? (i := 6) rfl)) (mm_8 _ (List.mem_of_getElem? (i := 7) rfl)) (mm_7 _ (List.mem_of_getElem? (i := 30) rfl)) (mm_8 _ (List.mem_of_getElem? (i := 1) rfl))) rfl rfl rfl ⟨rfl, by decide, by decide, by decide +kernel⟩ ⟨Nat.le_of_ble_eq_true rfl, Nat.le_of_ble_eq_true rfl⟩) rfl hl.1 rfl (Nat.le_of_ble_eq_true rfl) dX14_sixteen_34 (Nat.le_of_ble_eq_true rfl) (Nat.add_le_add_right (Nat.le_of_ble_eq_true rfl) _) (sg_rbx F hB hbx) (fun H locs v σ34 N hBn hX34 hP => ?_)
    clear hB; have hB := hBn; clear hBn
    obtain ⟨⟨w, rfl⟩, rfl⟩ := hP
    refine lv_istore_n (lv' := [(3, .int _), (2, .ref _), (1, .int _), (0, .ref _)]) hx hb dX14_sixteen_37 rfl hl (by decide) rfl (fun ls hl => ?_)
    refine lv_iconst (v := 0) hx hb dX14_sixteen_38 (by decide) ?_
    refine lv_istore (lv' := [(4, .int _), (3, .int _), (2, .ref _), (1, .int _), (0, .ref _)]) hx hb dX14_sixteen_39 hl (by decide) rfl (fun ls hl => ?_)
    have key41 : ∃ (i9 c9 : Int32), sgB D cy s σ σ26 H locs N 4 ∧ lv_has ls 5 [(4, .int i9), (3, .int w), (2, .ref q12), (1, .int c9), (0, .ref (kA K))] ∧ 0 ≤ i9.toInt ∧ i9.toInt ≤ 8 := ⟨_, _, hB, (lv_sub hl [0, 1, 2, 3, 4] rfl), by decide, by decide⟩
    clear hB hl
    obtain ⟨i9, c9, hB, hl, hi1, hi2⟩ := key41
    obtain ⟨d41, hd41⟩ : ∃ d : Nat, d = 8 - i9.toInt.toNat := ⟨_, rfl⟩
    induction d41 using Nat.strongRecOn generalizing H locs ls N i9 c9
    rename_i d41 ih41
    refine lv_iload hx hb dX14_sixteen_41 (lv_at hl 0 rfl) ?_
    refine lv_bipush (v := 8) hx hb dX14_sixteen_43 (by decide) ?_
    refine lv_icmp_ge (tgt := 69) hx hb dX14_sixteen_45 (by decide) (fun c45 => ?_) (fun c45 => ?_)
    · refine lv_goto (tgt := 16) hx hb dX14_sixteen_69 (by decide) ?_
      exact ih16 _ (by subst hd16; have := sgb_t hb17 c22; have e9 : sgSz σ26 (kT K) = sgSz σ3 (kT K) := (by rw [← hs26, sgSz_nk (by decide), sgSz_nk (by decide)]); omega) _ _ _ _ _ _ _ hB (lv_sub hl [2, 3, 4] rfl) hI26 hf26 rfl
    · refine lv_iload_n hx hb dX14_sixteen_48 rfl (lv_at hl 3 rfl) ?_
      refine lv_iload_n hx hb dX14_sixteen_49 rfl (lv_at hl 1 rfl) ?_
      refine lv_iload hx hb dX14_sixteen_50 (lv_at hl 0 rfl) ?_
      refine lv_ishr hx hb dX14_sixteen_52 ?_
      refine lv_iconst (v := 1) hx hb dX14_sixteen_53 (by decide) ?_
      refine lv_iand hx hb dX14_sixteen_54 ?_
      refine lv_bipush (v := 16) hx hb dX14_sixteen_55 (by decide) ?_
      refine lv_ldc hx hb hown (F.1.2.2.2.2 _ (List.mem_cons_of_mem _ (mm_8 _ (List.mem_of_getElem? (i := 4) rfl)))) dX14_sixteen_57 ?_
      refine sg_callS F hB (m_check l D cy _ _ _ _ _) (cwS 4 F.1.2.2.2.2 (mgS (mm_7 _ (List.mem_of_getElem? (i := 16) rfl)) (mm_7 _ (List.mem_of_getElem? (i := 17) rfl)) (mm_3 _ (List.mem_of_getElem? (i := 23) rfl)) (mm_7 _ (List.mem_of_getElem? (i := 14) rfl))) rfl rfl rfl ⟨rfl, by decide, by decide, by decide +kernel⟩ ⟨Nat.le_of_ble_eq_true rfl, Nat.le_of_ble_eq_true rfl⟩) rfl hl.1 rfl (Nat.le_of_ble_eq_true rfl) dX14_sixteen_59 (Nat.le_of_ble_eq_true rfl) (Nat.add_le_add_right (Nat.le_of_ble_eq_true rfl) _)  (fun H locs v σ59 N hBn hX59 hP => ?_)
      clear hB; have hB := hBn; clear hBn
      obtain ⟨rfl, rfl⟩ := hP
      refine lv_istore_n (lv' := [(1, .int _), (4, .int _), (3, .int _), (2, .ref _), (0, .ref _)]) hx hb dX14_sixteen_62 rfl hl (by decide) rfl (fun ls hl => ?_)
      refine lv_iinc (lv' := [(4, .int _), (1, .int _), (3, .int _), (2, .ref _), (0, .ref _)]) hx hb dX14_sixteen_63 hl (k := 1) rfl rfl (by decide) rfl (fun ls hl => ?_)
      refine lv_goto (tgt := 41) hx hb dX14_sixteen_66 (by decide) ?_
      have hi3 := i_nle c45
      have e9 : (i9 + Int32.ofInt 1).toInt = i9.toInt + 1 := m_add1 (by omega) (by omega)
      exact ih41 _ (by subst hd41; rw [e9]; have : (8 : Int32).toInt = 8 := rfl; omega) _ _ _ _ _ _ hB (lv_sub hl [0, 2, 3, 1, 4] rfl) (by rw [e9]; omega) (by rw [e9]; have : (8 : Int32).toInt = 8 := rfl; omega) rfl
theorem dX14_stuffed_0 : decode cX14_stuffed 0 = .ok (.aload_n 0, 1) := by decide +kernel
theorem dX14_stuffed_1 : decode cX14_stuffed 1 = .ok (.iconst 0, 1) := by decide +kernel
theorem dX14_stuffed_2 : decode cX14_stuffed 2 = .ok (.putfield 61, 3) := by decide +kernel
theorem dX14_stuffed_5 : decode cX14_stuffed 5 = .ok (.iconst 0, 1) := by decide +kernel
theorem dX14_stuffed_6 : decode cX14_stuffed 6 = .ok (.istore_n 1, 1) := by decide +kernel
theorem dX14_stuffed_7 : decode cX14_stuffed 7 = .ok (.iconst 0, 1) := by decide +kernel
theorem dX14_stuffed_8 : decode cX14_stuffed 8 = .ok (.istore_n 2, 1) := by decide +kernel
theorem dX14_stuffed_9 : decode cX14_stuffed 9 = .ok (.aload_n 0, 1) := by decide +kernel
theorem dX14_stuffed_10 : decode cX14_stuffed 10 = .ok (.getfield 25, 3) := by decide +kernel
theorem dX14_stuffed_13 : decode cX14_stuffed 13 = .ok (.invokevirtual 108, 3) := by decide +kernel
theorem dX14_stuffed_16 : decode cX14_stuffed 16 = .ok (.astore_n 3, 1) := by decide +kernel
theorem dX14_stuffed_17 : decode cX14_stuffed 17 = .ok (.aload_n 3, 1) := by decide +kernel
theorem dX14_stuffed_18 : decode cX14_stuffed 18 = .ok (.invokeinterface 112 1, 5) := by decide +kernel
theorem dX14_stuffed_23 : decode cX14_stuffed 23 = .ok (.ifCond .eq 84, 3) := by decide +kernel
theorem dX14_stuffed_26 : decode cX14_stuffed 26 = .ok (.aload_n 3, 1) := by decide +kernel
theorem dX14_stuffed_27 : decode cX14_stuffed 27 = .ok (.invokeinterface 118 1, 5) := by decide +kernel
theorem dX14_stuffed_32 : decode cX14_stuffed 32 = .ok (.checkcast 213, 3) := by decide +kernel
theorem dX14_stuffed_35 : decode cX14_stuffed 35 = .ok (.invokevirtual 222, 3) := by decide +kernel
theorem dX14_stuffed_38 : decode cX14_stuffed 38 = .ok (.istore 4, 2) := by decide +kernel
theorem dX14_stuffed_40 : decode cX14_stuffed 40 = .ok (.iconst 0, 1) := by decide +kernel
theorem dX14_stuffed_41 : decode cX14_stuffed 41 = .ok (.istore 5, 2) := by decide +kernel
theorem dX14_stuffed_43 : decode cX14_stuffed 43 = .ok (.iload 5, 2) := by decide +kernel
theorem dX14_stuffed_45 : decode cX14_stuffed 45 = .ok (.bipush 8, 2) := by decide +kernel
theorem dX14_stuffed_47 : decode cX14_stuffed 47 = .ok (.if_icmp .ge 57, 3) := by decide +kernel
theorem dX14_stuffed_50 : decode cX14_stuffed 50 = .ok (.iinc 1 1, 3) := by decide +kernel
theorem dX14_stuffed_53 : decode cX14_stuffed 53 = .ok (.iload 4, 2) := by decide +kernel
theorem dX14_stuffed_55 : decode cX14_stuffed 55 = .ok (.iload 5, 2) := by decide +kernel
theorem dX14_stuffed_57 : decode cX14_stuffed 57 = .ok (.ishr, 1) := by decide +kernel
theorem dX14_stuffed_58 : decode cX14_stuffed 58 = .ok (.iconst 1, 1) := by decide +kernel
theorem dX14_stuffed_59 : decode cX14_stuffed 59 = .ok (.iand, 1) := by decide +kernel
theorem dX14_stuffed_60 : decode cX14_stuffed 60 = .ok (.iconst 1, 1) := by decide +kernel
theorem dX14_stuffed_61 : decode cX14_stuffed 61 = .ok (.if_icmp .ne 9, 3) := by decide +kernel
theorem dX14_stuffed_64 : decode cX14_stuffed 64 = .ok (.iload_n 2, 1) := by decide +kernel
theorem dX14_stuffed_65 : decode cX14_stuffed 65 = .ok (.iconst 1, 1) := by decide +kernel
theorem dX14_stuffed_66 : decode cX14_stuffed 66 = .ok (.iadd, 1) := by decide +kernel
theorem dX14_stuffed_67 : decode cX14_stuffed 67 = .ok (.goto 4, 3) := by decide +kernel
theorem dX14_stuffed_70 : decode cX14_stuffed 70 = .ok (.iconst 0, 1) := by decide +kernel
theorem dX14_stuffed_71 : decode cX14_stuffed 71 = .ok (.istore_n 2, 1) := by decide +kernel
theorem dX14_stuffed_72 : decode cX14_stuffed 72 = .ok (.iload_n 1, 1) := by decide +kernel
theorem dX14_stuffed_73 : decode cX14_stuffed 73 = .ok (.iload_n 2, 1) := by decide +kernel
theorem dX14_stuffed_74 : decode cX14_stuffed 74 = .ok (.bipush 6, 2) := by decide +kernel
theorem dX14_stuffed_76 : decode cX14_stuffed 76 = .ok (.if_icmp .ne 7, 3) := by decide +kernel
theorem dX14_stuffed_79 : decode cX14_stuffed 79 = .ok (.iconst 1, 1) := by decide +kernel
theorem dX14_stuffed_80 : decode cX14_stuffed 80 = .ok (.goto 4, 3) := by decide +kernel
theorem dX14_stuffed_83 : decode cX14_stuffed 83 = .ok (.iconst 0, 1) := by decide +kernel
theorem dX14_stuffed_84 : decode cX14_stuffed 84 = .ok (.iadd, 1) := by decide +kernel
theorem dX14_stuffed_85 : decode cX14_stuffed 85 = .ok (.istore_n 1, 1) := by decide +kernel
theorem dX14_stuffed_86 : decode cX14_stuffed 86 = .ok (.iload_n 2, 1) := by decide +kernel
theorem dX14_stuffed_87 : decode cX14_stuffed 87 = .ok (.bipush 6, 2) := by decide +kernel
theorem dX14_stuffed_89 : decode cX14_stuffed 89 = .ok (.if_icmp .ne 7, 3) := by decide +kernel
theorem dX14_stuffed_92 : decode cX14_stuffed 92 = .ok (.iconst 0, 1) := by decide +kernel
theorem dX14_stuffed_93 : decode cX14_stuffed 93 = .ok (.goto 4, 3) := by decide +kernel
theorem dX14_stuffed_96 : decode cX14_stuffed 96 = .ok (.iload_n 2, 1) := by decide +kernel
theorem dX14_stuffed_97 : decode cX14_stuffed 97 = .ok (.istore_n 2, 1) := by decide +kernel
theorem dX14_stuffed_98 : decode cX14_stuffed 98 = .ok (.iinc 5 1, 3) := by decide +kernel
theorem dX14_stuffed_101 : decode cX14_stuffed 101 = .ok (.goto (-58), 3) := by decide +kernel
theorem dX14_stuffed_104 : decode cX14_stuffed 104 = .ok (.goto (-87), 3) := by decide +kernel
theorem dX14_stuffed_107 : decode cX14_stuffed 107 = .ok (.iload_n 1, 1) := by decide +kernel
theorem dX14_stuffed_108 : decode cX14_stuffed 108 = .ok (.ireturn, 1) := by decide +kernel
set_option maxRecDepth 100000 in
set_option maxHeartbeats 4000000 in
theorem m_stuffed (l : Launch) (D : va_G) (cy : Nat → ClassId) {eda ca : Nat} {ia : Nat → Nat} {σ : SG} {K : KM} {g : GH} {n S hw : Nat} (h : Inv eda ia K g n S hw σ) (sz : Nat) : sgM l D cy eda ca ia σ sz yX14_stuffed (Cond.code yX14_stuffed cX14_stuffed 6 (some .int) :: mWall) 3 55 1 4 [.ref (kA K)] (fun v σ2 => (∃ y : Int32, v = some (.int y)) ∧ Inv eda ia K g n S hw σ2) := by
  refine sg_ofW (cc := cX14_stuffed) (maxL := 6) (ret := (some .int)) (by decide) rfl (Nat.le_of_ble_eq_true rfl) (lv := [(0, .ref (kA K))]) rfl (fun p e s m below meth c ls H N hrt hnm F hB hl => ?_) sz
  have hx := F.1.1
  have hb := F.1.2.1
  have hown := F.1.2.2.2.1
  generalize hlo : ([] : List Loc) = locs at hB ⊢
  clear hlo
  refine lv_aload_n hx hb dX14_stuffed_0 rfl (lv_at hl 0 rfl) ?_
  refine lv_iconst (v := 0) hx hb dX14_stuffed_1 (by decide) ?_
  refine pf_X14_61 F hB dX14_stuffed_2 (inv_A h) (fun H locs hBn => ?_)
  clear hB; have hB := hBn; clear hBn
  have hI2 := inv_PIc (t := 20) hB h (inv_A h) (by unfold iCn; omega)
  refine lv_iconst (v := 0) hx hb dX14_stuffed_5 (by decide) ?_
  refine lv_istore_n (lv' := [(1, .int _), (0, .ref _)]) hx hb dX14_stuffed_6 rfl hl (by decide) rfl (fun ls hl => ?_)
  refine lv_iconst (v := 0) hx hb dX14_stuffed_7 (by decide) ?_
  refine lv_istore_n (lv' := [(2, .int _), (1, .int _), (0, .ref _)]) hx hb dX14_stuffed_8 rfl hl (by decide) rfl (fun ls hl => ?_)
  refine lv_aload_n hx hb dX14_stuffed_9 rfl (lv_at hl 2 rfl) ?_
  refine gr_X14_25 F hB dX14_stuffed_10 (inv_A hI2) (inv_r4 hI2) ?_
  refine sg_callV (ci := 4) F hB (m_iter l D cy (by exact (inv_tT hI2).1) _) (cwV 0 F.1.2.2.2.2 (mgV (mm_5 _ (List.mem_of_getElem? (i := 6) rfl)) (mm_5 _ (List.mem_of_getElem? (i := 7) rfl)) (mm_5 _ (List.mem_of_getElem? (i := 8) rfl)) (mm_0 _ (List.mem_of_getElem? (i := 35) rfl)) (mm_4 _ (List.mem_of_getElem? (i := 32) rfl))) rfl rfl rfl ⟨rfl, by decide, by decide, by decide +kernel⟩ ⟨Nat.le_of_ble_eq_true rfl, Nat.le_of_ble_eq_true rfl⟩) rfl rfl (by decide) rfl hl.1 rfl (Nat.le_of_ble_eq_true rfl) dX14_stuffed_13 (Nat.le_of_ble_eq_true rfl) (Nat.add_le_add_right (Nat.le_of_ble_eq_true rfl) _) (inv_tT hI2).1 (fun H locs v σ13 N hBn hX13 hP => ?_)
  clear hB; have hB := hBn; clear hBn
  obtain ⟨q13, rfl, hq13, hit13⟩ := hP
  have hI13 := inv_Qt hI2 hit13.1 (sg_eda F hB)
  have hf13 := itF_0 (inv_tT hI2).1 hit13
  refine lv_astore_n (lv' := [(3, .ref _), (2, .int _), (1, .int _), (0, .ref _)]) hx hb dX14_stuffed_16 rfl hl (by decide) rfl (fun ls hl => ?_)
  have key17 : ∃ (σ3 : SG) (j : Nat) (c1 c2 : Int32), sgB D cy s σ σ3 H locs N 4 ∧ lv_has ls 6 [(3, .ref q13), (2, .int c2), (1, .int c1), (0, .ref (kA K))] ∧ Inv eda ia K g n S hw σ3 ∧ itF (kT K) q13 j σ3 := ⟨_, 0, _, _, hB, (lv_sub hl [0, 1, 2, 3] rfl), hI13, hf13⟩
  clear hB hl
  obtain ⟨σ3, j, c1, c2, hB, hl, hI3, hf3⟩ := key17
  obtain ⟨d17, hd17⟩ : ∃ d : Nat, d = sgSz σ3 (kT K) - j := ⟨_, rfl⟩
  induction d17 using Nat.strongRecOn generalizing H locs ls N σ3 j c1 c2 
  rename_i d17 ih17
  refine lv_aload_n hx hb dX14_stuffed_17 rfl (lv_at hl 0 rfl) ?_
  refine sg_callF (ci := 3) F hB (m_hasN l D cy hI3 hf3 _) (va_cwF 0 F.1.2.2.2.2 (mgF (mm_5 _ (List.mem_of_getElem? (i := 9) rfl)) (mm_5 _ (List.mem_of_getElem? (i := 10) rfl)) (mm_5 _ (List.mem_of_getElem? (i := 11) rfl)) (mm_4 _ (List.mem_of_getElem? (i := 35) rfl)) (mm_4 _ (List.mem_of_getElem? (i := 38) rfl))) rfl rfl rfl F.2.2.2.1.2.2.2.2.2.2.1 (by decide +kernel) ⟨Nat.le_of_ble_eq_true rfl, Nat.le_of_ble_eq_true rfl⟩) rfl rfl (by decide) rfl hl.1 rfl (Nat.le_of_ble_eq_true rfl) dX14_stuffed_18 (Nat.le_of_ble_eq_true rfl) (Nat.add_le_add_right (Nat.le_of_ble_eq_true rfl) _) hf3.1 (fun H locs v σ18 N hBn hX18 hP => ?_)
  clear hB; have hB := hBn; clear hBn
  obtain ⟨b18, rfl, rfl, hb18⟩ := hP
  refine lv_if_eq (tgt := 107) hx hb dX14_stuffed_23 (by decide) (fun c23 => ?_) (fun c23 => ?_)
  · refine lv_iload_n hx hb dX14_stuffed_107 rfl (lv_at hl 2 rfl) ?_
    exact sg_iret F hB hrt dX14_stuffed_108 (by decide) (by decide) (⟨⟨_, rfl⟩, hI3⟩)
  · refine lv_aload_n hx hb dX14_stuffed_26 rfl (lv_at hl 0 rfl) ?_
    refine sg_callF (ci := 3) F hB (m_nextI l D cy hI3 hf3 (sgb_t hb18 c23) _) (va_cwF 0 F.1.2.2.2.2 (mgF (mm_5 _ (List.mem_of_getElem? (i := 12) rfl)) (mm_5 _ (List.mem_of_getElem? (i := 13) rfl)) (mm_5 _ (List.mem_of_getElem? (i := 14) rfl)) (mm_4 _ (List.mem_of_getElem? (i := 35) rfl)) (mm_5 _ (List.mem_of_getElem? (i := 1) rfl))) rfl rfl rfl F.2.2.2.1.2.2.2.2.2.2.2.1 (by decide +kernel) ⟨Nat.le_of_ble_eq_true rfl, Nat.le_of_ble_eq_true rfl⟩) rfl rfl (by decide) rfl hl.1 rfl (Nat.le_of_ble_eq_true rfl) dX14_stuffed_27 (Nat.le_of_ble_eq_true rfl) (Nat.add_le_add_right (Nat.le_of_ble_eq_true rfl) _) hf3.1 (fun H locs v σ27 N hBn hX27 hP => ?_)
    clear hB; have hB := hBn; clear hBn
    obtain ⟨y27, rfl, ha27, hE27, hI27, hf27, hs27⟩ := hP
    have hbx : sgBx ia σ27 y27 := by
      unfold iEl at hE27
      rw [(inv_tT hI3).2] at hE27
      exact sgBx_mono (fun a _ => by rw [← hs27]; exact ⟨rfl, rfl⟩) hE27
    refine va_castY hx hb hown (F.1.2.2.2.2 _ (List.mem_cons_of_mem _ (mm_8 _ (List.mem_of_getElem? (i := 3) rfl)))) (F.2.2.1.2.2 ("java/lang/Integer", "java/lang/Integer") (by decide +kernel)) (sg_rbx F hB hbx) dX14_stuffed_32 ?_
    refine sg_callVr F hB (m_unbox l D cy (by exact hbx) _) (cwV 0 F.1.2.2.2.2 (mgV (mm_8 _ (List.mem_of_getElem? (i := 5) rfl)) (mm_8 _ (List.mem_of_getElem? (i := 6) rfl)) (mm_8 _ (List.mem_of_getElem? (i := 7) rfl)) (mm_7 _ (List.mem_of_getElem? (i := 30) rfl)) (mm_8 _ (List.mem_of_getElem? (i := 1) rfl))) rfl rfl rfl ⟨rfl, by decide, by decide, by decide +kernel⟩ ⟨Nat.le_of_ble_eq_true rfl, Nat.le_of_ble_eq_true rfl⟩) rfl hl.1 rfl (Nat.le_of_ble_eq_true rfl) dX14_stuffed_35 (Nat.le_of_ble_eq_true rfl) (Nat.add_le_add_right (Nat.le_of_ble_eq_true rfl) _) (sg_rbx F hB hbx) (fun H locs v σ35 N hBn hX35 hP => ?_)
    clear hB; have hB := hBn; clear hBn
    obtain ⟨⟨w, rfl⟩, rfl⟩ := hP
    refine lv_istore (lv' := [(4, .int _), (3, .ref _), (2, .int _), (1, .int _), (0, .ref _)]) hx hb dX14_stuffed_38 hl (by decide) rfl (fun ls hl => ?_)
    refine lv_iconst (v := 0) hx hb dX14_stuffed_40 (by decide) ?_
    refine lv_istore (lv' := [(5, .int _), (4, .int _), (3, .ref _), (2, .int _), (1, .int _), (0, .ref _)]) hx hb dX14_stuffed_41 hl (by decide) rfl (fun ls hl => ?_)
    have key43 : ∃ (i9 c9 c8 : Int32), sgB D cy s σ σ27 H locs N 4 ∧ lv_has ls 6 [(5, .int i9), (4, .int w), (3, .ref q13), (2, .int c8), (1, .int c9), (0, .ref (kA K))] ∧ 0 ≤ i9.toInt ∧ i9.toInt ≤ 8 := ⟨_, _, _, hB, (lv_sub hl [0, 1, 2, 3, 4, 5] rfl), by decide, by decide⟩
    clear hB hl
    obtain ⟨i9, c9, c8, hB, hl, hi1, hi2⟩ := key43
    obtain ⟨d43, hd43⟩ : ∃ d : Nat, d = 8 - i9.toInt.toNat := ⟨_, rfl⟩
    induction d43 using Nat.strongRecOn generalizing H locs ls N i9 c9 c8
    rename_i d43 ih43
    refine lv_iload hx hb dX14_stuffed_43 (lv_at hl 0 rfl) ?_
    refine lv_bipush (v := 8) hx hb dX14_stuffed_45 (by decide) ?_
    refine lv_icmp_ge (tgt := 104) hx hb dX14_stuffed_47 (by decide) (fun c47 => ?_) (fun c47 => ?_)
    · refine lv_goto (tgt := 17) hx hb dX14_stuffed_104 (by decide) ?_
      exact ih17 _ (by subst hd17; have := sgb_t hb18 c23; have e9 : sgSz σ27 (kT K) = sgSz σ3 (kT K) := (by rw [← hs27, sgSz_nk (by decide), sgSz_nk (by decide)]); omega) _ _ _ _ _ _ _ _ hB (lv_sub hl [2, 3, 4, 5] rfl) hI27 hf27 rfl
    · refine lv_iinc (lv' := [(1, .int _), (5, .int _), (4, .int _), (3, .ref _), (2, .int _), (0, .ref _)]) hx hb dX14_stuffed_50 hl (k := 4) rfl rfl (by decide) rfl (fun ls hl => ?_)
      refine lv_iload hx hb dX14_stuffed_53 (lv_at hl 2 rfl) ?_
      refine lv_iload hx hb dX14_stuffed_55 (lv_at hl 1 rfl) ?_
      refine lv_ishr hx hb dX14_stuffed_57 ?_
      refine lv_iconst (v := 1) hx hb dX14_stuffed_58 (by decide) ?_
      refine lv_iand hx hb dX14_stuffed_59 ?_
      refine lv_iconst (v := 1) hx hb dX14_stuffed_60 (by decide) ?_
      refine lv_icmp_ne (tgt := 70) hx hb dX14_stuffed_61 (by decide) (fun c61 => ?_) (fun c61 => ?_)
      · refine lv_iconst (v := 0) hx hb dX14_stuffed_70 (by decide) ?_
        refine lv_istore_n (lv' := [(2, .int _), (1, .int _), (5, .int _), (4, .int _), (3, .ref _), (0, .ref _)]) hx hb dX14_stuffed_71 rfl hl (by decide) rfl (fun ls hl => ?_)
        refine lv_iload_n hx hb dX14_stuffed_72 rfl (lv_at hl 1 rfl) ?_
        refine lv_iload_n hx hb dX14_stuffed_73 rfl (lv_at hl 0 rfl) ?_
        refine lv_bipush (v := 6) hx hb dX14_stuffed_74 (by decide) ?_
        refine lv_icmp_ne (tgt := 83) hx hb dX14_stuffed_76 (by decide) (fun c76 => ?_) (fun c76 => (by first | exact absurd c76 (by decide) | exact (c76 (by decide)).elim))
        refine lv_iconst (v := 0) hx hb dX14_stuffed_83 (by decide) ?_
        refine lv_iadd hx hb dX14_stuffed_84 ?_
        refine lv_istore_n (lv' := [(1, .int _), (2, .int _), (5, .int _), (4, .int _), (3, .ref _), (0, .ref _)]) hx hb dX14_stuffed_85 rfl hl (by decide) rfl (fun ls hl => ?_)
        refine lv_iload_n hx hb dX14_stuffed_86 rfl (lv_at hl 1 rfl) ?_
        refine lv_bipush (v := 6) hx hb dX14_stuffed_87 (by decide) ?_
        refine lv_icmp_ne (tgt := 96) hx hb dX14_stuffed_89 (by decide) (fun c89 => ?_) (fun c89 => (by first | exact absurd c89 (by decide) | exact (c89 (by decide)).elim))
        refine lv_iload_n hx hb dX14_stuffed_96 rfl (lv_at hl 1 rfl) ?_
        refine lv_istore_n (lv' := [(2, .int _), (1, .int _), (5, .int _), (4, .int _), (3, .ref _), (0, .ref _)]) hx hb dX14_stuffed_97 rfl hl (by decide) rfl (fun ls hl => ?_)
        refine lv_iinc (lv' := [(5, .int _), (2, .int _), (1, .int _), (4, .int _), (3, .ref _), (0, .ref _)]) hx hb dX14_stuffed_98 hl (k := 2) rfl rfl (by decide) rfl (fun ls hl => ?_)
        refine lv_goto (tgt := 43) hx hb dX14_stuffed_101 (by decide) ?_
        have hi3 := i_nle c47
        have e9 : (i9 + Int32.ofInt 1).toInt = i9.toInt + 1 := m_add1 (by omega) (by omega)
        exact ih43 _ (by subst hd43; rw [e9]; have : (8 : Int32).toInt = 8 := rfl; omega) _ _ _ _ _ _ _ hB (lv_sub hl [0, 3, 4, 1, 2, 5] rfl) (by rw [e9]; omega) (by rw [e9]; have : (8 : Int32).toInt = 8 := rfl; omega) rfl
      · refine lv_iload_n hx hb dX14_stuffed_64 rfl (lv_at hl 4 rfl) ?_
        refine lv_iconst (v := 1) hx hb dX14_stuffed_65 (by decide) ?_
        refine lv_iadd hx hb dX14_stuffed_66 ?_
        refine lv_goto (tgt := 71) hx hb dX14_stuffed_67 (by decide) ?_
        refine lv_istore_n (lv' := [(2, .int _), (1, .int _), (5, .int _), (4, .int _), (3, .ref _), (0, .ref _)]) hx hb dX14_stuffed_71 rfl hl (by decide) rfl (fun ls hl => ?_)
        refine lv_iload_n hx hb dX14_stuffed_72 rfl (lv_at hl 1 rfl) ?_
        refine lv_iload_n hx hb dX14_stuffed_73 rfl (lv_at hl 0 rfl) ?_
        refine lv_bipush (v := 6) hx hb dX14_stuffed_74 (by decide) ?_
        refine lv_icmp_ne (tgt := 83) hx hb dX14_stuffed_76 (by decide) (fun c76 => ?_) (fun c76 => ?_)
        · refine lv_iconst (v := 0) hx hb dX14_stuffed_83 (by decide) ?_
          refine lv_iadd hx hb dX14_stuffed_84 ?_
          refine lv_istore_n (lv' := [(1, .int _), (2, .int _), (5, .int _), (4, .int _), (3, .ref _), (0, .ref _)]) hx hb dX14_stuffed_85 rfl hl (by decide) rfl (fun ls hl => ?_)
          refine lv_iload_n hx hb dX14_stuffed_86 rfl (lv_at hl 1 rfl) ?_
          refine lv_bipush (v := 6) hx hb dX14_stuffed_87 (by decide) ?_
          refine lv_icmp_ne (tgt := 96) hx hb dX14_stuffed_89 (by decide) (fun c89 => ?_) (fun c89 => ?_)
          · refine lv_iload_n hx hb dX14_stuffed_96 rfl (lv_at hl 1 rfl) ?_
            refine lv_istore_n (lv' := [(2, .int _), (1, .int _), (5, .int _), (4, .int _), (3, .ref _), (0, .ref _)]) hx hb dX14_stuffed_97 rfl hl (by decide) rfl (fun ls hl => ?_)
            refine lv_iinc (lv' := [(5, .int _), (2, .int _), (1, .int _), (4, .int _), (3, .ref _), (0, .ref _)]) hx hb dX14_stuffed_98 hl (k := 2) rfl rfl (by decide) rfl (fun ls hl => ?_)
            refine lv_goto (tgt := 43) hx hb dX14_stuffed_101 (by decide) ?_
            have hi3 := i_nle c47
            have e9 : (i9 + Int32.ofInt 1).toInt = i9.toInt + 1 := m_add1 (by omega) (by omega)
            exact ih43 _ (by subst hd43; rw [e9]; have : (8 : Int32).toInt = 8 := rfl; omega) _ _ _ _ _ _ _ hB (lv_sub hl [0, 3, 4, 1, 2, 5] rfl) (by rw [e9]; omega) (by rw [e9]; have : (8 : Int32).toInt = 8 := rfl; omega) rfl
          · refine lv_iconst (v := 0) hx hb dX14_stuffed_92 (by decide) ?_
            refine lv_goto (tgt := 97) hx hb dX14_stuffed_93 (by decide) ?_
            refine lv_istore_n (lv' := [(2, .int _), (1, .int _), (5, .int _), (4, .int _), (3, .ref _), (0, .ref _)]) hx hb dX14_stuffed_97 rfl hl (by decide) rfl (fun ls hl => ?_)
            refine lv_iinc (lv' := [(5, .int _), (2, .int _), (1, .int _), (4, .int _), (3, .ref _), (0, .ref _)]) hx hb dX14_stuffed_98 hl (k := 2) rfl rfl (by decide) rfl (fun ls hl => ?_)
            refine lv_goto (tgt := 43) hx hb dX14_stuffed_101 (by decide) ?_
            have hi3 := i_nle c47
            have e9 : (i9 + Int32.ofInt 1).toInt = i9.toInt + 1 := m_add1 (by omega) (by omega)
            exact ih43 _ (by subst hd43; rw [e9]; have : (8 : Int32).toInt = 8 := rfl; omega) _ _ _ _ _ _ _ hB (lv_sub hl [0, 3, 4, 1, 2, 5] rfl) (by rw [e9]; omega) (by rw [e9]; have : (8 : Int32).toInt = 8 := rfl; omega) rfl
        · refine lv_iconst (v := 1) hx hb dX14_stuffed_79 (by decide) ?_
          refine lv_goto (tgt := 84) hx hb dX14_stuffed_80 (by decide) ?_
          refine lv_iadd hx hb dX14_stuffed_84 ?_
          refine lv_istore_n (lv' := [(1, .int _), (2, .int _), (5, .int _), (4, .int _), (3, .ref _), (0, .ref _)]) hx hb dX14_stuffed_85 rfl hl (by decide) rfl (fun ls hl => ?_)
          refine lv_iload_n hx hb dX14_stuffed_86 rfl (lv_at hl 1 rfl) ?_
          refine lv_bipush (v := 6) hx hb dX14_stuffed_87 (by decide) ?_
          refine lv_icmp_ne (tgt := 96) hx hb dX14_stuffed_89 (by decide) (fun c89 => ?_) (fun c89 => ?_)
          · refine lv_iload_n hx hb dX14_stuffed_96 rfl (lv_at hl 1 rfl) ?_
            refine lv_istore_n (lv' := [(2, .int _), (1, .int _), (5, .int _), (4, .int _), (3, .ref _), (0, .ref _)]) hx hb dX14_stuffed_97 rfl hl (by decide) rfl (fun ls hl => ?_)
            refine lv_iinc (lv' := [(5, .int _), (2, .int _), (1, .int _), (4, .int _), (3, .ref _), (0, .ref _)]) hx hb dX14_stuffed_98 hl (k := 2) rfl rfl (by decide) rfl (fun ls hl => ?_)
            refine lv_goto (tgt := 43) hx hb dX14_stuffed_101 (by decide) ?_
            have hi3 := i_nle c47
            have e9 : (i9 + Int32.ofInt 1).toInt = i9.toInt + 1 := m_add1 (by omega) (by omega)
            exact ih43 _ (by subst hd43; rw [e9]; have : (8 : Int32).toInt = 8 := rfl; omega) _ _ _ _ _ _ _ hB (lv_sub hl [0, 3, 4, 1, 2, 5] rfl) (by rw [e9]; omega) (by rw [e9]; have : (8 : Int32).toInt = 8 := rfl; omega) rfl
          · refine lv_iconst (v := 0) hx hb dX14_stuffed_92 (by decide) ?_
            refine lv_goto (tgt := 97) hx hb dX14_stuffed_93 (by decide) ?_
            refine lv_istore_n (lv' := [(2, .int _), (1, .int _), (5, .int _), (4, .int _), (3, .ref _), (0, .ref _)]) hx hb dX14_stuffed_97 rfl hl (by decide) rfl (fun ls hl => ?_)
            refine lv_iinc (lv' := [(5, .int _), (2, .int _), (1, .int _), (4, .int _), (3, .ref _), (0, .ref _)]) hx hb dX14_stuffed_98 hl (k := 2) rfl rfl (by decide) rfl (fun ls hl => ?_)
            refine lv_goto (tgt := 43) hx hb dX14_stuffed_101 (by decide) ?_
            have hi3 := i_nle c47
            have e9 : (i9 + Int32.ofInt 1).toInt = i9.toInt + 1 := m_add1 (by omega) (by omega)
            exact ih43 _ (by subst hd43; rw [e9]; have : (8 : Int32).toInt = 8 := rfl; omega) _ _ _ _ _ _ _ hB (lv_sub hl [0, 3, 4, 1, 2, 5] rfl) (by rw [e9]; omega) (by rw [e9]; have : (8 : Int32).toInt = 8 := rfl; omega) rfl
end MM19
