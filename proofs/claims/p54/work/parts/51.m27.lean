section MM27
section MM27A
variable {eda n S hw : Nat} {ia : Nat → Nat} {K : KM} {g : GH} {σ σ2 σ3 : SG}
/-- the pipe that is at work: its place, its row, the first transfer, its end, the end's list -/
def wPp (K : KM) (g : GH) (σ : SG) (x : Int32) (pp l1 t0 xe le : Nat) : Prop := (0 ≤ x.toInt ∧ x.toInt ≤ 11) ∧ sgR σ (kP K) x.toInt.toNat = some pp ∧ sgR σ pp 9 = some l1 ∧ 0 < sgSz σ l1 ∧ sgAt σ l1 0 = some t0 ∧ sgT σ xe = 17 ∧ sgR σ xe 3 = some le ∧ (∃ e, sgR σ (pDv g σ pp) 13 = some e ∧ sgR σ e (sgI σ pp 1).toInt.toNat = some xe)
theorem wPp_mk (h : Inv eda ia K g n S hw σ) {x : Int32} {pp l1 : Nat} (h1 : 0 ≤ x.toInt) (h2 : x.toInt ≤ 11) (hp : sgR σ (kP K) x.toInt.toNat = some pp) (hl : sgR σ pp 9 = some l1) (h0 : 0 < sgSz σ l1) : ∃ t0 xe le : Nat, wPp K g σ x pp l1 t0 xe le := by
  have tp := inv_pp h (j := x.toInt.toNat) (by omega) hp
  obtain ⟨l, e, xe, q1, q2, q3, q4, q5, q6, q7, q8, q9, q10, q11⟩ := inv_P h pp tp
  rw [hl] at q1
  cases q1
  obtain ⟨t0, w1, -⟩ := inv_L h l1 q2 0 h0
  obtain ⟨le, v1, -⟩ := inv_el h q10
  exact ⟨t0, xe, le, ⟨h1, h2⟩, hp, hl, h0, w1, q10, v1, e, q7, q9⟩
/-- what the state says of it -/
theorem wPp_of (h : Inv eda ia K g n S hw σ) {x : Int32} {pp l1 t0 xe le : Nat} (w : wPp K g σ x pp l1 t0 xe le) : sgT σ pp = 18 ∧ (sgT σ l1 = 5 ∧ gRo g l1 = 7 ∧ gOw g l1 = pp) ∧ (sgT σ t0 = 19 ∧ gOw g t0 = pp ∧ (gY g t0 ∨ iW σ xe t0)) ∧ (sgT σ le = 5 ∧ gRo g le = 6 ∧ gOw g le = xe) ∧ iPn σ n pp ∧ gCp g xe = pp ∧ (1 ≤ (sgI σ xe 1).toInt ∧ (sgI σ xe 1).toInt ≤ 8) ∧ iK1 g σ xe le ∧ iEn g σ (sgI σ pp 0).toInt.toNat (sgI σ pp 1).toInt.toNat = some xe ∧ iRw g σ l1 xe := by
  obtain ⟨⟨w1, w2⟩, w3, w4, w5, w6, w7, w8, e, w9, w10⟩ := w
  have tp := inv_pp h (j := x.toInt.toNat) (by omega) w3
  obtain ⟨l, e2, xe2, q1, q2, q3, q4, q5, q6, q7, q8, q9, q10, q11⟩ := inv_P h pp tp
  rw [w4] at q1
  cases q1
  rw [w9] at q7
  cases q7
  rw [w10] at q9
  cases q9
  obtain ⟨le2, v1, v2, v3, v4, v5, v6, v7⟩ := inv_E h xe w7
  rw [w8] at v1
  cases v1
  obtain ⟨u1, u2⟩ := q11.2 0 t0 w5 w6
  obtain ⟨y, y1, y2⟩ := inv_L h l1 q2 0 w5
  rw [w6] at y1
  cases y1
  unfold iEl at y2
  rw [q3] at y2
  exact ⟨tp, ⟨q2, q3, q4⟩, ⟨u1, y2.2.trans q4, u2⟩, ⟨v2, v3, v4⟩, q5, (inv_O h _ pp (by omega) w3).2.1 e xe w9 w10, ⟨v5, v6⟩, v7, (iEn_of w9).trans w10, q11⟩
/-- ints of other kinds, and what keeps lists -/
theorem wPp_PI {x : Int32} {pp l1 t0 xe le a k : Nat} {v : Int32} (w : wPp K g σ x pp l1 t0 xe le) (hk : k ≠ 2 ∧ k ≠ 0 ∧ k ≠ 1 ∨ (sgT σ a ≠ 18 ∧ sgT σ a ≠ 5)) (tp : sgT σ pp = 18) (tl : sgT σ l1 = 5) : wPp K g (sgPI σ a k v) x pp l1 t0 xe le := by
  obtain ⟨w1, w3, w4, w5, w6, w7, w8, e, w9, w10⟩ := w
  have ei : ∀ j, j ≤ 1 → sgI (sgPI σ a k v) pp j = sgI σ pp j := fun j hj => by
    rw [sgI_PI, if_neg (fun z => by
      rcases hk with hk | hk
      · omega
      · exact hk.1 (by rw [← z.1]; exact tp))]
  have ez : sgSz (sgPI σ a k v) l1 = sgSz σ l1 := by
    unfold sgSz
    rw [sgI_PI, if_neg (fun z => by
      rcases hk with hk | hk
      · exact hk.1 z.2.symm
      · exact hk.2 (by rw [← z.1]; exact tl))]
  refine ⟨w1, w3, w4, by rw [ez]; exact w5, w6, w7, w8, e, ?_, ?_⟩
  · unfold pDv
    rw [ei 0 (by decide)]
    exact w9
  · rw [ei 1 (by decide)]; exact w10
theorem sgF_sp {v : Int32} (h : 0 ≤ v.toInt ∧ v.toInt ≤ 65535) : sgF 1 v := h
end MM27A
theorem dX14_halts_0 : decode cX14_halts 0 = .ok (.aload_n 0, 1) := by decide +kernel
theorem dX14_halts_1 : decode cX14_halts 1 = .ok (.getfield 18, 3) := by decide +kernel
theorem dX14_halts_4 : decode cX14_halts 4 = .ok (.iload_n 1, 1) := by decide +kernel
theorem dX14_halts_5 : decode cX14_halts 5 = .ok (.aaload, 1) := by decide +kernel
theorem dX14_halts_6 : decode cX14_halts 6 = .ok (.astore 4, 2) := by decide +kernel
theorem dX14_halts_8 : decode cX14_halts 8 = .ok (.aload 4, 2) := by decide +kernel
theorem dX14_halts_10 : decode cX14_halts 10 = .ok (.iconst 0, 1) := by decide +kernel
theorem dX14_halts_11 : decode cX14_halts 11 = .ok (.putfield 316, 3) := by decide +kernel
theorem dX14_halts_14 : decode cX14_halts 14 = .ok (.aload 4, 2) := by decide +kernel
theorem dX14_halts_16 : decode cX14_halts 16 = .ok (.iconst 1, 1) := by decide +kernel
theorem dX14_halts_17 : decode cX14_halts 17 = .ok (.putfield 313, 3) := by decide +kernel
theorem dX14_halts_20 : decode cX14_halts 20 = .ok (.aload 4, 2) := by decide +kernel
theorem dX14_halts_22 : decode cX14_halts 22 = .ok (.iload_n 3, 1) := by decide +kernel
theorem dX14_halts_23 : decode cX14_halts 23 = .ok (.putfield 378, 3) := by decide +kernel
theorem dX14_halts_26 : decode cX14_halts 26 = .ok (.aload_n 0, 1) := by decide +kernel
theorem dX14_halts_27 : decode cX14_halts 27 = .ok (.iload_n 1, 1) := by decide +kernel
theorem dX14_halts_28 : decode cX14_halts 28 = .ok (.iload_n 2, 1) := by decide +kernel
theorem dX14_halts_29 : decode cX14_halts 29 = .ok (.invokevirtual 290, 3) := by decide +kernel
theorem dX14_halts_32 : decode cX14_halts 32 = .ok (.return_, 1) := by decide +kernel
set_option maxRecDepth 100000 in
set_option maxHeartbeats 4000000 in
theorem m_halts (l : Launch) (D : va_G) (cy : Nat → ClassId) {eda ca : Nat} {ia : Nat → Nat} {σ : SG} {K : KM} {g : GH} {n S hw : Nat} (h : Inv eda ia K g n S hw σ) {pp l1 t0 xe le : Nat} (x : Int32) (w : wPp K g σ x pp l1 t0 xe le) (lt cs : Int32) (hcs : 0 ≤ cs.toInt ∧ cs.toInt ≤ 65535) (sz : Nat) : sgM l D cy eda ca ia σ sz yX14_halts (Cond.code yX14_halts cX14_halts 5 none :: mWall) 8 194 2 18 [.ref (kA K), .int x, .int lt, .int cs] (fun v σ2 => v = none ∧ Inv eda ia K g n S hw σ2) := by
  refine sg_ofW (cc := cX14_halts) (maxL := 5) (ret := none) (by decide) rfl (Nat.le_of_ble_eq_true rfl) (lv := [(0, .ref (kA K)), (1, .int x), (2, .int lt), (3, .int cs)]) rfl (fun p e s m below meth c ls H N hrt hnm F hB hl => ?_) sz
  have hx := F.1.1
  have hb := F.1.2.1
  have hown := F.1.2.2.2.1
  obtain ⟨tp, ⟨tl, rl, ol⟩, ⟨tt, ot, ht⟩, ⟨tle, rle, ole⟩, pn, hcp, hgr, hk1, hen, hrw⟩ := wPp_of h w
  have wc := w
  obtain ⟨⟨w1, w2⟩, hpp, hl1, h0, ha0, txe, hle, ew, ew1, ew2⟩ := w
  refine lv_aload_n hx hb dX14_halts_0 rfl (lv_at hl 0 rfl) ?_
  refine gr_X14_18 F hB dX14_halts_1 (inv_A h) (inv_r2 h) ?_
  refine lv_iload_n hx hb dX14_halts_4 rfl (lv_at hl 1 rfl) ?_
  refine sg_aaldR 9 hx hb F.2.1 hB.1 rfl rfl dX14_halts_5 (inv_tP h).1 (by omega) (m_ltN (n := 12) (inv_tP h).2 (by omega)) (m_ltM (inv_tP h).2 (by decide)) hpp ?_
  refine lv_astore (lv' := [(4, .ref _), (0, .ref _), (1, .int _), (2, .int _), (3, .int _)]) hx hb dX14_halts_6 hl (by decide) rfl (fun ls hl => ?_)
  refine lv_aload hx hb dX14_halts_8 (lv_at hl 0 rfl) ?_
  refine lv_iconst (v := 0) hx hb dX14_halts_10 (by decide) ?_
  refine pf_X14_316 F hB dX14_halts_11 tp (fun H locs hBn => ?_)
  clear hB; have hB := hBn; clear hBn
  have hI11 := inv_PIc (t := 18) hB h tp (by unfold iCn; omega)
  refine lv_aload hx hb dX14_halts_14 (lv_at hl 0 rfl) ?_
  refine lv_iconst (v := 1) hx hb dX14_halts_16 (by decide) ?_
  refine pf_X14_313 F hB dX14_halts_17 (by exact tp) ⟨by decide, by decide⟩ (fun H locs hBn => ?_)
  clear hB; have hB := hBn; clear hBn
  have hI17 := inv_PIc (t := 18) hB hI11 (by exact tp) (by unfold iCn; omega)
  refine lv_aload hx hb dX14_halts_20 (lv_at hl 0 rfl) ?_
  refine lv_iload_n hx hb dX14_halts_22 rfl (lv_at hl 4 rfl) ?_
  refine pf_X14_378 F hB dX14_halts_23 (by exact tp) (sgF_sp hcs) (fun H locs hBn => ?_)
  clear hB; have hB := hBn; clear hBn
  have hI23 := inv_PIc (t := 18) hB hI17 (by exact tp) (by unfold iCn; omega)
  have h03 : 0 < sgSz (sgPI (sgPI (sgPI σ pp 7 0) pp 6 1) pp 8 cs) l1 := by rw [sgSz_nk (by decide), sgSz_nk (by decide), sgSz_nk (by decide)]; exact h0
  obtain ⟨m1, hm1⟩ : ∃ m1 : Nat, m1 = min 1 (6 - sgSz (sgPI (sgPI (sgPI σ pp 7 0) pp 6 1) pp 8 cs) (kE K)) := ⟨_, rfl⟩
  refine lv_aload_n hx hb dX14_halts_26 rfl (lv_at hl 1 rfl) ?_
  refine lv_iload_n hx hb dX14_halts_27 rfl (lv_at hl 2 rfl) ?_
  refine lv_iload_n hx hb dX14_halts_28 rfl (lv_at hl 3 rfl) ?_
  refine sg_callV (ci := 19) F hB (m_ends l D cy hI23 x lt w1 w2 (by exact hpp) (by exact hl1) h03 hm1 _) (cwV 2 F.1.2.2.2.2 (mgV (mm_5 _ (List.mem_of_getElem? (i := 33) rfl)) (mm_5 _ (List.mem_of_getElem? (i := 34) rfl)) (mm_5 _ (List.mem_of_getElem? (i := 35) rfl)) (mm_3 _ (List.mem_of_getElem? (i := 23) rfl)) (mm_5 _ (List.mem_of_getElem? (i := 32) rfl))) rfl rfl rfl ⟨rfl, by decide, by decide, by decide +kernel⟩ ⟨Nat.le_of_ble_eq_true rfl, Nat.le_of_ble_eq_true rfl⟩) rfl rfl (by decide) rfl hl.1 rfl (Nat.le_of_ble_eq_true rfl) dX14_halts_29 (Nat.le_trans (show _ ≤ 2 from by omega) (Nat.le_of_ble_eq_true rfl)) (Nat.add_le_add_right (Nat.le_trans (show _ ≤ 18 from by omega) (Nat.le_of_ble_eq_true rfl)) _) (inv_A hI23) (fun H locs v σ29 N hBn hX29 hP => ?_)
  clear hB; have hB := hBn; clear hBn
  refine W.widen (k := 2) (n := N) (show _ ≤ 2 from by omega) (Nat.le_refl _) ?_
  have hBn := sgB_up (n2 := 18) hB (show _ ≤ 18 from by omega)
  clear hB; have hB := hBn; clear hBn
  obtain ⟨rfl, hI29, en1_29, en2_29, en3_29, en4_29⟩ := hP
  exact sg_vret F hB hrt dX14_halts_32 (by decide) (by decide) (⟨rfl, hI29⟩)
theorem dX14_fails_0 : decode cX14_fails 0 = .ok (.aload_n 0, 1) := by decide +kernel
theorem dX14_fails_1 : decode cX14_fails 1 = .ok (.getfield 18, 3) := by decide +kernel
theorem dX14_fails_4 : decode cX14_fails 4 = .ok (.iload_n 1, 1) := by decide +kernel
theorem dX14_fails_5 : decode cX14_fails 5 = .ok (.aaload, 1) := by decide +kernel
theorem dX14_fails_6 : decode cX14_fails 6 = .ok (.astore_n 3, 1) := by decide +kernel
theorem dX14_fails_7 : decode cX14_fails 7 = .ok (.aload_n 3, 1) := by decide +kernel
theorem dX14_fails_8 : decode cX14_fails 8 = .ok (.dup, 1) := by decide +kernel
theorem dX14_fails_9 : decode cX14_fails 9 = .ok (.getfield 316, 3) := by decide +kernel
theorem dX14_fails_12 : decode cX14_fails 12 = .ok (.iconst 1, 1) := by decide +kernel
theorem dX14_fails_13 : decode cX14_fails 13 = .ok (.iadd, 1) := by decide +kernel
theorem dX14_fails_14 : decode cX14_fails 14 = .ok (.putfield 316, 3) := by decide +kernel
theorem dX14_fails_17 : decode cX14_fails 17 = .ok (.aload_n 3, 1) := by decide +kernel
theorem dX14_fails_18 : decode cX14_fails 18 = .ok (.getfield 316, 3) := by decide +kernel
theorem dX14_fails_21 : decode cX14_fails 21 = .ok (.iconst 3, 1) := by decide +kernel
theorem dX14_fails_22 : decode cX14_fails 22 = .ok (.if_icmp .ne 11, 3) := by decide +kernel
theorem dX14_fails_25 : decode cX14_fails 25 = .ok (.aload_n 0, 1) := by decide +kernel
theorem dX14_fails_26 : decode cX14_fails 26 = .ok (.iload_n 1, 1) := by decide +kernel
theorem dX14_fails_27 : decode cX14_fails 27 = .ok (.bipush 101, 2) := by decide +kernel
theorem dX14_fails_29 : decode cX14_fails 29 = .ok (.iload_n 2, 1) := by decide +kernel
theorem dX14_fails_30 : decode cX14_fails 30 = .ok (.invokevirtual 374, 3) := by decide +kernel
theorem dX14_fails_33 : decode cX14_fails 33 = .ok (.iconst 2, 1) := by decide +kernel
theorem dX14_fails_34 : decode cX14_fails 34 = .ok (.ireturn, 1) := by decide +kernel
set_option maxRecDepth 100000 in
set_option maxHeartbeats 4000000 in
theorem m_fails (l : Launch) (D : va_G) (cy : Nat → ClassId) {eda ca : Nat} {ia : Nat → Nat} {σ : SG} {K : KM} {g : GH} {n S hw : Nat} (h : Inv eda ia K g n S hw σ) {pp l1 t0 xe le : Nat} (x : Int32) (w : wPp K g σ x pp l1 t0 xe le) (cs : Int32) (hcs : 0 ≤ cs.toInt ∧ cs.toInt ≤ 65535) (sz : Nat) : sgM l D cy eda ca ia σ sz yX14_fails (Cond.code yX14_fails cX14_fails 4 (some .int) :: mWall) 9 218 2 18 [.ref (kA K), .int x, .int cs] (fun v σ2 => v = some (.int 2) ∧ Inv eda ia K g n S hw σ2) := by
  refine sg_ofW (cc := cX14_fails) (maxL := 4) (ret := (some .int)) (by decide) rfl (Nat.le_of_ble_eq_true rfl) (lv := [(0, .ref (kA K)), (1, .int x), (2, .int cs)]) rfl (fun p e s m below meth c ls H N hrt hnm F hB hl => ?_) sz
  have hx := F.1.1
  have hb := F.1.2.1
  have hown := F.1.2.2.2.1
  obtain ⟨tp, ⟨tl, rl, ol⟩, ⟨tt, ot, ht⟩, ⟨tle, rle, ole⟩, pn, hcp, hgr, hk1, hen, hrw⟩ := wPp_of h w
  have wc := w
  obtain ⟨⟨w1, w2⟩, hpp, hl1, h0, ha0, txe, hle, ew, ew1, ew2⟩ := w
  refine lv_aload_n hx hb dX14_fails_0 rfl (lv_at hl 0 rfl) ?_
  refine gr_X14_18 F hB dX14_fails_1 (inv_A h) (inv_r2 h) ?_
  refine lv_iload_n hx hb dX14_fails_4 rfl (lv_at hl 1 rfl) ?_
  refine sg_aaldR 9 hx hb F.2.1 hB.1 rfl rfl dX14_fails_5 (inv_tP h).1 (by omega) (m_ltN (n := 12) (inv_tP h).2 (by omega)) (m_ltM (inv_tP h).2 (by decide)) hpp ?_
  refine lv_astore_n (lv' := [(3, .ref _), (0, .ref _), (1, .int _), (2, .int _)]) hx hb dX14_fails_6 rfl hl (by decide) rfl (fun ls hl => ?_)
  refine lv_aload_n hx hb dX14_fails_7 rfl (lv_at hl 0 rfl) ?_
  refine lv_dup hx hb dX14_fails_8 rfl ?_
  refine gf_X14_316 F hB dX14_fails_9 tp ?_
  refine lv_iconst (v := 1) hx hb dX14_fails_12 (by decide) ?_
  refine lv_iadd hx hb dX14_fails_13 ?_
  refine pf_X14_316 F hB dX14_fails_14 tp (fun H locs hBn => ?_)
  clear hB; have hB := hBn; clear hBn
  have hI14 := inv_PIc (t := 18) hB h tp (by unfold iCn; omega)
  refine lv_aload_n hx hb dX14_fails_17 rfl (lv_at hl 0 rfl) ?_
  refine gf_X14_316 F hB dX14_fails_18 (by exact tp) ?_
  refine lv_iconst (v := 3) hx hb dX14_fails_21 (by decide) ?_
  refine lv_icmp_ne (tgt := 33) hx hb dX14_fails_22 (by decide) (fun c22 => ?_) (fun c22 => ?_)
  · refine lv_iconst (v := 2) hx hb dX14_fails_33 (by decide) ?_
    exact sg_iret F hB hrt dX14_fails_34 (by decide) (by decide) (⟨rfl, hI14⟩)
  · refine lv_aload_n hx hb dX14_fails_25 rfl (lv_at hl 1 rfl) ?_
    refine lv_iload_n hx hb dX14_fails_26 rfl (lv_at hl 2 rfl) ?_
    refine lv_bipush (v := 101) hx hb dX14_fails_27 (by decide) ?_
    refine lv_iload_n hx hb dX14_fails_29 rfl (lv_at hl 3 rfl) ?_
    refine sg_callV (ci := 19) F hB (m_halts l D cy hI14 x (wPp_PI wc (Or.inl ⟨by decide, by decide, by decide⟩) tp tl) 101 cs hcs _) (cwV 3 F.1.2.2.2.2 (mgV (mm_12 _ (List.mem_of_getElem? (i := 6) rfl)) (mm_12 _ (List.mem_of_getElem? (i := 7) rfl)) (mm_12 _ (List.mem_of_getElem? (i := 8) rfl)) (mm_3 _ (List.mem_of_getElem? (i := 23) rfl)) (mm_12 _ (List.mem_of_getElem? (i := 5) rfl))) rfl rfl rfl ⟨rfl, by decide, by decide, by decide +kernel⟩ ⟨Nat.le_of_ble_eq_true rfl, Nat.le_of_ble_eq_true rfl⟩) rfl rfl (by decide) rfl hl.1 rfl (Nat.le_of_ble_eq_true rfl) dX14_fails_30 (Nat.le_of_ble_eq_true rfl) (Nat.add_le_add_right (Nat.le_of_ble_eq_true rfl) _) (inv_A hI14) (fun H locs v σ30 N hBn hX30 hP => ?_)
    clear hB; have hB := hBn; clear hBn
    obtain ⟨rfl, hI30⟩ := hP
    refine lv_iconst (v := 2) hx hb dX14_fails_33 (by decide) ?_
    exact sg_iret F hB hrt dX14_fails_34 (by decide) (by decide) (⟨rfl, hI30⟩)
theorem dX14_stalls_0 : decode cX14_stalls 0 = .ok (.aload_n 0, 1) := by decide +kernel
theorem dX14_stalls_1 : decode cX14_stalls 1 = .ok (.dup, 1) := by decide +kernel
theorem dX14_stalls_2 : decode cX14_stalls 2 = .ok (.getfield 381, 3) := by decide +kernel
theorem dX14_stalls_5 : decode cX14_stalls 5 = .ok (.iconst 1, 1) := by decide +kernel
theorem dX14_stalls_6 : decode cX14_stalls 6 = .ok (.iadd, 1) := by decide +kernel
theorem dX14_stalls_7 : decode cX14_stalls 7 = .ok (.putfield 381, 3) := by decide +kernel
theorem dX14_stalls_10 : decode cX14_stalls 10 = .ok (.aload_n 0, 1) := by decide +kernel
theorem dX14_stalls_11 : decode cX14_stalls 11 = .ok (.iload_n 1, 1) := by decide +kernel
theorem dX14_stalls_12 : decode cX14_stalls 12 = .ok (.bipush 115, 2) := by decide +kernel
theorem dX14_stalls_14 : decode cX14_stalls 14 = .ok (.bipush 115, 2) := by decide +kernel
theorem dX14_stalls_16 : decode cX14_stalls 16 = .ok (.invokevirtual 374, 3) := by decide +kernel
theorem dX14_stalls_19 : decode cX14_stalls 19 = .ok (.iconst 2, 1) := by decide +kernel
theorem dX14_stalls_20 : decode cX14_stalls 20 = .ok (.ireturn, 1) := by decide +kernel
set_option maxRecDepth 100000 in
set_option maxHeartbeats 4000000 in
theorem m_stalls (l : Launch) (D : va_G) (cy : Nat → ClassId) {eda ca : Nat} {ia : Nat → Nat} {σ : SG} {K : KM} {g : GH} {n S hw : Nat} (h : Inv eda ia K g n S hw σ) {pp l1 t0 xe le : Nat} (x : Int32) (w : wPp K g σ x pp l1 t0 xe le) (sz : Nat) : sgM l D cy eda ca ia σ sz yX14_stalls (Cond.code yX14_stalls cX14_stalls 2 (some .int) :: mWall) 9 218 2 18 [.ref (kA K), .int x] (fun v σ2 => v = some (.int 2) ∧ Inv eda ia K g n S hw σ2) := by
  refine sg_ofW (cc := cX14_stalls) (maxL := 2) (ret := (some .int)) (by decide) rfl (Nat.le_of_ble_eq_true rfl) (lv := [(0, .ref (kA K)), (1, .int x)]) rfl (fun p e s m below meth c ls H N hrt hnm F hB hl => ?_) sz
  have hx := F.1.1
  have hb := F.1.2.1
  have hown := F.1.2.2.2.1
  obtain ⟨tp, ⟨tl, rl, ol⟩, ⟨tt, ot, ht⟩, ⟨tle, rle, ole⟩, pn, hcp, hgr, hk1, hen, hrw⟩ := wPp_of h w
  have wc := w
  obtain ⟨⟨w1, w2⟩, hpp, hl1, h0, ha0, txe, hle, ew, ew1, ew2⟩ := w
  refine lv_aload_n hx hb dX14_stalls_0 rfl (lv_at hl 0 rfl) ?_
  refine lv_dup hx hb dX14_stalls_1 rfl ?_
  refine gf_X14_381 F hB dX14_stalls_2 (inv_A h) ?_
  refine lv_iconst (v := 1) hx hb dX14_stalls_5 (by decide) ?_
  refine lv_iadd hx hb dX14_stalls_6 ?_
  refine pf_X14_381 F hB dX14_stalls_7 (inv_A h) (fun H locs hBn => ?_)
  clear hB; have hB := hBn; clear hBn
  have hI7 := inv_PIc (t := 20) hB h (inv_A h) (by unfold iCn; omega)
  refine lv_aload_n hx hb dX14_stalls_10 rfl (lv_at hl 0 rfl) ?_
  refine lv_iload_n hx hb dX14_stalls_11 rfl (lv_at hl 1 rfl) ?_
  refine lv_bipush (v := 115) hx hb dX14_stalls_12 (by decide) ?_
  refine lv_bipush (v := 115) hx hb dX14_stalls_14 (by decide) ?_
  refine sg_callV (ci := 19) F hB (m_halts l D cy hI7 x (wPp_PI wc (Or.inl ⟨by decide, by decide, by decide⟩) tp tl) 115 115 ⟨by decide, by decide⟩ _) (cwV 3 F.1.2.2.2.2 (mgV (mm_12 _ (List.mem_of_getElem? (i := 6) rfl)) (mm_12 _ (List.mem_of_getElem? (i := 7) rfl)) (mm_12 _ (List.mem_of_getElem? (i := 8) rfl)) (mm_3 _ (List.mem_of_getElem? (i := 23) rfl)) (mm_12 _ (List.mem_of_getElem? (i := 5) rfl))) rfl rfl rfl ⟨rfl, by decide, by decide, by decide +kernel⟩ ⟨Nat.le_of_ble_eq_true rfl, Nat.le_of_ble_eq_true rfl⟩) rfl rfl (by decide) rfl hl.1 rfl (Nat.le_of_ble_eq_true rfl) dX14_stalls_16 (Nat.le_of_ble_eq_true rfl) (Nat.add_le_add_right (Nat.le_of_ble_eq_true rfl) _) (inv_A hI7) (fun H locs v σ16 N hBn hX16 hP => ?_)
  clear hB; have hB := hBn; clear hBn
  obtain ⟨rfl, hI16⟩ := hP
  refine lv_iconst (v := 2) hx hb dX14_stalls_19 (by decide) ?_
  exact sg_iret F hB hrt dX14_stalls_20 (by decide) (by decide) (⟨rfl, hI16⟩)
theorem dX14_packet_0 : decode cX14_packet 0 = .ok (.aload_n 1, 1) := by decide +kernel
theorem dX14_packet_1 : decode cX14_packet 1 = .ok (.getfield 199, 3) := by decide +kernel
theorem dX14_packet_4 : decode cX14_packet 4 = .ok (.iconst 0, 1) := by decide +kernel
theorem dX14_packet_5 : decode cX14_packet 5 = .ok (.invokevirtual 76, 3) := by decide +kernel
theorem dX14_packet_8 : decode cX14_packet 8 = .ok (.checkcast 275, 3) := by decide +kernel
theorem dX14_packet_11 : decode cX14_packet 11 = .ok (.astore_n 2, 1) := by decide +kernel
theorem dX14_packet_12 : decode cX14_packet 12 = .ok (.aload_n 0, 1) := by decide +kernel
theorem dX14_packet_13 : decode cX14_packet 13 = .ok (.aload_n 1, 1) := by decide +kernel
theorem dX14_packet_14 : decode cX14_packet 14 = .ok (.invokevirtual 296, 3) := by decide +kernel
theorem dX14_packet_17 : decode cX14_packet 17 = .ok (.astore_n 3, 1) := by decide +kernel
theorem dX14_packet_18 : decode cX14_packet 18 = .ok (.aload_n 2, 1) := by decide +kernel
theorem dX14_packet_19 : decode cX14_packet 19 = .ok (.getfield 338, 3) := by decide +kernel
theorem dX14_packet_22 : decode cX14_packet 22 = .ok (.aload_n 2, 1) := by decide +kernel
theorem dX14_packet_23 : decode cX14_packet 23 = .ok (.getfield 284, 3) := by decide +kernel
theorem dX14_packet_26 : decode cX14_packet 26 = .ok (.isub, 1) := by decide +kernel
theorem dX14_packet_27 : decode cX14_packet 27 = .ok (.aload_n 3, 1) := by decide +kernel
theorem dX14_packet_28 : decode cX14_packet 28 = .ok (.getfield 238, 3) := by decide +kernel
theorem dX14_packet_31 : decode cX14_packet 31 = .ok (.invokestatic 341, 3) := by decide +kernel
theorem dX14_packet_34 : decode cX14_packet 34 = .ok (.istore 4, 2) := by decide +kernel
theorem dX14_packet_36 : decode cX14_packet 36 = .ok (.aload_n 3, 1) := by decide +kernel
theorem dX14_packet_37 : decode cX14_packet 37 = .ok (.getfield 300, 3) := by decide +kernel
theorem dX14_packet_40 : decode cX14_packet 40 = .ok (.ifCond .ne 6, 3) := by decide +kernel
theorem dX14_packet_43 : decode cX14_packet 43 = .ok (.iload 4, 2) := by decide +kernel
theorem dX14_packet_45 : decode cX14_packet 45 = .ok (.ireturn, 1) := by decide +kernel
theorem dX14_packet_46 : decode cX14_packet 46 = .ok (.aload_n 3, 1) := by decide +kernel
theorem dX14_packet_47 : decode cX14_packet 47 = .ok (.getfield 269, 3) := by decide +kernel
theorem dX14_packet_50 : decode cX14_packet 50 = .ok (.iconst (-1), 1) := by decide +kernel
theorem dX14_packet_51 : decode cX14_packet 51 = .ok (.if_icmp .eq 10, 3) := by decide +kernel
theorem dX14_packet_54 : decode cX14_packet 54 = .ok (.aload_n 3, 1) := by decide +kernel
theorem dX14_packet_55 : decode cX14_packet 55 = .ok (.getfield 269, 3) := by decide +kernel
theorem dX14_packet_58 : decode cX14_packet 58 = .ok (.goto 15, 3) := by decide +kernel
theorem dX14_packet_61 : decode cX14_packet 61 = .ok (.iload 4, 2) := by decide +kernel
theorem dX14_packet_63 : decode cX14_packet 63 = .ok (.aload_n 3, 1) := by decide +kernel
theorem dX14_packet_64 : decode cX14_packet 64 = .ok (.getfield 320, 3) := by decide +kernel
theorem dX14_packet_67 : decode cX14_packet 67 = .ok (.invokevirtual 64, 3) := by decide +kernel
theorem dX14_packet_70 : decode cX14_packet 70 = .ok (.invokestatic 341, 3) := by decide +kernel
theorem dX14_packet_73 : decode cX14_packet 73 = .ok (.ireturn, 1) := by decide +kernel
set_option maxRecDepth 100000 in
set_option maxHeartbeats 4000000 in
theorem m_packet (l : Launch) (D : va_G) (cy : Nat → ClassId) {eda ca : Nat} {ia : Nat → Nat} {σ : SG} {K : KM} {g : GH} {n S hw : Nat} (h : Inv eda ia K g n S hw σ) (hY : nY g) {pp l1 t0 xe le : Nat} (x : Int32) (w : wPp K g σ x pp l1 t0 xe le) (sz : Nat) : sgM l D cy eda ca ia σ sz yX14_packet (Cond.code yX14_packet cX14_packet 5 (some .int) :: mWall) 4 85 0 0 [.ref (kA K), .ref pp] (fun v σ2 => ∃ y : Int32, v = some (.int y) ∧ σ = σ2 ∧ (0 ≤ y.toInt ∧ y.toInt ≤ 8) ∧ (sgI σ xe 0 = 0 → 1 ≤ y.toInt ∧ y.toInt ≤ (sgI σ t0 1).toInt - (sgI σ t0 2).toInt) ∧ (¬ sgI σ xe 0 = 0 → y.toInt ≤ sgSz σ le ∧ ((sgI σ xe 4).toInt = -1 ∨ sgI σ xe 4 = y))) := by
  refine sg_ofW (cc := cX14_packet) (maxL := 5) (ret := (some .int)) (by decide) rfl (Nat.le_of_ble_eq_true rfl) (lv := [(0, .ref (kA K)), (1, .ref pp)]) rfl (fun p e s m below meth c ls H N hrt hnm F hB hl => ?_) sz
  have hx := F.1.1
  have hb := F.1.2.1
  have hown := F.1.2.2.2.1
  obtain ⟨tp, ⟨tl, rl, ol⟩, ⟨tt, ot, ht⟩, ⟨tle, rle, ole⟩, pn, hcp, hgr, hk1, hen, hrw⟩ := wPp_of h w
  have wc := w
  obtain ⟨⟨w1, w2⟩, hpp, hl1, h0, ha0, txe, hle, ew, ew1, ew2⟩ := w
  obtain ⟨iw1, iw2, iw3, iw4⟩ := ht.resolve_left (hY _)
  have hle2 := (inv_lsz h tle).1
  have hkk := hk1.resolve_left (hY _)
  have mm1 : (-1 : Int32).toInt = -1 := by decide
  have hsub : (sgI σ t0 1 - sgI σ t0 2).toInt = (sgI σ t0 1).toInt - (sgI σ t0 2).toInt := i_sub (by omega) (by omega)
  refine lv_aload_n hx hb dX14_packet_0 rfl (lv_at hl 1 rfl) ?_
  refine gr_X14_199 F hB dX14_packet_1 tp hl1 ?_
  refine lv_iconst (v := 0) hx hb dX14_packet_4 (by decide) ?_
  refine sg_callV (ci := 4) F hB (m_getL l D cy (inv_LS h) tl id 0 (by decide) (by rw [m_i0]; omega) ha0 _) (cwV 1 F.1.2.2.2.2 (mgV (mm_4 _ (List.mem_of_getElem? (i := 3) rfl)) (mm_4 _ (List.mem_of_getElem? (i := 4) rfl)) (mm_4 _ (List.mem_of_getElem? (i := 5) rfl)) (mm_0 _ (List.mem_of_getElem? (i := 35) rfl)) (mm_3 _ (List.mem_of_getElem? (i := 34) rfl))) rfl rfl rfl ⟨rfl, by decide, by decide, by decide +kernel⟩ ⟨Nat.le_of_ble_eq_true rfl, Nat.le_of_ble_eq_true rfl⟩) rfl rfl (by decide) rfl hl.1 rfl (Nat.le_of_ble_eq_true rfl) dX14_packet_5 (Nat.le_of_ble_eq_true rfl) (Nat.add_le_add_right (Nat.le_of_ble_eq_true rfl) _) tl (fun H locs v σ5 N hBn hX5 hP => ?_)
  clear hB; have hB := hBn; clear hBn
  obtain ⟨rfl, rfl⟩ := hP
  refine va_castY hx hb hown (F.1.2.2.2.2 _ (List.mem_cons_of_mem _ (mm_5 _ (List.mem_of_getElem? (i := 25) rfl)))) (F.2.2.1.2.2 ("HubcascadeModel$Transfer", "HubcascadeModel$Transfer") (by decide +kernel)) (sg_recv (ci := 18) F.2.1 hB tt (by decide) rfl) dX14_packet_8 ?_
  refine lv_astore_n (lv' := [(2, .ref _), (0, .ref _), (1, .ref _)]) hx hb dX14_packet_11 rfl hl (by decide) rfl (fun ls hl => ?_)
  refine lv_aload_n hx hb dX14_packet_12 rfl (lv_at hl 1 rfl) ?_
  refine lv_aload_n hx hb dX14_packet_13 rfl (lv_at hl 2 rfl) ?_
  refine sg_callV (ci := 19) F hB (m_endOf l D cy h tp _) (cwV 1 F.1.2.2.2.2 (mgV (mm_9 _ (List.mem_of_getElem? (i := 10) rfl)) (mm_9 _ (List.mem_of_getElem? (i := 11) rfl)) (mm_9 _ (List.mem_of_getElem? (i := 12) rfl)) (mm_3 _ (List.mem_of_getElem? (i := 23) rfl)) (mm_9 _ (List.mem_of_getElem? (i := 5) rfl))) rfl rfl rfl ⟨rfl, by decide, by decide, by decide +kernel⟩ ⟨Nat.le_of_ble_eq_true rfl, Nat.le_of_ble_eq_true rfl⟩) rfl rfl (by decide) rfl hl.1 rfl (Nat.le_of_ble_eq_true rfl) dX14_packet_14 (Nat.le_of_ble_eq_true rfl) (Nat.add_le_add_right (Nat.le_of_ble_eq_true rfl) _) (inv_A h) (fun H locs v σ14 N hBn hX14 hP => ?_)
  clear hB; have hB := hBn; clear hBn
  obtain ⟨x14, rfl, rfl, tx14, en14⟩ := hP
  obtain rfl : x14 = xe := Option.some.inj (en14.symm.trans hen)
  refine lv_astore_n (lv' := [(3, .ref _), (2, .ref _), (0, .ref _), (1, .ref _)]) hx hb dX14_packet_17 rfl hl (by decide) rfl (fun ls hl => ?_)
  refine lv_aload_n hx hb dX14_packet_18 rfl (lv_at hl 1 rfl) ?_
  refine gf_X14_338 F hB dX14_packet_19 tt ?_
  refine lv_aload_n hx hb dX14_packet_22 rfl (lv_at hl 1 rfl) ?_
  refine gf_X14_284 F hB dX14_packet_23 tt ?_
  refine lv_isub hx hb dX14_packet_26 ?_
  refine lv_aload_n hx hb dX14_packet_27 rfl (lv_at hl 0 rfl) ?_
  refine gf_X14_238 F hB dX14_packet_28 txe ?_
  refine va_mmin hx hb (F.1.2.2.1.trans hl.1.symm) hown (F.1.2.2.2.2 _ (List.mem_cons_of_mem _ (mm_11 _ (List.mem_of_getElem? (i := 37) rfl)))) (F.1.2.2.2.2 _ (List.mem_cons_of_mem _ (mm_1 _ (List.mem_of_getElem? (i := 34) rfl)))) (F.1.2.2.2.2 _ (List.mem_cons_of_mem _ (mm_1 _ (List.mem_of_getElem? (i := 25) rfl)))) (F.1.2.2.2.2 _ (List.mem_cons_of_mem _ (mm_1 _ (List.mem_of_getElem? (i := 35) rfl)))) (Nat.le_of_ble_eq_true rfl) (Nat.le_of_ble_eq_true rfl) (Nat.le_of_ble_eq_true rfl) (Nat.le_trans (Nat.le_trans (Nat.le_add_right _ _) hB.2.2) (Nat.add_le_add_right (Nat.le_of_ble_eq_true rfl) _)) dX14_packet_31 ?_
  refine lv_istore (lv' := [(4, .int _), (3, .ref _), (2, .ref _), (0, .ref _), (1, .ref _)]) hx hb dX14_packet_34 hl (by decide) rfl (fun ls hl => ?_)
  refine lv_aload_n hx hb dX14_packet_36 rfl (lv_at hl 1 rfl) ?_
  refine gf_X14_300 F hB dX14_packet_37 txe ?_
  refine lv_if_ne (tgt := 46) hx hb dX14_packet_40 (by decide) (fun c40 => ?_) (fun c40 => ?_)
  · refine lv_aload_n hx hb dX14_packet_46 rfl (lv_at hl 1 rfl) ?_
    refine gf_X14_269 F hB dX14_packet_47 txe ?_
    refine lv_iconst (v := (-1)) hx hb dX14_packet_50 (by decide) ?_
    refine lv_icmp_eq (tgt := 61) hx hb dX14_packet_51 (by decide) (fun c51 => ?_) (fun c51 => ?_)
    · refine lv_iload hx hb dX14_packet_61 (lv_at hl 0 rfl) ?_
      refine lv_aload_n hx hb dX14_packet_63 rfl (lv_at hl 1 rfl) ?_
      refine gr_X14_320 F hB dX14_packet_64 txe hle ?_
      refine sg_callV (ci := 4) F hB (m_size l D cy (by exact tle) _) (cwV 0 F.1.2.2.2.2 (mgV (mm_3 _ (List.mem_of_getElem? (i := 18) rfl)) (mm_3 _ (List.mem_of_getElem? (i := 19) rfl)) (mm_3 _ (List.mem_of_getElem? (i := 20) rfl)) (mm_0 _ (List.mem_of_getElem? (i := 35) rfl)) (mm_3 _ (List.mem_of_getElem? (i := 16) rfl))) rfl rfl rfl ⟨rfl, by decide, by decide, by decide +kernel⟩ ⟨Nat.le_of_ble_eq_true rfl, Nat.le_of_ble_eq_true rfl⟩) rfl rfl (by decide) rfl hl.1 rfl (Nat.le_of_ble_eq_true rfl) dX14_packet_67 (Nat.le_of_ble_eq_true rfl) (Nat.add_le_add_right (Nat.le_of_ble_eq_true rfl) _) tle (fun H locs v σ67 N hBn hX67 hP => ?_)
      clear hB; have hB := hBn; clear hBn
      obtain ⟨rfl, rfl⟩ := hP
      refine va_mmin hx hb (F.1.2.2.1.trans hl.1.symm) hown (F.1.2.2.2.2 _ (List.mem_cons_of_mem _ (mm_11 _ (List.mem_of_getElem? (i := 37) rfl)))) (F.1.2.2.2.2 _ (List.mem_cons_of_mem _ (mm_1 _ (List.mem_of_getElem? (i := 34) rfl)))) (F.1.2.2.2.2 _ (List.mem_cons_of_mem _ (mm_1 _ (List.mem_of_getElem? (i := 25) rfl)))) (F.1.2.2.2.2 _ (List.mem_cons_of_mem _ (mm_1 _ (List.mem_of_getElem? (i := 35) rfl)))) (Nat.le_of_ble_eq_true rfl) (Nat.le_of_ble_eq_true rfl) (Nat.le_of_ble_eq_true rfl) (Nat.le_trans (Nat.le_trans (Nat.le_add_right _ _) hB.2.2) (Nat.add_le_add_right (Nat.le_of_ble_eq_true rfl) _)) dX14_packet_70 ?_
      exact sg_iret F hB hrt dX14_packet_73 (by decide) (by decide) (by first | (have q := m_neI c51; rw [mm1] at q; obtain ⟨k1, k2, k3, -⟩ := hkk.resolve_left q; exact ⟨_, rfl, rfl, by omega, fun z => absurd z c40, fun _ => ⟨k3, Or.inr rfl⟩⟩) | (have q := m_eqI c51; rw [mm1] at q; exact ⟨_, rfl, rfl, by rw [m_minI, m_minI, hsub, hle2]; omega, fun z => absurd z c40, fun _ => ⟨by rw [m_minI, m_minI, hsub, hle2]; omega, Or.inl q⟩⟩))
    · refine lv_aload_n hx hb dX14_packet_54 rfl (lv_at hl 1 rfl) ?_
      refine gf_X14_269 F hB dX14_packet_55 txe ?_
      refine lv_goto (tgt := 73) hx hb dX14_packet_58 (by decide) ?_
      exact sg_iret F hB hrt dX14_packet_73 (by decide) (by decide) (by first | (have q := m_neI c51; rw [mm1] at q; obtain ⟨k1, k2, k3, -⟩ := hkk.resolve_left q; exact ⟨_, rfl, rfl, by omega, fun z => absurd z c40, fun _ => ⟨k3, Or.inr rfl⟩⟩) | (have q := m_eqI c51; rw [mm1] at q; exact ⟨_, rfl, rfl, by rw [m_minI, m_minI, hsub, hle2]; omega, fun z => absurd z c40, fun _ => ⟨by rw [m_minI, m_minI, hsub, hle2]; omega, Or.inl q⟩⟩))
  · refine lv_iload hx hb dX14_packet_43 (lv_at hl 0 rfl) ?_
    exact sg_iret F hB hrt dX14_packet_45 (by decide) (by decide) (⟨_, rfl, rfl, by rw [m_minI, hsub]; omega, fun _ => by rw [m_minI, hsub]; omega, fun z => absurd c40 z⟩)
end MM27
