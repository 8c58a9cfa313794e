section MM13
theorem inv_PI {eda n S hw a k : Nat} {ia : Nat → Nat} {K : KM} {g : GH} {σ : SG} {x : Int32} (h : Inv eda ia K g n S hw σ) (hc : ¬ iCn (sgT σ a) k) : Inv eda ia K g n S hw (sgPI σ a k x) :=
  inv_cg h (fun _ _ => ⟨rfl, rfl⟩) (fun _ z => Or.inl z) (inv_LS h).2.2.2 (fun _ _ _ _ => rfl) (fun b j hb => by rw [sgI_PI, if_neg (fun z => hc (by rw [← z.1, ← z.2]; exact hb))])
theorem inv_PJ {eda n S hw a k : Nat} {ia : Nat → Nat} {K : KM} {g : GH} {σ : SG} {x : Int64} (h : Inv eda ia K g n S hw σ) : Inv eda ia K g n S hw (sgPJ σ a k x) :=
  inv_cg h (fun _ _ => ⟨rfl, rfl⟩) (fun _ z => Or.inl z) (inv_LS h).2.2.2 (fun _ _ _ _ => rfl) (fun _ _ _ => rfl)
theorem inv_PIc {D : va_G} {cy : Nat → ClassId} {s : State} {σ0 : SG} {H : Heap} {locs : List Loc} {N9 n9 t eda n S hw a k : Nat} {ia : Nat → Nat} {K : KM} {g : GH} {σ : SG} {x : Int32} (hB : sgB D cy s σ0 (sgPI σ a k x) H locs N9 n9) (h : Inv eda ia K g n S hw σ) (ha : sgT σ a = t) (hc : ¬ iCn t k) : Inv eda ia K g n S hw (sgPI σ a k x) := inv_PI h (by rw [ha]; exact hc)
theorem inv_PJc {D : va_G} {cy : Nat → ClassId} {s : State} {σ0 : SG} {H : Heap} {locs : List Loc} {N9 n9 eda n S hw a k : Nat} {ia : Nat → Nat} {K : KM} {g : GH} {σ : SG} {x : Int64} (hB : sgB D cy s σ0 (sgPJ σ a k x) H locs N9 n9) (h : Inv eda ia K g n S hw σ) : Inv eda ia K g n S hw (sgPJ σ a k x) := inv_PJ h
theorem sgB_nwf {D : va_G} {cy : Nat → ClassId} {s : State} {σ0 σ : SG} {H : Heap} {locs : List Loc} {N n q t n9 : Nat} (_hB : sgB D cy s σ0 (sgNw σ q t n9) H locs N n) (hq : sgT σ q = 0) (ht : t = 2 ∨ t = 4 ∨ t = 100 ∨ t = 111) : sgQt σ (sgNw σ q t n9) ∧ sgT (sgNw σ q t n9) q = t ∧ sgN (sgNw σ q t n9) q = n9 := ⟨sgQt_nw hq ht, by rw [sgNw_T, if_pos rfl], by rw [sgNw_N, if_pos rfl]⟩
theorem sgB_up {D : va_G} {cy : Nat → ClassId} {s : State} {σ0 σ : SG} {H : Heap} {locs : List Loc} {N n n2 : Nat} (hB : sgB D cy s σ0 σ H locs N n) (h : n ≤ n2) : sgB D cy s σ0 σ H locs N n2 := ⟨hB.1, hB.2.1, by have := hB.2.2; omega⟩
theorem inv_A {eda n S hw : Nat} {ia : Nat → Nat} {K : KM} {g : GH} {σ : SG} (h : Inv eda ia K g n S hw σ) : sgT σ (kA K) = 20 := (inv_Mr h).1
theorem inv_r1 {eda n S hw : Nat} {ia : Nat → Nat} {K : KM} {g : GH} {σ : SG} (h : Inv eda ia K g n S hw σ) : sgR σ (kA K) 1 = some (kD K) := (inv_Mr h).2.1
theorem inv_r2 {eda n S hw : Nat} {ia : Nat → Nat} {K : KM} {g : GH} {σ : SG} (h : Inv eda ia K g n S hw σ) : sgR σ (kA K) 2 = some (kP K) := (inv_Mr h).2.2.1
theorem inv_r3 {eda n S hw : Nat} {ia : Nat → Nat} {K : KM} {g : GH} {σ : SG} (h : Inv eda ia K g n S hw σ) : sgR σ (kA K) 3 = some (kR K) := (inv_Mr h).2.2.2.1
theorem inv_r4 {eda n S hw : Nat} {ia : Nat → Nat} {K : KM} {g : GH} {σ : SG} (h : Inv eda ia K g n S hw σ) : sgR σ (kA K) 4 = some (kT K) := (inv_Mr h).2.2.2.2.1
theorem inv_r5 {eda n S hw : Nat} {ia : Nat → Nat} {K : KM} {g : GH} {σ : SG} (h : Inv eda ia K g n S hw σ) : sgR σ (kA K) 5 = some (kE K) := (inv_Mr h).2.2.2.2.2.1
theorem inv_r8 {eda n S hw : Nat} {ia : Nat → Nat} {K : KM} {g : GH} {σ : SG} (h : Inv eda ia K g n S hw σ) : sgR σ (kA K) 8 = some (kG K) := (inv_Mr h).2.2.2.2.2.2.1
theorem inv_r12 {eda n S hw : Nat} {ia : Nat → Nat} {K : KM} {g : GH} {σ : SG} (h : Inv eda ia K g n S hw σ) : sgR σ (kA K) 12 = some (kH K) := (inv_Mr h).2.2.2.2.2.2.2.1
theorem inv_tD {eda n S hw : Nat} {ia : Nat → Nat} {K : KM} {g : GH} {σ : SG} (h : Inv eda ia K g n S hw σ) : sgT σ (kD K) = 5 ∧ gRo g (kD K) = 1 := (inv_Mr h).2.2.2.2.2.2.2.2.1
theorem inv_tR {eda n S hw : Nat} {ia : Nat → Nat} {K : KM} {g : GH} {σ : SG} (h : Inv eda ia K g n S hw σ) : sgT σ (kR K) = 5 ∧ gRo g (kR K) = 2 := (inv_Mr h).2.2.2.2.2.2.2.2.2.1
theorem inv_tT {eda n S hw : Nat} {ia : Nat → Nat} {K : KM} {g : GH} {σ : SG} (h : Inv eda ia K g n S hw σ) : sgT σ (kT K) = 5 ∧ gRo g (kT K) = 3 := (inv_Mr h).2.2.2.2.2.2.2.2.2.2.1
theorem inv_tE {eda n S hw : Nat} {ia : Nat → Nat} {K : KM} {g : GH} {σ : SG} (h : Inv eda ia K g n S hw σ) : sgT σ (kE K) = 5 ∧ gRo g (kE K) = 4 := (inv_Mr h).2.2.2.2.2.2.2.2.2.2.2.1
theorem inv_tG {eda n S hw : Nat} {ia : Nat → Nat} {K : KM} {g : GH} {σ : SG} (h : Inv eda ia K g n S hw σ) : sgT σ (kG K) = 5 ∧ gRo g (kG K) = 5 := (inv_Mr h).2.2.2.2.2.2.2.2.2.2.2.2.1
theorem inv_tP {eda n S hw : Nat} {ia : Nat → Nat} {K : KM} {g : GH} {σ : SG} (h : Inv eda ia K g n S hw σ) : sgT σ (kP K) = 109 ∧ sgN σ (kP K) = 12 := (inv_Mr h).2.2.2.2.2.2.2.2.2.2.2.2.2.1
theorem inv_tH {eda n S hw : Nat} {ia : Nat → Nat} {K : KM} {g : GH} {σ : SG} (h : Inv eda ia K g n S hw σ) : sgT σ (kH K) = 100 ∧ sgN σ (kH K) = 16 := (inv_Mr h).2.2.2.2.2.2.2.2.2.2.2.2.2.2.1
theorem inv_ev {eda n S hw : Nat} {ia : Nat → Nat} {K : KM} {g : GH} {σ : SG} (h : Inv eda ia K g n S hw σ) : ∃ ev : Nat, sgR σ (kA K) 6 = some ev ∧ sgT σ ev = 100 ∧ (sgN σ ev = 0 ∨ sgN σ ev = 3) := (inv_Mr h).2.2.2.2.2.2.2.2.2.2.2.2.2.2.2.1
theorem inv_th {eda n S hw : Nat} {ia : Nat → Nat} {K : KM} {g : GH} {σ : SG} (h : Inv eda ia K g n S hw σ) (x : Int32) : Inv eda ia K g n S hw (sgPI σ (kA K) 0 x) := inv_PI h (by rw [(inv_Mr h).1]; unfold iCn; omega)
theorem inv_Qt {eda n S hw : Nat} {ia : Nat → Nat} {K : KM} {g : GH} {σ σ2 : SG} (h : Inv eda ia K g n S hw σ) (hq : sgQt σ σ2) (he : sgT σ2 eda = 0) : Inv eda ia K g n S hw σ2 :=
  inv_cg h (fun a ha => ⟨(hq.1 a ha).1, (hq.1 a ha).2.1⟩) (fun a ha => by rcases hq.2 a ha with z | z | z | z | z <;> simp [z]) he (fun a k ha _ => ((hq.1 a ha).2.2 k).2.1) (fun a k hc => ((hq.1 a (by rcases hc with z | z | z | z | z | z <;> (rw [z.1]; decide))).2.2 k).1)
theorem inv_sz {eda n S hw : Nat} {ia : Nat → Nat} {K : KM} {g : GH} {σ : SG} (h : Inv eda ia K g n S hw σ) : (sgI σ (kD K) 2).toInt = n ∧ 1 ≤ n ∧ n ≤ 16 := by
  obtain ⟨m0, m1, m2, m3, m4, m5, m6, m7, ⟨d1, d2⟩, -⟩ := inv_Mr h
  obtain ⟨n1, n2⟩ := (inv_M h).2.1
  obtain ⟨r, z1, -⟩ := (inv_LS h).1 _ d1 id
  have b := inv_B h _ d1
  rw [d2] at b
  have b : sgSz σ (kD K) ≤ 16 := b
  exact ⟨by rw [sgLz_sz z1, n1], n2, by omega⟩
/-- a list's size -/
theorem inv_lsz {eda n S hw l : Nat} {ia : Nat → Nat} {K : KM} {g : GH} {σ : SG} (h : Inv eda ia K g n S hw σ) (ht : sgT σ l = 5) : (sgI σ l 2).toInt = sgSz σ l ∧ sgSz σ l ≤ iCap S hw (gRo g l) ∧ sgSz σ l < 100000 := by
  obtain ⟨r, z1, z2⟩ := (inv_LS h).1 _ ht id
  exact ⟨sgLz_sz z1, inv_B h _ ht, z2⟩
theorem inv_hub {eda n S hw : Nat} {ia : Nat → Nat} {K : KM} {g : GH} {σ : SG} (h : Inv eda ia K g n S hw σ) : ∃ rk : Nat → Nat, ∀ k, k < n → iHb g σ k = -1 ∨ (0 ≤ iHb g σ k ∧ iHb g σ k < n ∧ rk (iHb g σ k).toNat < rk k) := (inv_R h).1
theorem sg_nfC {D : va_G} {cy : Nat → ClassId} {s : State} {σ0 σ : SG} {H : Heap} {locs : List Loc} {N n a k t : Nat} (hB : sgB D cy s σ0 σ H locs N n) (ha : sgT σ a = t + 1) (h100 : t + 1 < 100) (hk : (sgC t)[k]? = some 1) : narrow .char (.int (sgI σ a k)) = .int (sgI σ a k) := (sg_nfc (hB.1.1.2.1 a k 1 (by rw [ha]; omega) (by rw [ha]; exact h100) (by rw [ha, Nat.add_sub_cancel]; exact hk))).1
theorem m_zN {x : Int32} (h : ¬ x = -1) : ¬ x.toInt = -1 := fun z => h (i_eq.mpr (by rw [z]; rfl))
theorem m_getL (l : Launch) (D : va_G) (cy : Nat → ClassId) {eda ca : Nat} {ia : Nat → Nat} {σ : SG} {X : Nat → Prop} {l0 y0 : Nat} (hS : sgLS eda ia X σ) (ht : sgT σ l0 = 5) (hx : ¬ X l0) (x : Int32) (h1 : 0 ≤ x.toInt) (h2 : x.toInt < sgSz σ l0) (hy : sgAt σ l0 x.toInt.toNat = some y0) (sz : Nat) : sgM l D cy eda ca ia σ sz yJx4a65c_get_915e3 (Cond.code yJx4a65c_get_915e3 cJx4a65c_get_915e3 2 (some (.object "java/lang/Object")) :: mWall) 2 43 0 0 [.ref l0, .int x] (fun v σ2 => v = some (.ref y0) ∧ σ = σ2) := by
  obtain ⟨r, g1, g2⟩ := hS.1 l0 ht hx
  have gs := sgLz_s g1 (by omega)
  exact m_get l D cy gs x h1 h2 (by rw [← sgAt_of gs.2.1]; exact hy) sz
theorem m_getD (l : Launch) (D : va_G) (cy : Nat → ClassId) {eda ca : Nat} {ia : Nat → Nat} {σ : SG} {K : KM} {g : GH} {n S hw : Nat} (h : Inv eda ia K g n S hw σ) (x : Int32) (h1 : 0 ≤ x.toInt) (h2 : x.toInt < n) (sz : Nat) : sgM l D cy eda ca ia σ sz yJx4a65c_get_915e3 (Cond.code yJx4a65c_get_915e3 cJx4a65c_get_915e3 2 (some (.object "java/lang/Object")) :: mWall) 2 43 0 0 [.ref (kD K), .int x] (fun v σ2 => v = some (.ref (gDv g x.toInt.toNat)) ∧ σ = σ2) := m_getL l D cy h.1 (inv_Mr h).2.2.2.2.2.2.2.2.1.1 id x h1 (by rw [(inv_M h).2.1.1]; exact h2) (inv_dv h (by omega)).1 sz
theorem dX14_isDevice_0 : decode cX14_isDevice 0 = .ok (.iload_n 1, 1) := by decide +kernel
theorem dX14_isDevice_1 : decode cX14_isDevice 1 = .ok (.iconst 0, 1) := by decide +kernel
theorem dX14_isDevice_2 : decode cX14_isDevice 2 = .ok (.aload_n 0, 1) := by decide +kernel
theorem dX14_isDevice_3 : decode cX14_isDevice 3 = .ok (.getfield 10, 3) := by decide +kernel
theorem dX14_isDevice_6 : decode cX14_isDevice 6 = .ok (.invokevirtual 64, 3) := by decide +kernel
theorem dX14_isDevice_9 : decode cX14_isDevice 9 = .ok (.iconst 1, 1) := by decide +kernel
theorem dX14_isDevice_10 : decode cX14_isDevice 10 = .ok (.isub, 1) := by decide +kernel
theorem dX14_isDevice_11 : decode cX14_isDevice 11 = .ok (.invokestatic 68, 3) := by decide +kernel
theorem dX14_isDevice_14 : decode cX14_isDevice 14 = .ok (.ireturn, 1) := by decide +kernel
set_option maxRecDepth 100000 in
set_option maxHeartbeats 4000000 in
theorem m_isDevice (l : Launch) (D : va_G) (cy : Nat → ClassId) {eda ca : Nat} {ia : Nat → Nat} {σ : SG} {K : KM} {g : GH} {n S hw : Nat} (h : Inv eda ia K g n S hw σ) (x : Int32) (sz : Nat) : sgM l D cy eda ca ia σ sz yX14_isDevice (Cond.code yX14_isDevice cX14_isDevice 2 (some .boolean) :: mWall) 1 22 0 0 [.ref (kA K), .int x] (fun v σ2 => ∃ b : Int32, v = some (.int b) ∧ σ = σ2 ∧ sgb b (0 ≤ x.toInt ∧ x.toInt < n)) := by
  refine sg_ofW (cc := cX14_isDevice) (maxL := 2) (ret := (some .boolean)) (by decide) rfl (Nat.le_of_ble_eq_true rfl) (lv := [(0, .ref (kA K)), (1, .int x)]) rfl (fun p e s m below meth c ls H N hrt hnm F hB hl => ?_) sz
  have hx := F.1.1
  have hb := F.1.2.1
  have hown := F.1.2.2.2.1
  obtain ⟨m0, m1, m2, m3, m4, m5, m6, m7, ⟨d1, d2⟩, ⟨r1, r2⟩, ⟨y1, y2⟩, ⟨e1, e2⟩, ⟨g1, g2⟩, ⟨p1, p2⟩, ⟨h1, h2⟩, ⟨ev, n9, n10, n11⟩, n12⟩ := inv_Mr h
  obtain ⟨z1, z2, z3⟩ := inv_sz h
  refine lv_iload_n hx hb dX14_isDevice_0 rfl (lv_at hl 1 rfl) ?_
  refine lv_iconst (v := 0) hx hb dX14_isDevice_1 (by decide) ?_
  refine lv_aload_n hx hb dX14_isDevice_2 rfl (lv_at hl 0 rfl) ?_
  refine gr_X14_10 F hB dX14_isDevice_3 (by assumption) m1 ?_
  refine sg_callV (ci := 4) F hB (m_size l D cy d1 _) (cwV 0 F.1.2.2.2.2 (mgV (mm_3 _ (List.mem_of_getElem? (i := 18) rfl)) (mm_3 _ (List.mem_of_getElem? (i := 19) rfl)) (mm_3 _ (List.mem_of_getElem? (i := 20) rfl)) (mm_0 _ (List.mem_of_getElem? (i := 35) rfl)) (mm_3 _ (List.mem_of_getElem? (i := 16) rfl))) rfl rfl rfl ⟨rfl, by decide, by decide, by decide +kernel⟩ ⟨Nat.le_of_ble_eq_true rfl, Nat.le_of_ble_eq_true rfl⟩) rfl rfl (by decide) rfl hl.1 rfl (Nat.le_of_ble_eq_true rfl) dX14_isDevice_6 (Nat.le_of_ble_eq_true rfl) (Nat.add_le_add_right (Nat.le_of_ble_eq_true rfl) _) (by assumption) (fun H locs v σ6 N hBn hX6 hP => ?_)
  clear hB; have hB := hBn; clear hBn
  obtain ⟨rfl, rfl⟩ := hP
  refine lv_iconst (v := 1) hx hb dX14_isDevice_9 (by decide) ?_
  refine lv_isub hx hb dX14_isDevice_10 ?_
  refine sg_callS F hB (m_in l D cy x 0 (sgI σ (kD K) 2 - 1) _) (cwS 3 F.1.2.2.2.2 (mgS (mm_3 _ (List.mem_of_getElem? (i := 21) rfl)) (mm_3 _ (List.mem_of_getElem? (i := 22) rfl)) (mm_3 _ (List.mem_of_getElem? (i := 23) rfl)) (mm_1 _ (List.mem_of_getElem? (i := 19) rfl))) rfl rfl rfl ⟨rfl, by decide, by decide, by decide +kernel⟩ ⟨Nat.le_of_ble_eq_true rfl, Nat.le_of_ble_eq_true rfl⟩) rfl hl.1 rfl (Nat.le_of_ble_eq_true rfl) dX14_isDevice_11 (Nat.le_of_ble_eq_true rfl) (Nat.add_le_add_right (Nat.le_of_ble_eq_true rfl) _)  (fun H locs v σ11 N hBn hX11 hP => ?_)
  clear hB; have hB := hBn; clear hBn
  obtain ⟨b, rfl, rfl, hb9⟩ := hP
  have e9 : (sgI σ (kD K) 2 - 1).toInt = (n : Int) - 1 := by have q9 := i_sub (x := sgI σ (kD K) 2) (y := 1) (by show _ ≤ _ - (1 : Int); omega) (by show _ - (1 : Int) ≤ _; omega); rw [q9, z1]; rfl
  rw [e9] at hb9
  have hb8 : sgb b (0 ≤ x.toInt ∧ x.toInt < n) := by
      rcases hb9 with ⟨w1, w2⟩ | ⟨w1, w2⟩
      · exact Or.inl ⟨w1, w2.1, by omega⟩
      · exact Or.inr ⟨w1, fun q => w2 ⟨q.1, by omega⟩⟩
  exact sg_zret F hB hrt dX14_isDevice_14 (by decide) (by decide) (sgb_n hb8) (⟨b, rfl, rfl, hb8⟩)
theorem dX14_noDevice_0 : decode cX14_noDevice 0 = .ok (.aload_n 0, 1) := by decide +kernel
theorem dX14_noDevice_1 : decode cX14_noDevice 1 = .ok (.aload_n 0, 1) := by decide +kernel
theorem dX14_noDevice_2 : decode cX14_noDevice 2 = .ok (.iload_n 1, 1) := by decide +kernel
theorem dX14_noDevice_3 : decode cX14_noDevice 3 = .ok (.invokevirtual 72, 3) := by decide +kernel
theorem dX14_noDevice_6 : decode cX14_noDevice 6 = .ok (.ifCond .eq 7, 3) := by decide +kernel
theorem dX14_noDevice_9 : decode cX14_noDevice 9 = .ok (.iconst 0, 1) := by decide +kernel
theorem dX14_noDevice_10 : decode cX14_noDevice 10 = .ok (.goto 4, 3) := by decide +kernel
theorem dX14_noDevice_13 : decode cX14_noDevice 13 = .ok (.iconst 1, 1) := by decide +kernel
theorem dX14_noDevice_14 : decode cX14_noDevice 14 = .ok (.putfield 61, 3) := by decide +kernel
theorem dX14_noDevice_17 : decode cX14_noDevice 17 = .ok (.aload_n 0, 1) := by decide +kernel
theorem dX14_noDevice_18 : decode cX14_noDevice 18 = .ok (.getfield 61, 3) := by decide +kernel
theorem dX14_noDevice_21 : decode cX14_noDevice 21 = .ok (.ifCond .le 7, 3) := by decide +kernel
theorem dX14_noDevice_24 : decode cX14_noDevice 24 = .ok (.iconst 1, 1) := by decide +kernel
theorem dX14_noDevice_25 : decode cX14_noDevice 25 = .ok (.goto 4, 3) := by decide +kernel
theorem dX14_noDevice_28 : decode cX14_noDevice 28 = .ok (.iconst 0, 1) := by decide +kernel
theorem dX14_noDevice_29 : decode cX14_noDevice 29 = .ok (.ireturn, 1) := by decide +kernel
set_option maxRecDepth 100000 in
set_option maxHeartbeats 4000000 in
theorem m_noDevice (l : Launch) (D : va_G) (cy : Nat → ClassId) {eda ca : Nat} {ia : Nat → Nat} {σ : SG} {K : KM} {g : GH} {n S hw : Nat} (h : Inv eda ia K g n S hw σ) (x : Int32) (sz : Nat) : sgM l D cy eda ca ia σ sz yX14_noDevice (Cond.code yX14_noDevice cX14_noDevice 2 (some .boolean) :: mWall) 2 43 0 0 [.ref (kA K), .int x] (fun v σ2 => ∃ (y b : Int32), v = some (.int b) ∧ sgPI σ (kA K) 0 y = σ2 ∧ sgb b (¬ (0 ≤ x.toInt ∧ x.toInt < n))) := by
  refine sg_ofW (cc := cX14_noDevice) (maxL := 2) (ret := (some .boolean)) (by decide) rfl (Nat.le_of_ble_eq_true rfl) (lv := [(0, .ref (kA K)), (1, .int x)]) rfl (fun p e s m below meth c ls H N hrt hnm F hB hl => ?_) sz
  have hx := F.1.1
  have hb := F.1.2.1
  have hown := F.1.2.2.2.1
  obtain ⟨m0, m1, m2, m3, m4, m5, m6, m7, ⟨d1, d2⟩, ⟨r1, r2⟩, ⟨y1, y2⟩, ⟨e1, e2⟩, ⟨g1, g2⟩, ⟨p1, p2⟩, ⟨h1, h2⟩, ⟨ev, n9, n10, n11⟩, n12⟩ := inv_Mr h
  refine lv_aload_n hx hb dX14_noDevice_0 rfl (lv_at hl 0 rfl) ?_
  refine lv_aload_n hx hb dX14_noDevice_1 rfl (lv_at hl 0 rfl) ?_
  refine lv_iload_n hx hb dX14_noDevice_2 rfl (lv_at hl 1 rfl) ?_
  refine sg_callV (ci := 19) F hB (m_isDevice l D cy h x _) (cwV 1 F.1.2.2.2.2 (mgV (mm_3 _ (List.mem_of_getElem? (i := 25) rfl)) (mm_3 _ (List.mem_of_getElem? (i := 26) rfl)) (mm_3 _ (List.mem_of_getElem? (i := 27) rfl)) (mm_3 _ (List.mem_of_getElem? (i := 23) rfl)) (mm_3 _ (List.mem_of_getElem? (i := 17) rfl))) rfl rfl rfl ⟨rfl, by decide, by decide, by decide +kernel⟩ ⟨Nat.le_of_ble_eq_true rfl, Nat.le_of_ble_eq_true rfl⟩) rfl rfl (by decide) rfl hl.1 rfl (Nat.le_of_ble_eq_true rfl) dX14_noDevice_3 (Nat.le_of_ble_eq_true rfl) (Nat.add_le_add_right (Nat.le_of_ble_eq_true rfl) _) (by assumption) (fun H locs v σ3 N hBn hX3 hP => ?_)
  clear hB; have hB := hBn; clear hBn
  obtain ⟨b, rfl, rfl, hb9⟩ := hP
  refine lv_if_eq (tgt := 13) hx hb dX14_noDevice_6 (by decide) (fun c6 => ?_) (fun c6 => ?_)
  · refine lv_iconst (v := 1) hx hb dX14_noDevice_13 (by decide) ?_
    refine pf_X14_61 F hB dX14_noDevice_14 (by assumption) (fun H locs hBn => ?_)
    clear hB; have hB := hBn; clear hBn
    refine lv_aload_n hx hb dX14_noDevice_17 rfl (lv_at hl 0 rfl) ?_
    refine gf_X14_61 F hB dX14_noDevice_18 (by assumption) ?_
    rw [sgI_PI, if_pos ⟨rfl, rfl⟩]
    refine lv_if_le (tgt := 28) hx hb dX14_noDevice_21 (by decide) (fun c21 => (by first | exact absurd c21 (by decide) | exact (c21 (by decide)).elim)) (fun c21 => ?_)
    refine lv_iconst (v := 1) hx hb dX14_noDevice_24 (by decide) ?_
    refine lv_goto (tgt := 29) hx hb dX14_noDevice_25 (by decide) ?_
    exact sg_zret F hB hrt dX14_noDevice_29 (by decide) (by decide) rfl (by first | exact ⟨_, 1, rfl, rfl, sgb_1 (sgb_f hb9 c6)⟩ | exact ⟨_, 0, rfl, rfl, sgb_0 (fun q => q (sgb_t hb9 c6))⟩ | exact absurd c21 (by decide) | exact (c21 (by decide)).elim)
  · refine lv_iconst (v := 0) hx hb dX14_noDevice_9 (by decide) ?_
    refine lv_goto (tgt := 14) hx hb dX14_noDevice_10 (by decide) ?_
    refine pf_X14_61 F hB dX14_noDevice_14 (by assumption) (fun H locs hBn => ?_)
    clear hB; have hB := hBn; clear hBn
    refine lv_aload_n hx hb dX14_noDevice_17 rfl (lv_at hl 0 rfl) ?_
    refine gf_X14_61 F hB dX14_noDevice_18 (by assumption) ?_
    rw [sgI_PI, if_pos ⟨rfl, rfl⟩]
    refine lv_if_le (tgt := 28) hx hb dX14_noDevice_21 (by decide) (fun c21 => ?_) (fun c21 => (by first | exact absurd c21 (by decide) | exact (c21 (by decide)).elim))
    refine lv_iconst (v := 0) hx hb dX14_noDevice_28 (by decide) ?_
    exact sg_zret F hB hrt dX14_noDevice_29 (by decide) (by decide) rfl (by first | exact ⟨_, 1, rfl, rfl, sgb_1 (sgb_f hb9 c6)⟩ | exact ⟨_, 0, rfl, rfl, sgb_0 (fun q => q (sgb_t hb9 c6))⟩ | exact absurd c21 (by decide) | exact (c21 (by decide)).elim)
theorem dX14_isPlugged_0 : decode cX14_isPlugged 0 = .ok (.aload_n 0, 1) := by decide +kernel
theorem dX14_isPlugged_1 : decode cX14_isPlugged 1 = .ok (.getfield 10, 3) := by decide +kernel
theorem dX14_isPlugged_4 : decode cX14_isPlugged 4 = .ok (.iload_n 1, 1) := by decide +kernel
theorem dX14_isPlugged_5 : decode cX14_isPlugged 5 = .ok (.invokevirtual 76, 3) := by decide +kernel
theorem dX14_isPlugged_8 : decode cX14_isPlugged 8 = .ok (.checkcast 48, 3) := by decide +kernel
theorem dX14_isPlugged_11 : decode cX14_isPlugged 11 = .ok (.getfield 53, 3) := by decide +kernel
theorem dX14_isPlugged_14 : decode cX14_isPlugged 14 = .ok (.bipush 117, 2) := by decide +kernel
theorem dX14_isPlugged_16 : decode cX14_isPlugged 16 = .ok (.if_icmp .eq 7, 3) := by decide +kernel
theorem dX14_isPlugged_19 : decode cX14_isPlugged 19 = .ok (.iconst 1, 1) := by decide +kernel
theorem dX14_isPlugged_20 : decode cX14_isPlugged 20 = .ok (.goto 4, 3) := by decide +kernel
theorem dX14_isPlugged_23 : decode cX14_isPlugged 23 = .ok (.iconst 0, 1) := by decide +kernel
theorem dX14_isPlugged_24 : decode cX14_isPlugged 24 = .ok (.ireturn, 1) := by decide +kernel
set_option maxRecDepth 100000 in
set_option maxHeartbeats 4000000 in
theorem m_isPlugged (l : Launch) (D : va_G) (cy : Nat → ClassId) {eda ca : Nat} {ia : Nat → Nat} {σ : SG} {K : KM} {g : GH} {n S hw : Nat} (h : Inv eda ia K g n S hw σ) (x : Int32) (hx1 : 0 ≤ x.toInt) (hx2 : x.toInt < n) (sz : Nat) : sgM l D cy eda ca ia σ sz yX14_isPlugged (Cond.code yX14_isPlugged cX14_isPlugged 2 (some .boolean) :: mWall) 3 64 0 0 [.ref (kA K), .int x] (fun v σ2 => ∃ b : Int32, v = some (.int b) ∧ σ = σ2 ∧ sgb b (¬ iSt g σ x.toInt.toNat = 117)) := by
  refine sg_ofW (cc := cX14_isPlugged) (maxL := 2) (ret := (some .boolean)) (by decide) rfl (Nat.le_of_ble_eq_true rfl) (lv := [(0, .ref (kA K)), (1, .int x)]) rfl (fun p e s m below meth c ls H N hrt hnm F hB hl => ?_) sz
  have hx := F.1.1
  have hb := F.1.2.1
  have hown := F.1.2.2.2.1
  obtain ⟨m0, m1, m2, m3, m4, m5, m6, m7, ⟨d1, d2⟩, ⟨r1, r2⟩, ⟨y1, y2⟩, ⟨e1, e2⟩, ⟨g1, g2⟩, ⟨p1, p2⟩, ⟨h1, h2⟩, ⟨ev, n9, n10, n11⟩, n12⟩ := inv_Mr h
  refine lv_aload_n hx hb dX14_isPlugged_0 rfl (lv_at hl 0 rfl) ?_
  refine gr_X14_10 F hB dX14_isPlugged_1 (by assumption) m1 ?_
  refine lv_iload_n hx hb dX14_isPlugged_4 rfl (lv_at hl 1 rfl) ?_
  refine sg_callV (ci := 4) F hB (m_getD l D cy h x (by omega) (by omega) _) (cwV 1 F.1.2.2.2.2 (mgV (mm_4 _ (List.mem_of_getElem? (i := 3) rfl)) (mm_4 _ (List.mem_of_getElem? (i := 4) rfl)) (mm_4 _ (List.mem_of_getElem? (i := 5) rfl)) (mm_0 _ (List.mem_of_getElem? (i := 35) rfl)) (mm_3 _ (List.mem_of_getElem? (i := 34) rfl))) rfl rfl rfl ⟨rfl, by decide, by decide, by decide +kernel⟩ ⟨Nat.le_of_ble_eq_true rfl, Nat.le_of_ble_eq_true rfl⟩) rfl rfl (by decide) rfl hl.1 rfl (Nat.le_of_ble_eq_true rfl) dX14_isPlugged_5 (Nat.le_of_ble_eq_true rfl) (Nat.add_le_add_right (Nat.le_of_ble_eq_true rfl) _) (by assumption) (fun H locs v σ5 N hBn hX5 hP => ?_)
  clear hB; have hB := hBn; clear hBn
  obtain ⟨rfl, rfl⟩ := hP
  have dv5 := (inv_dv h (k := (x : Int32).toInt.toNat) (by omega)).2.1
  refine va_castY hx hb hown (F.1.2.2.2.2 _ (List.mem_cons_of_mem _ (mm_4 _ (List.mem_of_getElem? (i := 2) rfl)))) (F.2.2.1.2.2 ("HubcascadeModel$Device", "HubcascadeModel$Device") (by decide +kernel)) (sg_recv (ci := 15) F.2.1 hB (by assumption) (by decide) rfl) dX14_isPlugged_8 ?_
  refine gf_X14_53 F hB dX14_isPlugged_11 (by assumption) ?_
  refine lv_bipush (v := 117) hx hb dX14_isPlugged_14 (by decide) ?_
  refine lv_icmp_eq (tgt := 23) hx hb dX14_isPlugged_16 (by decide) (fun c16 => ?_) (fun c16 => ?_)
  · refine lv_iconst (v := 0) hx hb dX14_isPlugged_23 (by decide) ?_
    exact sg_zret F hB hrt dX14_isPlugged_24 (by decide) (by decide) rfl (by first | exact ⟨0, rfl, rfl, sgb_0 (fun q => q c16)⟩ | exact ⟨1, rfl, rfl, sgb_1 c16⟩)
  · refine lv_iconst (v := 1) hx hb dX14_isPlugged_19 (by decide) ?_
    refine lv_goto (tgt := 24) hx hb dX14_isPlugged_20 (by decide) ?_
    exact sg_zret F hB hrt dX14_isPlugged_24 (by decide) (by decide) rfl (by first | exact ⟨0, rfl, rfl, sgb_0 (fun q => q c16)⟩ | exact ⟨1, rfl, rfl, sgb_1 c16⟩)
theorem dX14_isOther_0 : decode cX14_isOther 0 = .ok (.iload_n 1, 1) := by decide +kernel
theorem dX14_isOther_1 : decode cX14_isOther 1 = .ok (.ifCond .eq 15, 3) := by decide +kernel
theorem dX14_isOther_4 : decode cX14_isOther 4 = .ok (.aload_n 0, 1) := by decide +kernel
theorem dX14_isOther_5 : decode cX14_isOther 5 = .ok (.iload_n 1, 1) := by decide +kernel
theorem dX14_isOther_6 : decode cX14_isOther 6 = .ok (.invokevirtual 72, 3) := by decide +kernel
theorem dX14_isOther_9 : decode cX14_isOther 9 = .ok (.ifCond .eq 7, 3) := by decide +kernel
theorem dX14_isOther_12 : decode cX14_isOther 12 = .ok (.iconst 1, 1) := by decide +kernel
theorem dX14_isOther_13 : decode cX14_isOther 13 = .ok (.goto 4, 3) := by decide +kernel
theorem dX14_isOther_16 : decode cX14_isOther 16 = .ok (.iconst 0, 1) := by decide +kernel
theorem dX14_isOther_17 : decode cX14_isOther 17 = .ok (.ireturn, 1) := by decide +kernel
set_option maxRecDepth 100000 in
set_option maxHeartbeats 4000000 in
theorem m_isOther (l : Launch) (D : va_G) (cy : Nat → ClassId) {eda ca : Nat} {ia : Nat → Nat} {σ : SG} {K : KM} {g : GH} {n S hw : Nat} (h : Inv eda ia K g n S hw σ) (x : Int32) (sz : Nat) : sgM l D cy eda ca ia σ sz yX14_isOther (Cond.code yX14_isOther cX14_isOther 2 (some .boolean) :: mWall) 2 43 0 0 [.ref (kA K), .int x] (fun v σ2 => ∃ b : Int32, v = some (.int b) ∧ σ = σ2 ∧ sgb b (1 ≤ x.toInt ∧ x.toInt < n)) := by
  refine sg_ofW (cc := cX14_isOther) (maxL := 2) (ret := (some .boolean)) (by decide) rfl (Nat.le_of_ble_eq_true rfl) (lv := [(0, .ref (kA K)), (1, .int x)]) rfl (fun p e s m below meth c ls H N hrt hnm F hB hl => ?_) sz
  have hx := F.1.1
  have hb := F.1.2.1
  have hown := F.1.2.2.2.1
  obtain ⟨m0, m1, m2, m3, m4, m5, m6, m7, ⟨d1, d2⟩, ⟨r1, r2⟩, ⟨y1, y2⟩, ⟨e1, e2⟩, ⟨g1, g2⟩, ⟨p1, p2⟩, ⟨h1, h2⟩, ⟨ev, n9, n10, n11⟩, n12⟩ := inv_Mr h
  refine lv_iload_n hx hb dX14_isOther_0 rfl (lv_at hl 1 rfl) ?_
  refine lv_if_eq (tgt := 16) hx hb dX14_isOther_1 (by decide) (fun c1 => ?_) (fun c1 => ?_)
  · refine lv_iconst (v := 0) hx hb dX14_isOther_16 (by decide) ?_
    exact sg_zret F hB hrt dX14_isOther_17 (by decide) (by decide) rfl (by first | exact ⟨0, rfl, rfl, sgb_0 (fun q => by rw [show x = 0 from c1] at q; exact absurd q.1 (by decide))⟩ | exact ⟨0, rfl, rfl, sgb_0 (fun q => sgb_f hb9 c9 ⟨by omega, q.2⟩)⟩ | exact ⟨1, rfl, rfl, sgb_1 ⟨by have q := sgb_t hb9 c9; have q2 : ¬ x.toInt = 0 := (fun z => c1 (i_eq.mpr z)); omega, (sgb_t hb9 c9).2⟩⟩)
  · refine lv_aload_n hx hb dX14_isOther_4 rfl (lv_at hl 0 rfl) ?_
    refine lv_iload_n hx hb dX14_isOther_5 rfl (lv_at hl 1 rfl) ?_
    refine sg_callV (ci := 19) F hB (m_isDevice l D cy h x _) (cwV 1 F.1.2.2.2.2 (mgV (mm_3 _ (List.mem_of_getElem? (i := 25) rfl)) (mm_3 _ (List.mem_of_getElem? (i := 26) rfl)) (mm_3 _ (List.mem_of_getElem? (i := 27) rfl)) (mm_3 _ (List.mem_of_getElem? (i := 23) rfl)) (mm_3 _ (List.mem_of_getElem? (i := 17) rfl))) rfl rfl rfl ⟨rfl, by decide, by decide, by decide +kernel⟩ ⟨Nat.le_of_ble_eq_true rfl, Nat.le_of_ble_eq_true rfl⟩) rfl rfl (by decide) rfl hl.1 rfl (Nat.le_of_ble_eq_true rfl) dX14_isOther_6 (Nat.le_of_ble_eq_true rfl) (Nat.add_le_add_right (Nat.le_of_ble_eq_true rfl) _) (by assumption) (fun H locs v σ6 N hBn hX6 hP => ?_)
    clear hB; have hB := hBn; clear hBn
    obtain ⟨b, rfl, rfl, hb9⟩ := hP
    refine lv_if_eq (tgt := 16) hx hb dX14_isOther_9 (by decide) (fun c9 => ?_) (fun c9 => ?_)
    · refine lv_iconst (v := 0) hx hb dX14_isOther_16 (by decide) ?_
      exact sg_zret F hB hrt dX14_isOther_17 (by decide) (by decide) rfl (by first | exact ⟨0, rfl, rfl, sgb_0 (fun q => by rw [show x = 0 from c1] at q; exact absurd q.1 (by decide))⟩ | exact ⟨0, rfl, rfl, sgb_0 (fun q => sgb_f hb9 c9 ⟨by omega, q.2⟩)⟩ | exact ⟨1, rfl, rfl, sgb_1 ⟨by have q := sgb_t hb9 c9; have q2 : ¬ x.toInt = 0 := (fun z => c1 (i_eq.mpr z)); omega, (sgb_t hb9 c9).2⟩⟩)
    · refine lv_iconst (v := 1) hx hb dX14_isOther_12 (by decide) ?_
      refine lv_goto (tgt := 17) hx hb dX14_isOther_13 (by decide) ?_
      exact sg_zret F hB hrt dX14_isOther_17 (by decide) (by decide) rfl (by first | exact ⟨0, rfl, rfl, sgb_0 (fun q => by rw [show x = 0 from c1] at q; exact absurd q.1 (by decide))⟩ | exact ⟨0, rfl, rfl, sgb_0 (fun q => sgb_f hb9 c9 ⟨by omega, q.2⟩)⟩ | exact ⟨1, rfl, rfl, sgb_1 ⟨by have q := sgb_t hb9 c9; have q2 : ¬ x.toInt = 0 := (fun z => c1 (i_eq.mpr z)); omega, (sgb_t hb9 c9).2⟩⟩)
theorem dX14_depth_0 : decode cX14_depth 0 = .ok (.iconst 0, 1) := by decide +kernel
theorem dX14_depth_1 : decode cX14_depth 1 = .ok (.istore_n 2, 1) := by decide +kernel
theorem dX14_depth_2 : decode cX14_depth 2 = .ok (.iload_n 1, 1) := by decide +kernel
theorem dX14_depth_3 : decode cX14_depth 3 = .ok (.istore_n 3, 1) := by decide +kernel
theorem dX14_depth_4 : decode cX14_depth 4 = .ok (.aload_n 0, 1) := by decide +kernel
theorem dX14_depth_5 : decode cX14_depth 5 = .ok (.getfield 10, 3) := by decide +kernel
theorem dX14_depth_8 : decode cX14_depth 8 = .ok (.iload_n 3, 1) := by decide +kernel
theorem dX14_depth_9 : decode cX14_depth 9 = .ok (.invokevirtual 76, 3) := by decide +kernel
theorem dX14_depth_12 : decode cX14_depth 12 = .ok (.checkcast 48, 3) := by decide +kernel
theorem dX14_depth_15 : decode cX14_depth 15 = .ok (.getfield 80, 3) := by decide +kernel
theorem dX14_depth_18 : decode cX14_depth 18 = .ok (.iconst (-1), 1) := by decide +kernel
theorem dX14_depth_19 : decode cX14_depth 19 = .ok (.if_icmp .eq 24, 3) := by decide +kernel
theorem dX14_depth_22 : decode cX14_depth 22 = .ok (.iinc 2 1, 3) := by decide +kernel
theorem dX14_depth_25 : decode cX14_depth 25 = .ok (.aload_n 0, 1) := by decide +kernel
theorem dX14_depth_26 : decode cX14_depth 26 = .ok (.getfield 10, 3) := by decide +kernel
theorem dX14_depth_29 : decode cX14_depth 29 = .ok (.iload_n 3, 1) := by decide +kernel
theorem dX14_depth_30 : decode cX14_depth 30 = .ok (.invokevirtual 76, 3) := by decide +kernel
theorem dX14_depth_33 : decode cX14_depth 33 = .ok (.checkcast 48, 3) := by decide +kernel
theorem dX14_depth_36 : decode cX14_depth 36 = .ok (.getfield 80, 3) := by decide +kernel
theorem dX14_depth_39 : decode cX14_depth 39 = .ok (.istore_n 3, 1) := by decide +kernel
theorem dX14_depth_40 : decode cX14_depth 40 = .ok (.goto (-36), 3) := by decide +kernel
theorem dX14_depth_43 : decode cX14_depth 43 = .ok (.iload_n 2, 1) := by decide +kernel
theorem dX14_depth_44 : decode cX14_depth 44 = .ok (.ireturn, 1) := by decide +kernel
set_option maxRecDepth 100000 in
set_option maxHeartbeats 4000000 in
theorem m_depth (l : Launch) (D : va_G) (cy : Nat → ClassId) {eda ca : Nat} {ia : Nat → Nat} {σ : SG} {K : KM} {g : GH} {n S hw : Nat} (h : Inv eda ia K g n S hw σ) (x : Int32) (hx1 : 0 ≤ x.toInt) (hx2 : x.toInt < n) (sz : Nat) : sgM l D cy eda ca ia σ sz yX14_depth (Cond.code yX14_depth cX14_depth 4 (some .int) :: mWall) 3 64 0 0 [.ref (kA K), .int x] (fun v σ2 => (∃ y : Int32, v = some (.int y)) ∧ σ = σ2) := by
  refine sg_ofW (cc := cX14_depth) (maxL := 4) (ret := (some .int)) (by decide) rfl (Nat.le_of_ble_eq_true rfl) (lv := [(0, .ref (kA K)), (1, .int x)]) rfl (fun p e s m below meth c ls H N hrt hnm F hB hl => ?_) sz
  have hx := F.1.1
  have hb := F.1.2.1
  have hown := F.1.2.2.2.1
  obtain ⟨m0, m1, m2, m3, m4, m5, m6, m7, ⟨d1, d2⟩, ⟨r1, r2⟩, ⟨y1, y2⟩, ⟨e1, e2⟩, ⟨g1, g2⟩, ⟨p1, p2⟩, ⟨h1, h2⟩, ⟨ev, n9, n10, n11⟩, n12⟩ := inv_Mr h
  obtain ⟨z1, z2, z3⟩ := inv_sz h
  obtain ⟨rk, hrk⟩ := inv_hub h
  generalize hlo : ([] : List Loc) = locs at hB ⊢
  clear hlo
  refine lv_iconst (v := 0) hx hb dX14_depth_0 (by decide) ?_
  refine lv_istore_n (lv' := [(2, .int _), (0, .ref _), (1, .int _)]) hx hb dX14_depth_1 rfl hl (by decide) rfl (fun ls hl => ?_)
  refine lv_iload_n hx hb dX14_depth_2 rfl (lv_at hl 2 rfl) ?_
  refine lv_istore_n (lv' := [(3, .int _), (2, .int _), (0, .ref _), (1, .int _)]) hx hb dX14_depth_3 rfl hl (by decide) rfl (fun ls hl => ?_)
  have key4 : ∃ z dp : Int32, sgB D cy s σ σ H locs N 0 ∧ lv_has ls 4 [(3, .int z), (2, .int dp), (0, .ref (kA K))] ∧ 0 ≤ z.toInt ∧ z.toInt < n := ⟨_, _, hB, (lv_sub hl [0, 1, 2] rfl), hx1, hx2⟩
  clear hB hl
  obtain ⟨z, dp, hB, hl, hz1, hz2⟩ := key4
  obtain ⟨d, hd⟩ : ∃ d : Nat, d = rk z.toInt.toNat := ⟨_, rfl⟩
  induction d using Nat.strongRecOn generalizing H locs ls N z dp
  rename_i d ih
  refine lv_aload_n hx hb dX14_depth_4 rfl (lv_at hl 2 rfl) ?_
  refine gr_X14_10 F hB dX14_depth_5 (by assumption) m1 ?_
  refine lv_iload_n hx hb dX14_depth_8 rfl (lv_at hl 0 rfl) ?_
  refine sg_callV (ci := 4) F hB (m_getD l D cy h z (by omega) (by omega) _) (cwV 1 F.1.2.2.2.2 (mgV (mm_4 _ (List.mem_of_getElem? (i := 3) rfl)) (mm_4 _ (List.mem_of_getElem? (i := 4) rfl)) (mm_4 _ (List.mem_of_getElem? (i := 5) rfl)) (mm_0 _ (List.mem_of_getElem? (i := 35) rfl)) (mm_3 _ (List.mem_of_getElem? (i := 34) rfl))) rfl rfl rfl ⟨rfl, by decide, by decide, by decide +kernel⟩ ⟨Nat.le_of_ble_eq_true rfl, Nat.le_of_ble_eq_true rfl⟩) rfl rfl (by decide) rfl hl.1 rfl (Nat.le_of_ble_eq_true rfl) dX14_depth_9 (Nat.le_of_ble_eq_true rfl) (Nat.add_le_add_right (Nat.le_of_ble_eq_true rfl) _) (by assumption) (fun H locs v σ9 N hBn hX9 hP => ?_)
  clear hB; have hB := hBn; clear hBn
  obtain ⟨rfl, rfl⟩ := hP
  have dv9 := (inv_dv h (k := (z : Int32).toInt.toNat) (by omega)).2.1
  refine va_castY hx hb hown (F.1.2.2.2.2 _ (List.mem_cons_of_mem _ (mm_4 _ (List.mem_of_getElem? (i := 2) rfl)))) (F.2.2.1.2.2 ("HubcascadeModel$Device", "HubcascadeModel$Device") (by decide +kernel)) (sg_recv (ci := 15) F.2.1 hB (by assumption) (by decide) rfl) dX14_depth_12 ?_
  refine gf_X14_80 F hB dX14_depth_15 (by assumption) ?_
  refine lv_iconst (v := (-1)) hx hb dX14_depth_18 (by decide) ?_
  refine lv_icmp_eq (tgt := 43) hx hb dX14_depth_19 (by decide) (fun c19 => ?_) (fun c19 => ?_)
  · refine lv_iload_n hx hb dX14_depth_43 rfl (lv_at hl 1 rfl) ?_
    exact sg_iret F hB hrt dX14_depth_44 (by decide) (by decide) (⟨⟨_, rfl⟩, rfl⟩)
  · have hk3 : 0 ≤ iHb g σ z.toInt.toNat ∧ iHb g σ z.toInt.toNat < n ∧ rk (iHb g σ z.toInt.toNat).toNat < rk z.toInt.toNat := (hrk z.toInt.toNat (by omega)).resolve_left (m_zN c19)
    refine lv_iinc (lv' := [(2, .int _), (3, .int _), (0, .ref _)]) hx hb dX14_depth_22 hl (k := 1) rfl rfl (by decide) rfl (fun ls hl => ?_)
    refine lv_aload_n hx hb dX14_depth_25 rfl (lv_at hl 2 rfl) ?_
    refine gr_X14_10 F hB dX14_depth_26 (by assumption) m1 ?_
    refine lv_iload_n hx hb dX14_depth_29 rfl (lv_at hl 1 rfl) ?_
    refine sg_callV (ci := 4) F hB (m_getD l D cy h z (by omega) (by omega) _) (cwV 1 F.1.2.2.2.2 (mgV (mm_4 _ (List.mem_of_getElem? (i := 3) rfl)) (mm_4 _ (List.mem_of_getElem? (i := 4) rfl)) (mm_4 _ (List.mem_of_getElem? (i := 5) rfl)) (mm_0 _ (List.mem_of_getElem? (i := 35) rfl)) (mm_3 _ (List.mem_of_getElem? (i := 34) rfl))) rfl rfl rfl ⟨rfl, by decide, by decide, by decide +kernel⟩ ⟨Nat.le_of_ble_eq_true rfl, Nat.le_of_ble_eq_true rfl⟩) rfl rfl (by decide) rfl hl.1 rfl (Nat.le_of_ble_eq_true rfl) dX14_depth_30 (Nat.le_of_ble_eq_true rfl) (Nat.add_le_add_right (Nat.le_of_ble_eq_true rfl) _) (by assumption) (fun H locs v σ30 N hBn hX30 hP => ?_)
    clear hB; have hB := hBn; clear hBn
    obtain ⟨rfl, rfl⟩ := hP
    have dv30 := (inv_dv h (k := (z : Int32).toInt.toNat) (by omega)).2.1
    refine va_castY hx hb hown (F.1.2.2.2.2 _ (List.mem_cons_of_mem _ (mm_4 _ (List.mem_of_getElem? (i := 2) rfl)))) (F.2.2.1.2.2 ("HubcascadeModel$Device", "HubcascadeModel$Device") (by decide +kernel)) (sg_recv (ci := 15) F.2.1 hB (by assumption) (by decide) rfl) dX14_depth_33 ?_
    refine gf_X14_80 F hB dX14_depth_36 (by assumption) ?_
    refine lv_istore_n (lv' := [(3, .int _), (2, .int _), (0, .ref _)]) hx hb dX14_depth_39 rfl hl (by decide) rfl (fun ls hl => ?_)
    refine lv_goto (tgt := 4) hx hb dX14_depth_40 (by decide) ?_
    exact ih _ (by subst hd; exact hk3.2.2) _ _ _ _ _ _ hB (lv_sub hl [0, 1, 2] rfl) hk3.1 hk3.2.1 rfl
theorem dX14_stateOf_0 : decode cX14_stateOf 0 = .ok (.aload_n 0, 1) := by decide +kernel
theorem dX14_stateOf_1 : decode cX14_stateOf 1 = .ok (.iload_n 1, 1) := by decide +kernel
theorem dX14_stateOf_2 : decode cX14_stateOf 2 = .ok (.invokevirtual 90, 3) := by decide +kernel
theorem dX14_stateOf_5 : decode cX14_stateOf 5 = .ok (.ifCond .eq 8, 3) := by decide +kernel
theorem dX14_stateOf_8 : decode cX14_stateOf 8 = .ok (.bipush 32, 2) := by decide +kernel
theorem dX14_stateOf_10 : decode cX14_stateOf 10 = .ok (.goto 17, 3) := by decide +kernel
theorem dX14_stateOf_13 : decode cX14_stateOf 13 = .ok (.aload_n 0, 1) := by decide +kernel
theorem dX14_stateOf_14 : decode cX14_stateOf 14 = .ok (.getfield 10, 3) := by decide +kernel
theorem dX14_stateOf_17 : decode cX14_stateOf 17 = .ok (.iload_n 1, 1) := by decide +kernel
theorem dX14_stateOf_18 : decode cX14_stateOf 18 = .ok (.invokevirtual 76, 3) := by decide +kernel
theorem dX14_stateOf_21 : decode cX14_stateOf 21 = .ok (.checkcast 48, 3) := by decide +kernel
theorem dX14_stateOf_24 : decode cX14_stateOf 24 = .ok (.getfield 53, 3) := by decide +kernel
theorem dX14_stateOf_27 : decode cX14_stateOf 27 = .ok (.ireturn, 1) := by decide +kernel
set_option maxRecDepth 100000 in
set_option maxHeartbeats 4000000 in
theorem m_stateOf (l : Launch) (D : va_G) (cy : Nat → ClassId) {eda ca : Nat} {ia : Nat → Nat} {σ : SG} {K : KM} {g : GH} {n S hw : Nat} (h : Inv eda ia K g n S hw σ) (x : Int32) (sz : Nat) : sgM l D cy eda ca ia σ sz yX14_stateOf (Cond.code yX14_stateOf cX14_stateOf 2 (some .char) :: mWall) 3 64 0 0 [.ref (kA K), .int x] (fun v σ2 => (∃ y : Int32, v = some (.int y)) ∧ Inv eda ia K g n S hw σ2) := by
  refine sg_ofW (cc := cX14_stateOf) (maxL := 2) (ret := (some .char)) (by decide) rfl (Nat.le_of_ble_eq_true rfl) (lv := [(0, .ref (kA K)), (1, .int x)]) rfl (fun p e s m below meth c ls H N hrt hnm F hB hl => ?_) sz
  have hx := F.1.1
  have hb := F.1.2.1
  have hown := F.1.2.2.2.1
  obtain ⟨m0, m1, m2, m3, m4, m5, m6, m7, ⟨d1, d2⟩, ⟨r1, r2⟩, ⟨y1, y2⟩, ⟨e1, e2⟩, ⟨g1, g2⟩, ⟨p1, p2⟩, ⟨h1, h2⟩, ⟨ev, n9, n10, n11⟩, n12⟩ := inv_Mr h
  refine lv_aload_n hx hb dX14_stateOf_0 rfl (lv_at hl 0 rfl) ?_
  refine lv_iload_n hx hb dX14_stateOf_1 rfl (lv_at hl 1 rfl) ?_
  refine sg_callV (ci := 19) F hB (m_noDevice l D cy h x _) (cwV 1 F.1.2.2.2.2 (mgV (mm_4 _ (List.mem_of_getElem? (i := 17) rfl)) (mm_4 _ (List.mem_of_getElem? (i := 18) rfl)) (mm_4 _ (List.mem_of_getElem? (i := 19) rfl)) (mm_3 _ (List.mem_of_getElem? (i := 23) rfl)) (mm_3 _ (List.mem_of_getElem? (i := 24) rfl))) rfl rfl rfl ⟨rfl, by decide, by decide, by decide +kernel⟩ ⟨Nat.le_of_ble_eq_true rfl, Nat.le_of_ble_eq_true rfl⟩) rfl rfl (by decide) rfl hl.1 rfl (Nat.le_of_ble_eq_true rfl) dX14_stateOf_2 (Nat.le_of_ble_eq_true rfl) (Nat.add_le_add_right (Nat.le_of_ble_eq_true rfl) _) (by assumption) (fun H locs v σ2 N hBn hX2 hP => ?_)
  clear hB; have hB := hBn; clear hBn
  obtain ⟨y, b, rfl, rfl, hb9⟩ := hP
  have h2 := inv_th h y
  refine lv_if_eq (tgt := 13) hx hb dX14_stateOf_5 (by decide) (fun c5 => ?_) (fun c5 => ?_)
  · have hx5 := Classical.not_not.mp (sgb_f hb9 c5)
    refine lv_aload_n hx hb dX14_stateOf_13 rfl (lv_at hl 0 rfl) ?_
    refine gr_X14_10 F hB dX14_stateOf_14 (by assumption) m1 ?_
    refine lv_iload_n hx hb dX14_stateOf_17 rfl (lv_at hl 1 rfl) ?_
    refine sg_callV (ci := 4) F hB (m_getD l D cy h2 x (by omega) (by omega) _) (cwV 1 F.1.2.2.2.2 (mgV (mm_4 _ (List.mem_of_getElem? (i := 3) rfl)) (mm_4 _ (List.mem_of_getElem? (i := 4) rfl)) (mm_4 _ (List.mem_of_getElem? (i := 5) rfl)) (mm_0 _ (List.mem_of_getElem? (i := 35) rfl)) (mm_3 _ (List.mem_of_getElem? (i := 34) rfl))) rfl rfl rfl ⟨rfl, by decide, by decide, by decide +kernel⟩ ⟨Nat.le_of_ble_eq_true rfl, Nat.le_of_ble_eq_true rfl⟩) rfl rfl (by decide) rfl hl.1 rfl (Nat.le_of_ble_eq_true rfl) dX14_stateOf_18 (Nat.le_of_ble_eq_true rfl) (Nat.add_le_add_right (Nat.le_of_ble_eq_true rfl) _) (by assumption) (fun H locs v σ18 N hBn hX18 hP => ?_)
    clear hB; have hB := hBn; clear hBn
    obtain ⟨rfl, rfl⟩ := hP
    have dv18 := (inv_dv h2 (k := (x : Int32).toInt.toNat) (by omega)).2.1
    refine va_castY hx hb hown (F.1.2.2.2.2 _ (List.mem_cons_of_mem _ (mm_4 _ (List.mem_of_getElem? (i := 2) rfl)))) (F.2.2.1.2.2 ("HubcascadeModel$Device", "HubcascadeModel$Device") (by decide +kernel)) (sg_recv (ci := 15) F.2.1 hB (by assumption) (by decide) rfl) dX14_stateOf_21 ?_
    refine gf_X14_53 F hB dX14_stateOf_24 (by assumption) ?_
    exact sg_zret F hB hrt dX14_stateOf_27 (by decide) (by decide) (by first | rfl | exact sg_nfC (t := 15) hB (by assumption) (by decide) rfl) (⟨⟨_, rfl⟩, h2⟩)
  · refine lv_bipush (v := 32) hx hb dX14_stateOf_8 (by decide) ?_
    refine lv_goto (tgt := 27) hx hb dX14_stateOf_10 (by decide) ?_
    exact sg_zret F hB hrt dX14_stateOf_27 (by decide) (by decide) (by first | rfl | exact sg_nfC (t := 15) hB (by assumption) (by decide) rfl) (⟨⟨_, rfl⟩, h2⟩)
end MM13
