section MM6
/-- an element was put behind the others -/
def sgAd (l0 r e sz : Nat) (σ σ2 : SG) : Prop := ∃ r2 : Nat, (r2 = r ∨ sgT σ r2 = 0) ∧ sgLs σ2 l0 r2 (sz + 1) ∧ sgR σ2 r2 sz = some e ∧ (∀ j, j < sz → sgR σ2 r2 j = sgR σ r j) ∧ (∀ j y, sgR σ2 r2 j = some y → y = e ∨ ∃ j2, sgT σ r = 110 ∧ sgR σ r j2 = some y) ∧ (r2 ≠ r → ∀ j, sgR σ2 r j = sgR σ r j) ∧ (∀ a, sgT σ a ≠ 0 → sgT σ2 a = sgT σ a ∧ sgN σ2 a = sgN σ a) ∧ (∀ a, sgT σ a = 0 → sgT σ2 a = 0 ∨ a = r2) ∧ ∀ a k, sgT σ a ≠ 0 → sgJ σ2 a k = sgJ σ a k ∧ (a ≠ l0 → sgI σ2 a k = sgI σ a k ∧ (a ≠ r → sgR σ2 a k = sgR σ a k))
theorem sgCap_eq {σ σ2 : SG} {a : Nat} (h : sgR σ2 a 1 = sgR σ a 1) (hT : ∀ b, sgT σ2 b = sgT σ b) (hN : ∀ b, sgN σ2 b = sgN σ b) : sgCap σ2 a = sgCap σ a := by
  unfold sgCap
  rw [h]
  cases sgR σ a 1 with
  | none => rfl
  | some b =>
    show (if sgT σ2 b = 110 then sgN σ2 b else 0) = (if sgT σ b = 110 then sgN σ b else 0)
    rw [hT, hN]
theorem sgPot1_of {σ : SG} {a r : Nat} (ht : sgT σ a = 5) (h : sgR σ a 1 = some r) : sgPot1 σ a = 5 * (sgI σ a 2).toInt.toNat - 3 * (if sgT σ r = 110 then sgN σ r else 0) := by
  unfold sgPot1 sgCap
  rw [if_pos ht, h]
  rfl
theorem sgPot_put {σ σ1 : SG} {l0 : Nat} {x : Option Nat} (h1 : sgPot σ1 ≤ sgPot σ) (h2 : sgPot1 σ1 l0 = sgPot1 σ l0) (h3 : l0 < sgU σ1) : sgPot (sgPR σ1 l0 1 x) + sgPot1 σ l0 ≤ sgPot1 (sgPR σ1 l0 1 x) l0 + sgPot σ := by
  have key := sgSum_up (f := sgPot1 (sgPR σ1 l0 1 x)) (g := sgPot1 σ1) (a := l0) (n := sgU σ1) (fun i hi => by
    have e := sgCap_eq (σ := σ1) (σ2 := sgPR σ1 l0 1 x) (a := i) (by rw [sgR_PR, if_neg (fun z => hi z.1)]) (fun _ => rfl) (fun _ => rfl)
    unfold sgPot1
    rw [e]
    rfl) h3
  have e1 : sgPot (sgPR σ1 l0 1 x) = sgSum (sgPot1 (sgPR σ1 l0 1 x)) (sgU σ1) := rfl
  have e2 : sgPot σ1 = sgSum (sgPot1 σ1) (sgU σ1) := rfl
  omega
theorem sgPot_ge {σ : SG} {a : Nat} (hO : sgOK σ) (h : sgT σ a ≠ 0) : sgPot1 σ a ≤ sgPot σ := by
  have h3 := hO.2.2.2 a h
  have key := sgSum_up (f := sgPot1 σ) (g := fun i => if i = a then 0 else sgPot1 σ i) (a := a) (n := sgU σ) (fun i hi => by simp [hi]) h3
  simp only [if_pos] at key
  have e1 : sgPot σ = sgSum (sgPot1 σ) (sgU σ) := rfl
  omega
theorem sgPot1_Ls {σ : SG} {l0 r sz : Nat} (hL : sgLs σ l0 r sz) : sgPot1 σ l0 = 5 * sz - 3 * sgN σ r := by
  obtain ⟨ht, hr1, htr, hsz, -, -⟩ := hL
  rw [sgPot1_of ht hr1, if_pos htr, hsz]
  rfl
theorem sgPot1_nw {σ : SG} {l0 r q w : Nat} (ht : sgT σ l0 = 5) (hr1 : sgR σ l0 1 = some r) (hq : sgT σ q = 0) (hrq : r ≠ q) : sgPot1 (sgNw σ q 110 w) l0 = sgPot1 σ l0 := by
  have hlq : l0 ≠ q := fun z => by rw [z, hq] at ht; exact absurd ht (by decide)
  rw [sgPot1_of ht hr1, sgPot1_of (σ := sgNw σ q 110 w) (by rw [sgNw_T, if_neg hlq]; exact ht) (by rw [sgNw_R, if_neg hlq]; exact hr1), sgNw_T, if_neg hrq, sgNw_N, if_neg hrq, sgNw_I, if_neg hlq]
theorem sgPot1_Cp {σ : SG} {l0 r q k : Nat} (hlq : l0 ≠ q) : sgPot1 (sgCp σ r q 0 0 k) l0 = sgPot1 σ l0 := by
  have e := sgCap_eq (σ := σ) (σ2 := sgCp σ r q 0 0 k) (a := l0) (by rw [sgCp_R, if_neg hlq]) (fun _ => rfl) (fun _ => rfl)
  unfold sgPot1
  rw [e]
  rfl
/-- what is paid when a full list grows -/
theorem sgPot_grA {σ : SG} {l0 r q w sz : Nat} (hL : sgLs σ l0 r sz) (hO : sgOK σ) (hq : sgT σ q = 0) : sgPot (sgPR (sgCp (sgNw σ q 110 w) r q 0 0 (min (sgN σ r) w)) l0 1 (some q)) + (5 * sz - 3 * sgN σ r) ≤ (5 * sz - 3 * w) + sgPot σ := by
  obtain ⟨ht, hr1, htr, hsz, hle, hN9⟩ := id hL
  have hlq : l0 ≠ q := fun z => by rw [z, hq] at ht; exact absurd ht (by decide)
  have hrq : r ≠ q := fun z => by rw [z, hq] at htr; exact absurd htr (by decide)
  have tq : sgT (sgNw σ q 110 w) q = 110 := by rw [sgNw_T, if_pos rfl]
  have h1 := sgPot_put (σ := σ) (σ1 := sgCp (sgNw σ q 110 w) r q 0 0 (min (sgN σ r) w)) (l0 := l0) (x := some q) (by rw [sgPot_Cp (by rw [tq]; decide)]; exact sgPot_nw hO hq) (by rw [sgPot1_Cp hlq, sgPot1_nw ht hr1 hq hrq]) (by have := hO.2.2.2 l0 (by rw [ht]; decide); show l0 < max (sgU σ) (q + 1); omega)
  have h2 : sgPot1 (sgPR (sgCp (sgNw σ q 110 w) r q 0 0 (min (sgN σ r) w)) l0 1 (some q)) l0 = 5 * sz - 3 * w := by
    rw [sgPot1_of (r := q) (by show sgT (sgNw σ q 110 w) l0 = 5; rw [sgNw_T, if_neg hlq]; exact ht) (by rw [sgR_PR, if_pos ⟨rfl, rfl⟩])]
    show 5 * (sgI (sgNw σ q 110 w) l0 2).toInt.toNat - 3 * (if sgT (sgNw σ q 110 w) q = 110 then sgN (sgNw σ q 110 w) q else 0) = _
    rw [sgNw_I, if_neg hlq, if_pos tq, sgNw_N, if_pos rfl, hsz]
    rfl
  rw [sgPot1_Ls hL] at h1
  omega
theorem sgPot_grB {σ : SG} {eda l0 q w : Nat} (ht : sgT σ l0 = 5) (hsz : (sgI σ l0 2).toInt = 0) (hr1 : sgR σ l0 1 = some eda) (heq : eda ≠ q) (hO : sgOK σ) (hq : sgT σ q = 0) : sgPot (sgPR (sgNw σ q 110 w) l0 1 (some q)) ≤ sgPot σ := by
  have hlq : l0 ≠ q := fun z => by rw [z, hq] at ht; exact absurd ht (by decide)
  have h1 := sgPot_put (σ := σ) (σ1 := sgNw σ q 110 w) (l0 := l0) (x := some q) (sgPot_nw hO hq) (sgPot1_nw ht hr1 hq heq) (by have := hO.2.2.2 l0 (by rw [ht]; decide); show l0 < max (sgU σ) (q + 1); omega)
  have h2 : sgPot1 (sgPR (sgNw σ q 110 w) l0 1 (some q)) l0 = 0 := by
    rw [sgPot1_of (r := q) (by show sgT (sgNw σ q 110 w) l0 = 5; rw [sgNw_T, if_neg hlq]; exact ht) (by rw [sgR_PR, if_pos ⟨rfl, rfl⟩])]
    show 5 * (sgI (sgNw σ q 110 w) l0 2).toInt.toNat - _ = 0
    rw [sgNw_I, if_neg hlq, hsz]
    show 5 * 0 - _ = 0
    omega
  omega
theorem dJx4a65c_grow_92f84_0 : decode cJx4a65c_grow_92f84 0 = .ok (.aload_n 0, 1) := by decide +kernel
theorem dJx4a65c_grow_92f84_1 : decode cJx4a65c_grow_92f84 1 = .ok (.getfield 9, 3) := by decide +kernel
theorem dJx4a65c_grow_92f84_4 : decode cJx4a65c_grow_92f84 4 = .ok (.arraylength, 1) := by decide +kernel
theorem dJx4a65c_grow_92f84_5 : decode cJx4a65c_grow_92f84 5 = .ok (.istore_n 2, 1) := by decide +kernel
theorem dJx4a65c_grow_92f84_6 : decode cJx4a65c_grow_92f84 6 = .ok (.iload_n 2, 1) := by decide +kernel
theorem dJx4a65c_grow_92f84_7 : decode cJx4a65c_grow_92f84 7 = .ok (.ifCond .gt 13, 3) := by decide +kernel
theorem dJx4a65c_grow_92f84_10 : decode cJx4a65c_grow_92f84 10 = .ok (.aload_n 0, 1) := by decide +kernel
theorem dJx4a65c_grow_92f84_11 : decode cJx4a65c_grow_92f84 11 = .ok (.getfield 9, 3) := by decide +kernel
theorem dJx4a65c_grow_92f84_14 : decode cJx4a65c_grow_92f84 14 = .ok (.getstatic 39, 3) := by decide +kernel
theorem dJx4a65c_grow_92f84_17 : decode cJx4a65c_grow_92f84 17 = .ok (.if_acmp .eq 28, 3) := by decide +kernel
theorem dJx4a65c_grow_92f84_20 : decode cJx4a65c_grow_92f84 20 = .ok (.iload_n 2, 1) := by decide +kernel
theorem dJx4a65c_grow_92f84_21 : decode cJx4a65c_grow_92f84 21 = .ok (.iload_n 1, 1) := by decide +kernel
theorem dJx4a65c_grow_92f84_22 : decode cJx4a65c_grow_92f84 22 = .ok (.iload_n 2, 1) := by decide +kernel
theorem dJx4a65c_grow_92f84_23 : decode cJx4a65c_grow_92f84 23 = .ok (.isub, 1) := by decide +kernel
theorem dJx4a65c_grow_92f84_24 : decode cJx4a65c_grow_92f84 24 = .ok (.iload_n 2, 1) := by decide +kernel
theorem dJx4a65c_grow_92f84_25 : decode cJx4a65c_grow_92f84 25 = .ok (.iconst 1, 1) := by decide +kernel
theorem dJx4a65c_grow_92f84_26 : decode cJx4a65c_grow_92f84 26 = .ok (.ishr, 1) := by decide +kernel
theorem dJx4a65c_grow_92f84_27 : decode cJx4a65c_grow_92f84 27 = .ok (.invokestatic 73, 3) := by decide +kernel
theorem dJx4a65c_grow_92f84_30 : decode cJx4a65c_grow_92f84 30 = .ok (.istore_n 3, 1) := by decide +kernel
theorem dJx4a65c_grow_92f84_31 : decode cJx4a65c_grow_92f84 31 = .ok (.aload_n 0, 1) := by decide +kernel
theorem dJx4a65c_grow_92f84_32 : decode cJx4a65c_grow_92f84 32 = .ok (.aload_n 0, 1) := by decide +kernel
theorem dJx4a65c_grow_92f84_33 : decode cJx4a65c_grow_92f84 33 = .ok (.getfield 9, 3) := by decide +kernel
theorem dJx4a65c_grow_92f84_36 : decode cJx4a65c_grow_92f84 36 = .ok (.iload_n 3, 1) := by decide +kernel
theorem dJx4a65c_grow_92f84_37 : decode cJx4a65c_grow_92f84 37 = .ok (.invokestatic 66, 3) := by decide +kernel
theorem dJx4a65c_grow_92f84_40 : decode cJx4a65c_grow_92f84 40 = .ok (.dup_x1, 1) := by decide +kernel
theorem dJx4a65c_grow_92f84_41 : decode cJx4a65c_grow_92f84 41 = .ok (.putfield 9, 3) := by decide +kernel
theorem dJx4a65c_grow_92f84_44 : decode cJx4a65c_grow_92f84 44 = .ok (.areturn, 1) := by decide +kernel
set_option maxRecDepth 100000 in
set_option maxHeartbeats 4000000 in
theorem m_growA (l : Launch) (D : va_G) (cy : Nat → ClassId) {eda ca : Nat} {ia : Nat → Nat} {σ : SG} {l0 r sz1 : Nat} (hL : sgLs σ l0 r sz1) (hel : ∀ j y : Nat, sgR σ r j = some y → sgK ia σ y) (mn : Int32) {w c0 : Nat} (hp : ∀ q, sgT σ q = 0 → w + sgPot (sgPR (sgCp (sgNw σ q 110 w) r q 0 0 (min (sgN σ r) w)) l0 1 (some q)) ≤ c0 + sgPot σ) (hw9 : w < 1000000) (hm1 : (sgN σ r : Int) < mn.toInt) (hm2 : mn.toInt < 1000000) (hw : (w : Int) = max mn.toInt ((sgN σ r : Int) + (sgN σ r : Int) / 2)) (sz : Nat) : sgMp l D cy eda ca ia σ sz yJx4a65c_grow_92f84 (Cond.code yJx4a65c_grow_92f84 cJx4a65c_grow_92f84 4 (some (.array (.object "java/lang/Object"))) :: mWall) 3 84 1 (w) (c0) [.ref l0, .int mn] (fun v σ2 => ∃ q : Nat, v = some (.ref q) ∧ sgT σ q = 0 ∧ sgPR (sgCp (sgNw σ q 110 w) r q 0 0 (min (sgN σ r) w)) l0 1 (some q) = σ2) := by
  refine sg_ofWp (cc := cJx4a65c_grow_92f84) (maxL := 4) (ret := (some (.array (.object "java/lang/Object")))) (by decide) rfl (Nat.le_of_ble_eq_true rfl) (lv := [(0, .ref l0), (1, .int mn)]) rfl (fun p e s m below meth c ls H N hN0 hrt hnm F hB hl => ?_) sz
  have hx := F.1.1
  have hb := F.1.2.1
  have hown := F.1.2.2.2.1
  subst hN0
  obtain ⟨ht, hr1, htr, hsz, hle, hN9⟩ := id hL
  have hlr : r ≠ l0 := fun z => by rw [z, ht] at htr; exact absurd htr (by decide)
  refine lv_aload_n hx hb dJx4a65c_grow_92f84_0 rfl (lv_at hl 0 rfl) ?_
  refine gr_Jx4a65c_9 F hB dJx4a65c_grow_92f84_1 (by assumption) hr1 ?_
  refine sg_alen 10 hx hb F.2.1 hB.1 rfl dJx4a65c_grow_92f84_4 (by assumption) ?_
  refine lv_istore_n (lv' := [(2, .int _), (0, .ref _), (1, .int _)]) hx hb dJx4a65c_grow_92f84_5 rfl hl (by decide) rfl (fun ls hl => ?_)
  refine lv_iload_n hx hb dJx4a65c_grow_92f84_6 rfl (lv_at hl 0 rfl) ?_
  refine lv_if_gt (tgt := 20) hx hb dJx4a65c_grow_92f84_7 (by decide) (fun c7 => ?_) (fun c7 => ?_)
  · refine lv_iload_n hx hb dJx4a65c_grow_92f84_20 rfl (lv_at hl 0 rfl) ?_
    refine lv_iload_n hx hb dJx4a65c_grow_92f84_21 rfl (lv_at hl 2 rfl) ?_
    refine lv_iload_n hx hb dJx4a65c_grow_92f84_22 rfl (lv_at hl 0 rfl) ?_
    refine lv_isub hx hb dJx4a65c_grow_92f84_23 ?_
    refine lv_iload_n hx hb dJx4a65c_grow_92f84_24 rfl (lv_at hl 0 rfl) ?_
    refine lv_iconst (v := 1) hx hb dJx4a65c_grow_92f84_25 (by decide) ?_
    refine lv_ishr hx hb dJx4a65c_grow_92f84_26 ?_
    have e1 : (nI (sgN σ r)).toInt = sgN σ r := nI_toInt (by omega)
    have e2 : (mn - nI (sgN σ r)).toInt = mn.toInt - sgN σ r := by rw [i_sub (by rw [e1]; omega) (by rw [e1]; omega), e1]
    have e3 := i_shr1 (nI (sgN σ r))
    rw [e1] at e3
    refine sg_callSp F hB (m_newLen l D cy (nI (sgN σ r)) (mn - nI (sgN σ r)) (nI (sgN σ r) >>> ((1 : Int32) &&& 31)) (w := w) (by rw [e1, e2, e3]; omega) (by omega) (by omega) _) (va_cwS 3 F.1.2.2.2.2 (mgS2 (mm_2 _ (List.mem_of_getElem? (i := 10) rfl)) (mm_2 _ (List.mem_of_getElem? (i := 11) rfl)) (mm_1 _ (List.mem_of_getElem? (i := 29) rfl)) (mm_1 _ (List.mem_of_getElem? (i := 22) rfl))) rfl rfl rfl ⟨by decide, by decide, by decide +kernel⟩ ⟨Nat.le_of_ble_eq_true rfl, Nat.le_of_ble_eq_true rfl⟩) rfl hl.1 rfl (Nat.le_of_ble_eq_true rfl) dJx4a65c_grow_92f84_27 (Nat.le_of_ble_eq_true rfl) (show _ ≤ w by omega)  (fun H locs v σ27 N hG hXa hX27 hP hNN hNm => ?_)
    obtain ⟨r3, rfl, rfl, hr3⟩ := hP
    have hBn := (⟨hG, hXa, by omega⟩ : sgB D cy s σ _ H locs N 0)
    clear hB; have hB := hBn; clear hBn
    refine lv_istore_n (lv' := [(3, .int _), (2, .int _), (0, .ref _), (1, .int _)]) hx hb dJx4a65c_grow_92f84_30 rfl hl (by decide) rfl (fun ls hl => ?_)
    refine lv_aload_n hx hb dJx4a65c_grow_92f84_31 rfl (lv_at hl 2 rfl) ?_
    refine lv_aload_n hx hb dJx4a65c_grow_92f84_32 rfl (lv_at hl 2 rfl) ?_
    refine gr_Jx4a65c_9 F hB dJx4a65c_grow_92f84_33 (by assumption) hr1 ?_
    refine lv_iload_n hx hb dJx4a65c_grow_92f84_36 rfl (lv_at hl 0 rfl) ?_
    refine sg_callSp F hB (m_copyOf l D cy htr rfl (by omega) hr3 (by omega) (fun j y _ _ => hel j y) _) (va_cwS 2 F.1.2.2.2.2 (mgS2 (mm_2 _ (List.mem_of_getElem? (i := 12) rfl)) (mm_2 _ (List.mem_of_getElem? (i := 13) rfl)) (mm_2 _ (List.mem_of_getElem? (i := 7) rfl)) (mm_2 _ (List.mem_of_getElem? (i := 0) rfl))) rfl rfl rfl ⟨by decide, by decide, by decide +kernel⟩ ⟨Nat.le_of_ble_eq_true rfl, Nat.le_of_ble_eq_true rfl⟩) rfl hl.1 rfl (Nat.le_of_ble_eq_true rfl) dJx4a65c_grow_92f84_37 (Nat.le_of_ble_eq_true rfl) (show _ ≤ w by omega)  (fun H locs v σ37 N hG hXa hX37 hP hNN hNm => ?_)
    obtain ⟨q37, rfl, hq, rfl⟩ := hP
    have hBn := (⟨hG, hXa, by omega⟩ : sgB D cy s σ _ H locs N w)
    clear hB; have hB := hBn; clear hBn
    refine lv_dup_x1 hx hb dJx4a65c_grow_92f84_40 rfl rfl ?_
    have hlq : l0 ≠ q37 := fun z => by rw [z, hq] at ht; exact absurd ht (by decide)
    refine pg_Jx4a65c_9 (x := some q37) F hB dJx4a65c_grow_92f84_41 (by show sgT (sgNw σ q37 110 w) l0 = 5; rw [sgNw_T, if_neg hlq]; exact ht) (fun H locs hG => ?_)
    have hBn := (⟨hG, hB.2.1, by have := hp q37 hq; omega⟩ : sgB D cy s σ _ H locs N c0)
    clear hB; have hB := hBn; clear hBn
    exact sg_aretp F hB hrt (Or.inr ⟨_, rfl⟩) (Or.inr ⟨_, rfl⟩) dJx4a65c_grow_92f84_44 (by decide) (Nat.le_refl _) (by omega) (⟨q37, rfl, hq, rfl⟩)
  · refine lv_aload_n hx hb dJx4a65c_grow_92f84_10 rfl (lv_at hl 1 rfl) ?_
    refine gr_Jx4a65c_9 F hB dJx4a65c_grow_92f84_11 (by assumption) hr1 ?_
    refine va_gets hx hb F.2.2.2.1.1 hB.1.2.2 hown (F.1.2.2.2.2 _ (List.mem_cons_of_mem _ (mm_0 _ (List.mem_of_getElem? (i := 27) rfl)))) (fun _ h9 => h9) dJx4a65c_grow_92f84_14 ?_
    have heda := sg_eda F hB
    have hre : r ≠ eda := fun z => by rw [z, heda] at htr; exact absurd htr (by decide)
    refine lv_acmp_eq (rx := some r) (ry := some eda) (tgt := 45) hx hb dJx4a65c_grow_92f84_17 (by decide) (fun z => absurd (Option.some.inj z) hre) (fun _ => ?_)
    refine lv_iload_n hx hb dJx4a65c_grow_92f84_20 rfl (lv_at hl 0 rfl) ?_
    refine lv_iload_n hx hb dJx4a65c_grow_92f84_21 rfl (lv_at hl 2 rfl) ?_
    refine lv_iload_n hx hb dJx4a65c_grow_92f84_22 rfl (lv_at hl 0 rfl) ?_
    refine lv_isub hx hb dJx4a65c_grow_92f84_23 ?_
    refine lv_iload_n hx hb dJx4a65c_grow_92f84_24 rfl (lv_at hl 0 rfl) ?_
    refine lv_iconst (v := 1) hx hb dJx4a65c_grow_92f84_25 (by decide) ?_
    refine lv_ishr hx hb dJx4a65c_grow_92f84_26 ?_
    have e1 : (nI (sgN σ r)).toInt = sgN σ r := nI_toInt (by omega)
    have e2 : (mn - nI (sgN σ r)).toInt = mn.toInt - sgN σ r := by rw [i_sub (by rw [e1]; omega) (by rw [e1]; omega), e1]
    have e3 := i_shr1 (nI (sgN σ r))
    rw [e1] at e3
    refine sg_callSp F hB (m_newLen l D cy (nI (sgN σ r)) (mn - nI (sgN σ r)) (nI (sgN σ r) >>> ((1 : Int32) &&& 31)) (w := w) (by rw [e1, e2, e3]; omega) (by omega) (by omega) _) (va_cwS 3 F.1.2.2.2.2 (mgS2 (mm_2 _ (List.mem_of_getElem? (i := 10) rfl)) (mm_2 _ (List.mem_of_getElem? (i := 11) rfl)) (mm_1 _ (List.mem_of_getElem? (i := 29) rfl)) (mm_1 _ (List.mem_of_getElem? (i := 22) rfl))) rfl rfl rfl ⟨by decide, by decide, by decide +kernel⟩ ⟨Nat.le_of_ble_eq_true rfl, Nat.le_of_ble_eq_true rfl⟩) rfl hl.1 rfl (Nat.le_of_ble_eq_true rfl) dJx4a65c_grow_92f84_27 (Nat.le_of_ble_eq_true rfl) (show _ ≤ w by omega)  (fun H locs v σ27 N hG hXa hX27 hP hNN hNm => ?_)
    obtain ⟨r3, rfl, rfl, hr3⟩ := hP
    have hBn := (⟨hG, hXa, by omega⟩ : sgB D cy s σ _ H locs N 0)
    clear hB; have hB := hBn; clear hBn
    refine lv_istore_n (lv' := [(3, .int _), (2, .int _), (0, .ref _), (1, .int _)]) hx hb dJx4a65c_grow_92f84_30 rfl hl (by decide) rfl (fun ls hl => ?_)
    refine lv_aload_n hx hb dJx4a65c_grow_92f84_31 rfl (lv_at hl 2 rfl) ?_
    refine lv_aload_n hx hb dJx4a65c_grow_92f84_32 rfl (lv_at hl 2 rfl) ?_
    refine gr_Jx4a65c_9 F hB dJx4a65c_grow_92f84_33 (by assumption) hr1 ?_
    refine lv_iload_n hx hb dJx4a65c_grow_92f84_36 rfl (lv_at hl 0 rfl) ?_
    refine sg_callSp F hB (m_copyOf l D cy htr rfl (by omega) hr3 (by omega) (fun j y _ _ => hel j y) _) (va_cwS 2 F.1.2.2.2.2 (mgS2 (mm_2 _ (List.mem_of_getElem? (i := 12) rfl)) (mm_2 _ (List.mem_of_getElem? (i := 13) rfl)) (mm_2 _ (List.mem_of_getElem? (i := 7) rfl)) (mm_2 _ (List.mem_of_getElem? (i := 0) rfl))) rfl rfl rfl ⟨by decide, by decide, by decide +kernel⟩ ⟨Nat.le_of_ble_eq_true rfl, Nat.le_of_ble_eq_true rfl⟩) rfl hl.1 rfl (Nat.le_of_ble_eq_true rfl) dJx4a65c_grow_92f84_37 (Nat.le_of_ble_eq_true rfl) (show _ ≤ w by omega)  (fun H locs v σ37 N hG hXa hX37 hP hNN hNm => ?_)
    obtain ⟨q37, rfl, hq, rfl⟩ := hP
    have hBn := (⟨hG, hXa, by omega⟩ : sgB D cy s σ _ H locs N w)
    clear hB; have hB := hBn; clear hBn
    refine lv_dup_x1 hx hb dJx4a65c_grow_92f84_40 rfl rfl ?_
    have hlq : l0 ≠ q37 := fun z => by rw [z, hq] at ht; exact absurd ht (by decide)
    refine pg_Jx4a65c_9 (x := some q37) F hB dJx4a65c_grow_92f84_41 (by show sgT (sgNw σ q37 110 w) l0 = 5; rw [sgNw_T, if_neg hlq]; exact ht) (fun H locs hG => ?_)
    have hBn := (⟨hG, hB.2.1, by have := hp q37 hq; omega⟩ : sgB D cy s σ _ H locs N c0)
    clear hB; have hB := hBn; clear hBn
    exact sg_aretp F hB hrt (Or.inr ⟨_, rfl⟩) (Or.inr ⟨_, rfl⟩) dJx4a65c_grow_92f84_44 (by decide) (Nat.le_refl _) (by omega) (⟨q37, rfl, hq, rfl⟩)
theorem dJx4a65c_grow_d5877_0 : decode cJx4a65c_grow_d5877 0 = .ok (.aload_n 0, 1) := by decide +kernel
theorem dJx4a65c_grow_d5877_1 : decode cJx4a65c_grow_d5877 1 = .ok (.aload_n 0, 1) := by decide +kernel
theorem dJx4a65c_grow_d5877_2 : decode cJx4a65c_grow_d5877 2 = .ok (.getfield 48, 3) := by decide +kernel
theorem dJx4a65c_grow_d5877_5 : decode cJx4a65c_grow_d5877 5 = .ok (.iconst 1, 1) := by decide +kernel
theorem dJx4a65c_grow_d5877_6 : decode cJx4a65c_grow_d5877 6 = .ok (.iadd, 1) := by decide +kernel
theorem dJx4a65c_grow_d5877_7 : decode cJx4a65c_grow_d5877 7 = .ok (.invokevirtual 69, 3) := by decide +kernel
theorem dJx4a65c_grow_d5877_10 : decode cJx4a65c_grow_d5877 10 = .ok (.areturn, 1) := by decide +kernel
set_option maxRecDepth 100000 in
set_option maxHeartbeats 4000000 in
theorem m_grow0A (l : Launch) (D : va_G) (cy : Nat → ClassId) {eda ca : Nat} {ia : Nat → Nat} {σ : SG} {l0 r sz1 : Nat} (hL : sgLs σ l0 r sz1) (hel : ∀ j y : Nat, sgR σ r j = some y → sgK ia σ y) {w c0 : Nat} (hp : ∀ q, sgT σ q = 0 → w + sgPot (sgPR (sgCp (sgNw σ q 110 w) r q 0 0 (min (sgN σ r) w)) l0 1 (some q)) ≤ c0 + sgPot σ) (hw9 : w < 1000000) (hm2 : sgN σ r < 900000) (hw : (w : Int) = max ((sgN σ r : Int) + 1) ((sgN σ r : Int) + (sgN σ r : Int) / 2)) (hf : sz1 = sgN σ r) (sz : Nat) : sgMp l D cy eda ca ia σ sz yJx4a65c_grow_d5877 (Cond.code yJx4a65c_grow_d5877 cJx4a65c_grow_d5877 1 (some (.array (.object "java/lang/Object"))) :: mWall) 4 107 1 (w) (c0) [.ref l0] (fun v σ2 => ∃ q : Nat, v = some (.ref q) ∧ sgT σ q = 0 ∧ sgPR (sgCp (sgNw σ q 110 w) r q 0 0 (min (sgN σ r) w)) l0 1 (some q) = σ2) := by
  refine sg_ofWp (cc := cJx4a65c_grow_d5877) (maxL := 1) (ret := (some (.array (.object "java/lang/Object")))) (by decide) rfl (Nat.le_of_ble_eq_true rfl) (lv := [(0, .ref l0)]) rfl (fun p e s m below meth c ls H N hN0 hrt hnm F hB hl => ?_) sz
  have hx := F.1.1
  have hb := F.1.2.1
  have hown := F.1.2.2.2.1
  subst hN0
  obtain ⟨ht, hr1, htr, hsz, hle, hN9⟩ := id hL
  have hlr : r ≠ l0 := fun z => by rw [z, ht] at htr; exact absurd htr (by decide)
  refine lv_aload_n hx hb dJx4a65c_grow_d5877_0 rfl (lv_at hl 0 rfl) ?_
  refine lv_aload_n hx hb dJx4a65c_grow_d5877_1 rfl (lv_at hl 0 rfl) ?_
  refine gf_Jx4a65c_48 F hB dJx4a65c_grow_d5877_2 (by assumption) ?_
  refine lv_iconst (v := 1) hx hb dJx4a65c_grow_d5877_5 (by decide) ?_
  refine lv_iadd hx hb dJx4a65c_grow_d5877_6 ?_
  have e9 : (sgI σ l0 2 + 1).toInt = (sgN σ r : Int) + 1 := by have h9 := i_add (x := sgI σ l0 2) (y := 1) (by show _ ≤ _ + (1 : Int); omega) (by show _ + (1 : Int) ≤ _; omega); rw [h9, hsz, hf]; rfl
  refine sg_callVp (ci := 4) F hB (m_growA l D cy hL hel (sgI σ l0 2 + 1) hp hw9 (by omega) (by omega) (by rw [e9]; omega) _) (cwV 1 F.1.2.2.2.2 (mgV (mm_2 _ (List.mem_of_getElem? (i := 16) rfl)) (mm_2 _ (List.mem_of_getElem? (i := 17) rfl)) (mm_2 _ (List.mem_of_getElem? (i := 18) rfl)) (mm_0 _ (List.mem_of_getElem? (i := 35) rfl)) (mm_2 _ (List.mem_of_getElem? (i := 14) rfl))) rfl rfl rfl ⟨rfl, by decide, by decide, by decide +kernel⟩ ⟨Nat.le_of_ble_eq_true rfl, Nat.le_of_ble_eq_true rfl⟩) rfl rfl (by decide) rfl hl.1 rfl (Nat.le_of_ble_eq_true rfl) dJx4a65c_grow_d5877_7 (Nat.le_of_ble_eq_true rfl) (show _ ≤ w by omega) (by assumption) (fun H locs v σ7 N hG hXa hX7 hP hNN hNm => ?_)
  obtain ⟨q, rfl, hq, rfl⟩ := hP
  have hBn := (⟨hG, hXa, by omega⟩ : sgB D cy s σ _ H locs N c0)
  clear hB; have hB := hBn; clear hBn
  exact sg_aretp F hB hrt (Or.inr ⟨_, rfl⟩) (Or.inr ⟨_, rfl⟩) dJx4a65c_grow_d5877_10 (by decide) (Nat.le_refl _) (by omega) (⟨q, rfl, hq, rfl⟩)
theorem m_ltn {sz N : Nat} {x : Int32} (hle : sz ≤ N) (hN9 : N < 1000000) (hx0 : x.toInt = sz) (c3 : ¬ x = nI N) : x.toInt < (N : Int) := by
  by_cases e : sz = N
  · exact absurd (i_eq.mpr (by rw [hx0, nI_toInt (by omega), e])) c3
  · omega
theorem m_adA1 {σ : SG} {l0 r sz e0 : Nat} {x : Int32} (hL : sgLs σ l0 r sz) (hlr : r ≠ l0) (hlt : sz < sgN σ r) (hx0 : x.toInt = sz) (ex : (x + 1).toInt = (sz : Int) + 1) : sgAd l0 r e0 sz σ (sgPI (sgPR σ r x.toInt.toNat (some e0)) l0 2 (x + 1)) := by
  obtain ⟨ht, hr1, htr, hsz, hle, hN9⟩ := id hL
  have ez : x.toInt.toNat = sz := by omega
  rw [ez]
  refine ⟨r, Or.inl rfl, ⟨ht, ?_, htr, ?_, hlt, hN9⟩, ?_, fun j hj => ?_, fun j y hy => ?_, fun z => absurd rfl z, fun a _ => ⟨rfl, rfl⟩, fun a h => Or.inl h, fun a k _ => ⟨rfl, fun ha => ⟨?_, fun h2 => ?_⟩⟩⟩
  · show (if l0 = r ∧ 1 = sz then some e0 else sgR σ l0 1) = some r
    rw [if_neg (fun z => hlr z.1.symm)]; exact hr1
  · show (if l0 = l0 ∧ 2 = 2 then x + 1 else _ : Int32).toInt = _
    rw [if_pos ⟨rfl, rfl⟩, ex]; rfl
  · show (if r = r ∧ sz = sz then some e0 else _) = _
    rw [if_pos ⟨rfl, rfl⟩]
  · show (if r = r ∧ j = sz then some e0 else sgR σ r j) = _
    rw [if_neg (fun z => by omega)]
  · have hy : (if r = r ∧ j = sz then some e0 else sgR σ r j) = some y := hy
    by_cases q : r = r ∧ j = sz
    · rw [if_pos q] at hy; cases hy; exact Or.inl rfl
    · rw [if_neg q] at hy; exact Or.inr ⟨j, htr, hy⟩
  · show (if a = l0 ∧ k = 2 then x + 1 else sgI σ a k) = _
    rw [if_neg (fun z => ha z.1)]
  · show (if a = r ∧ k = sz then some e0 else sgR σ a k) = _
    rw [if_neg (fun z => h2 z.1)]
theorem m_adA2 {σ : SG} {l0 r sz e0 q w : Nat} {x : Int32} (hL : sgLs σ l0 r sz) (hq : sgT σ q = 0) (hf : sz = sgN σ r) (hw : sz < w) (hw2 : w < 1000000) (hx0 : x.toInt = sz) (ex : (x + 1).toInt = (sz : Int) + 1) : sgAd l0 r e0 sz σ (sgPI (sgPR (sgPR (sgCp (sgNw σ q 110 w) r q 0 0 (min (sgN σ r) w)) l0 1 (some q)) q x.toInt.toNat (some e0)) l0 2 (x + 1)) := by
  obtain ⟨ht, hr1, htr, hsz, hle, hN9⟩ := id hL
  have ez : x.toInt.toNat = sz := by omega
  have hlq : l0 ≠ q := fun z => by rw [z, hq] at ht; exact absurd ht (by decide)
  have hrq : r ≠ q := fun z => by rw [z, hq] at htr; exact absurd htr (by decide)
  rw [ez]
  have hR : ∀ j, sgR (sgPI (sgPR (sgPR (sgCp (sgNw σ q 110 w) r q 0 0 (min (sgN σ r) w)) l0 1 (some q)) q sz (some e0)) l0 2 (x + 1)) q j = if j = sz then some e0 else if j < sz then sgR σ r j else none := by
    intro j
    show (if q = q ∧ j = sz then some e0 else if q = l0 ∧ j = 1 then some q else sgR (sgCp (sgNw σ q 110 w) r q 0 0 (min (sgN σ r) w)) q j) = _
    by_cases e : j = sz
    · rw [if_pos ⟨rfl, e⟩, if_pos e]
    · rw [if_neg (fun z => e z.2), if_neg (fun z => hlq z.1.symm), if_neg e, sgCp_R, if_pos rfl]
      unfold va_cpy
      by_cases e2 : j < sz
      · rw [if_pos ⟨Nat.zero_le _, by omega⟩, if_pos e2, sgNw_R, if_neg hrq, show 0 + (j - 0) = j by omega]
      · rw [if_neg (fun z => e2 (by have := z.2; omega)), if_neg e2, sgNw_R, if_pos rfl]
  have hT : ∀ a, sgT (sgNw σ q 110 w) a = if a = q then 110 else sgT σ a := fun a => rfl
  have hN : ∀ a, sgN (sgNw σ q 110 w) a = if a = q then w else sgN σ a := fun a => rfl
  refine ⟨q, Or.inr hq, ⟨?_, ?_, ?_, ?_, ?_, ?_⟩, ?_, fun j hj => ?_, fun j y hy => ?_, fun _ j => ?_, fun a h => ?_, fun a h => ?_, fun a k h => ⟨?_, fun ha => ⟨?_, fun h2 => ?_⟩⟩⟩
  · show sgT (sgNw σ q 110 w) l0 = 5
    rw [hT, if_neg hlq]; exact ht
  · show (if l0 = q ∧ 1 = sz then some e0 else if l0 = l0 ∧ 1 = 1 then some q else _) = some q
    rw [if_neg (fun z => hlq z.1), if_pos ⟨rfl, rfl⟩]
  · show sgT (sgNw σ q 110 w) q = 110
    rw [hT, if_pos rfl]
  · show (if l0 = l0 ∧ 2 = 2 then x + 1 else _ : Int32).toInt = _
    rw [if_pos ⟨rfl, rfl⟩, ex]; rfl
  · show sz + 1 ≤ sgN (sgNw σ q 110 w) q
    rw [hN, if_pos rfl]; omega
  · show sgN (sgNw σ q 110 w) q < 1000000
    rw [hN, if_pos rfl]; exact hw2
  · rw [hR, if_pos rfl]
  · rw [hR, if_neg (by omega), if_pos hj]
  · rw [hR] at hy
    by_cases e : j = sz
    · rw [if_pos e] at hy; cases hy; exact Or.inl rfl
    · rw [if_neg e] at hy
      by_cases e2 : j < sz
      · rw [if_pos e2] at hy; exact Or.inr ⟨j, htr, hy⟩
      · rw [if_neg e2] at hy; cases hy
  · show (if r = q ∧ j = sz then some e0 else if r = l0 ∧ j = 1 then some q else sgR (sgCp (sgNw σ q 110 w) r q 0 0 (min (sgN σ r) w)) r j) = _
    rw [if_neg (fun z => hrq z.1), if_neg (fun z => by rw [z.1, ht] at htr; exact absurd htr (by decide)), sgCp_R, if_neg hrq, sgNw_R, if_neg hrq]
  · have hne : a ≠ q := fun z => h (by rw [z]; exact hq)
    exact ⟨by show sgT (sgNw σ q 110 w) a = _; rw [hT, if_neg hne], by show sgN (sgNw σ q 110 w) a = _; rw [hN, if_neg hne]⟩
  · by_cases e : a = q
    · exact Or.inr e
    · refine Or.inl ?_
      show sgT (sgNw σ q 110 w) a = 0
      rw [hT, if_neg e]; exact h
  · have hne : a ≠ q := fun z => h (by rw [z]; exact hq)
    show sgJ (sgNw σ q 110 w) a k = _
    rw [sgNw_J, if_neg hne]
  · have hne : a ≠ q := fun z => h (by rw [z]; exact hq)
    show (if a = l0 ∧ k = 2 then x + 1 else sgI (sgNw σ q 110 w) a k) = _
    rw [if_neg (fun z => ha z.1), sgNw_I, if_neg hne]
  · have hne : a ≠ q := fun z => h (by rw [z]; exact hq)
    show (if a = q ∧ k = sz then some e0 else if a = l0 ∧ k = 1 then some q else sgR (sgCp (sgNw σ q 110 w) r q 0 0 (min (sgN σ r) w)) a k) = _
    rw [if_neg (fun z => hne z.1), if_neg (fun z => ha z.1), sgCp_R, if_neg hne, sgNw_R, if_neg hne]
theorem dJx4a65c_add_72be8_0 : decode cJx4a65c_add_72be8 0 = .ok (.iload_n 3, 1) := by decide +kernel
theorem dJx4a65c_add_72be8_1 : decode cJx4a65c_add_72be8 1 = .ok (.aload_n 2, 1) := by decide +kernel
theorem dJx4a65c_add_72be8_2 : decode cJx4a65c_add_72be8 2 = .ok (.arraylength, 1) := by decide +kernel
theorem dJx4a65c_add_72be8_3 : decode cJx4a65c_add_72be8 3 = .ok (.if_icmp .ne 8, 3) := by decide +kernel
theorem dJx4a65c_add_72be8_6 : decode cJx4a65c_add_72be8 6 = .ok (.aload_n 0, 1) := by decide +kernel
theorem dJx4a65c_add_72be8_7 : decode cJx4a65c_add_72be8 7 = .ok (.invokevirtual 129, 3) := by decide +kernel
theorem dJx4a65c_add_72be8_10 : decode cJx4a65c_add_72be8 10 = .ok (.astore_n 2, 1) := by decide +kernel
theorem dJx4a65c_add_72be8_11 : decode cJx4a65c_add_72be8 11 = .ok (.aload_n 2, 1) := by decide +kernel
theorem dJx4a65c_add_72be8_12 : decode cJx4a65c_add_72be8 12 = .ok (.iload_n 3, 1) := by decide +kernel
theorem dJx4a65c_add_72be8_13 : decode cJx4a65c_add_72be8 13 = .ok (.aload_n 1, 1) := by decide +kernel
theorem dJx4a65c_add_72be8_14 : decode cJx4a65c_add_72be8 14 = .ok (.aastore, 1) := by decide +kernel
theorem dJx4a65c_add_72be8_15 : decode cJx4a65c_add_72be8 15 = .ok (.aload_n 0, 1) := by decide +kernel
theorem dJx4a65c_add_72be8_16 : decode cJx4a65c_add_72be8 16 = .ok (.iload_n 3, 1) := by decide +kernel
theorem dJx4a65c_add_72be8_17 : decode cJx4a65c_add_72be8 17 = .ok (.iconst 1, 1) := by decide +kernel
theorem dJx4a65c_add_72be8_18 : decode cJx4a65c_add_72be8 18 = .ok (.iadd, 1) := by decide +kernel
theorem dJx4a65c_add_72be8_19 : decode cJx4a65c_add_72be8 19 = .ok (.putfield 48, 3) := by decide +kernel
theorem dJx4a65c_add_72be8_22 : decode cJx4a65c_add_72be8 22 = .ok (.return_, 1) := by decide +kernel
set_option maxRecDepth 100000 in
set_option maxHeartbeats 4000000 in
theorem m_add3A (l : Launch) (D : va_G) (cy : Nat → ClassId) {eda ca : Nat} {ia : Nat → Nat} {σ : SG} {l0 r sz1 : Nat} (hL : sgLs σ l0 r sz1) (hel : ∀ j y : Nat, sgR σ r j = some y → sgK ia σ y) (e0 : Nat) (hk0 : sgK ia σ e0) (x : Int32) (hx0 : x.toInt = sz1) (hs9 : sz1 < 100000) (sz : Nat) : sgM l D cy eda ca ia σ sz yJx4a65c_add_72be8 (Cond.code yJx4a65c_add_72be8 cJx4a65c_add_72be8 4 none :: mWall) 5 127 1 15 [.ref l0, .ref e0, .ref r, .int x] (fun v σ2 => v = none ∧ sgAd l0 r e0 sz1 σ σ2) := by
  refine sg_ofW (cc := cJx4a65c_add_72be8) (maxL := 4) (ret := none) (by decide) rfl (Nat.le_of_ble_eq_true rfl) (lv := [(0, .ref l0), (1, .ref e0), (2, .ref r), (3, .int x)]) rfl (fun p e s m below meth c ls H N hrt hnm F hB hl => ?_) sz
  have hx := F.1.1
  have hb := F.1.2.1
  have hown := F.1.2.2.2.1
  have ex : (x + 1).toInt = (sz1 : Int) + 1 := by have h9 := i_add (x := x) (y := 1) (by show _ ≤ _ + (1 : Int); omega) (by show _ + (1 : Int) ≤ _; omega); rw [h9, hx0]; rfl
  obtain ⟨ht, hr1, htr, hsz, hle, hN9⟩ := id hL
  have hlr : r ≠ l0 := fun z => by rw [z, ht] at htr; exact absurd htr (by decide)
  refine lv_iload_n hx hb dJx4a65c_add_72be8_0 rfl (lv_at hl 3 rfl) ?_
  refine lv_aload_n hx hb dJx4a65c_add_72be8_1 rfl (lv_at hl 2 rfl) ?_
  refine sg_alen 10 hx hb F.2.1 hB.1 rfl dJx4a65c_add_72be8_2 (by assumption) ?_
  refine lv_icmp_ne (tgt := 11) hx hb dJx4a65c_add_72be8_3 (by decide) (fun c3 => ?_) (fun c3 => ?_)
  · refine lv_aload_n hx hb dJx4a65c_add_72be8_11 rfl (lv_at hl 2 rfl) ?_
    refine lv_iload_n hx hb dJx4a65c_add_72be8_12 rfl (lv_at hl 3 rfl) ?_
    refine lv_aload_n hx hb dJx4a65c_add_72be8_13 rfl (lv_at hl 1 rfl) ?_
    refine sg_aastO F hB dJx4a65c_add_72be8_14 (by first | exact htr | exact hqt) (by first | exact hk0 | exact hk0b) (by omega) (by first | exact m_ltn hle hN9 hx0 c3 | exact hi9) (by first | omega | exact hi8) (fun H locs hBn => ?_)
    clear hB; have hB := hBn; clear hBn
    refine lv_aload_n hx hb dJx4a65c_add_72be8_15 rfl (lv_at hl 0 rfl) ?_
    refine lv_iload_n hx hb dJx4a65c_add_72be8_16 rfl (lv_at hl 3 rfl) ?_
    refine lv_iconst (v := 1) hx hb dJx4a65c_add_72be8_17 (by decide) ?_
    refine lv_iadd hx hb dJx4a65c_add_72be8_18 ?_
    refine pf_Jx4a65c_48 (d := 5) F hB dJx4a65c_add_72be8_19 (by first | exact ht | exact hlt) (by first | exact sgPot_size (e := 1) (by show (x + 1).toInt.toNat ≤ (sgI σ l0 2).toInt.toNat + 1; rw [ex]; omega) | exact sgPot_size (e := 1) (by show (x + 1).toInt.toNat ≤ (sgI (sgNw σ q7 110 w) l0 2).toInt.toNat + 1; rw [ex, sgNw_I, if_neg hlq]; omega)) (fun H locs hBn => ?_)
    clear hB; have hB := hBn; clear hBn
    exact sg_vret F hB hrt dJx4a65c_add_72be8_22 (by decide) (by decide) (by first | exact ⟨rfl, m_adA1 hL hlr (by have := m_ltn hle hN9 hx0 c3; omega) hx0 ex⟩ | exact ⟨rfl, m_adA2 hL hq hf (by omega) (by omega) hx0 ex⟩)
  · refine lv_aload_n hx hb dJx4a65c_add_72be8_6 rfl (lv_at hl 0 rfl) ?_
    have hc : x = nI (sgN σ r) := c3
    have hf : sz1 = sgN σ r := by rw [hc, nI_toInt (by omega)] at hx0; omega
    obtain ⟨w, hw⟩ : ∃ w : Nat, (w : Int) = max ((sgN σ r : Int) + 1) ((sgN σ r : Int) + (sgN σ r : Int) / 2) := ⟨max (sgN σ r + 1) (sgN σ r + sgN σ r / 2), by omega⟩
    have hpg := sgPot_ge hB.1.1.2 (a := l0) (by rw [ht]; decide)
    rw [sgPot1_Ls hL] at hpg
    have hb2 := hB.2.2
    refine sg_callVp (ci := 4) F hB (m_grow0A l D cy hL hel (w := w) (c0 := 1) (fun q hq => by have := sgPot_grA (w := w) hL hB.1.1.2 hq; omega) (by omega) (by omega) hw hf _) (cwV 0 F.1.2.2.2.2 (mgV (mm_2 _ (List.mem_of_getElem? (i := 20) rfl)) (mm_2 _ (List.mem_of_getElem? (i := 21) rfl)) (mm_2 _ (List.mem_of_getElem? (i := 22) rfl)) (mm_0 _ (List.mem_of_getElem? (i := 35) rfl)) (mm_2 _ (List.mem_of_getElem? (i := 19) rfl))) rfl rfl rfl ⟨rfl, by decide, by decide, by decide +kernel⟩ ⟨Nat.le_of_ble_eq_true rfl, Nat.le_of_ble_eq_true rfl⟩) rfl rfl (by decide) rfl hl.1 rfl (Nat.le_of_ble_eq_true rfl) dJx4a65c_add_72be8_7 (Nat.le_of_ble_eq_true rfl) (show N + w ≤ 15 + sgPot σ by omega) (by assumption) (fun H locs v σ7 N hG hXa hX7 hP hNN hNm => ?_)
    obtain ⟨q7, rfl, hq, rfl⟩ := hP
    have hBn := (⟨hG, hXa, by omega⟩ : sgB D cy s σ _ H locs N 1)
    clear hB; have hB := hBn; clear hBn
    have hlq : l0 ≠ q7 := fun z => by rw [z, hq] at ht; exact absurd ht (by decide)
    have hqt : sgT (sgNw σ q7 110 w) q7 = 110 := by rw [sgNw_T, if_pos rfl]
    have hqn : sgN (sgNw σ q7 110 w) q7 = w := by rw [sgNw_N, if_pos rfl]
    have hi9 : x.toInt < ((sgN (sgNw σ q7 110 w) q7 : Nat) : Int) := by rw [hqn]; omega
    have hi8 : sgN (sgNw σ q7 110 w) q7 < 2147483648 := by rw [hqn]; omega
    have hlt : sgT (sgNw σ q7 110 w) l0 = 5 := by rw [sgNw_T, if_neg hlq]; exact ht
    have hk0b : sgK ia (sgNw σ q7 110 w) e0 := sgK_nw hq hk0
    refine lv_astore_n (lv' := [(2, .ref _), (0, .ref _), (1, .ref _), (3, .int _)]) hx hb dJx4a65c_add_72be8_10 rfl hl (by decide) rfl (fun ls hl => ?_)
    refine lv_aload_n hx hb dJx4a65c_add_72be8_11 rfl (lv_at hl 0 rfl) ?_
    refine lv_iload_n hx hb dJx4a65c_add_72be8_12 rfl (lv_at hl 3 rfl) ?_
    refine lv_aload_n hx hb dJx4a65c_add_72be8_13 rfl (lv_at hl 2 rfl) ?_
    refine sg_aastO F hB dJx4a65c_add_72be8_14 (by first | exact htr | exact hqt) (by first | exact hk0 | exact hk0b) (by omega) (by first | exact m_ltn hle hN9 hx0 c3 | exact hi9) (by first | omega | exact hi8) (fun H locs hBn => ?_)
    clear hB; have hB := hBn; clear hBn
    refine lv_aload_n hx hb dJx4a65c_add_72be8_15 rfl (lv_at hl 1 rfl) ?_
    refine lv_iload_n hx hb dJx4a65c_add_72be8_16 rfl (lv_at hl 3 rfl) ?_
    refine lv_iconst (v := 1) hx hb dJx4a65c_add_72be8_17 (by decide) ?_
    refine lv_iadd hx hb dJx4a65c_add_72be8_18 ?_
    refine pf_Jx4a65c_48 (d := 5) F hB dJx4a65c_add_72be8_19 (by first | exact ht | exact hlt) (by first | exact sgPot_size (e := 1) (by show (x + 1).toInt.toNat ≤ (sgI σ l0 2).toInt.toNat + 1; rw [ex]; omega) | exact sgPot_size (e := 1) (by show (x + 1).toInt.toNat ≤ (sgI (sgNw σ q7 110 w) l0 2).toInt.toNat + 1; rw [ex, sgNw_I, if_neg hlq]; omega)) (fun H locs hBn => ?_)
    clear hB; have hB := hBn; clear hBn
    exact sg_vret F hB hrt dJx4a65c_add_72be8_22 (by decide) (by decide) (by first | exact ⟨rfl, m_adA1 hL hlr (by have := m_ltn hle hN9 hx0 c3; omega) hx0 ex⟩ | exact ⟨rfl, m_adA2 hL hq hf (by omega) (by omega) hx0 ex⟩)
end MM6
