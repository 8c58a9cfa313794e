section MM7
/-- a list: of an array of its own, or the empty one of the JDK's array -/
def sgLz (eda : Nat) (σ : SG) (l0 r sz : Nat) : Prop := sgLs σ l0 r sz ∨ (sgT σ l0 = 5 ∧ sgR σ l0 1 = some r ∧ r = eda ∧ sz = 0 ∧ (sgI σ l0 2).toInt = 0)
theorem sgLs_I0 {σ : SG} {l0 r sz : Nat} {x : Int32} (h : sgLs σ l0 r sz) : sgLs (sgPI σ l0 0 x) l0 r sz := by
  obtain ⟨h1, h2, h3, h4, h5, h6⟩ := h
  exact ⟨h1, h2, h3, by rw [sgI_PI, if_neg (fun z => by cases z.2)]; exact h4, h5, h6⟩
theorem sgAd_I0 {σ σ2 : SG} {l0 r e sz : Nat} {x : Int32} (h : sgAd l0 r e sz (sgPI σ l0 0 x) σ2) : sgAd l0 r e sz σ σ2 := by
  obtain ⟨r2, h1, h2, h3, h4, h5, h9, h6, h7, h8⟩ := h
  refine ⟨r2, h1, h2, h3, h4, h5, h9, h6, h7, fun a k ha => ⟨(h8 a k ha).1, fun hne => ⟨?_, ((h8 a k ha).2 hne).2⟩⟩⟩
  rw [((h8 a k ha).2 hne).1, sgI_PI, if_neg (fun z => hne z.1)]
theorem m_adB {σ : SG} {l0 eda e0 q w : Nat} {x : Int32} (ht : sgT σ l0 = 5) (heq : eda ≠ q) (he0 : sgT σ eda = 0) (hq : sgT σ q = 0) (hw : 0 < w) (hw2 : w < 1000000) (hx0 : x.toInt = 0) (ex : (x + 1).toInt = 1) : sgAd l0 eda e0 0 σ (sgPI (sgPR (sgPR (sgNw σ q 110 w) l0 1 (some q)) q x.toInt.toNat (some e0)) l0 2 (x + 1)) := by
  have ez : x.toInt.toNat = 0 := by omega
  have hlq : l0 ≠ q := fun z => by rw [z, hq] at ht; exact absurd ht (by decide)
  rw [ez]
  have hR : ∀ j, sgR (sgPI (sgPR (sgPR (sgNw σ q 110 w) l0 1 (some q)) q 0 (some e0)) l0 2 (x + 1)) q j = if j = 0 then some e0 else none := by
    intro j
    show (if q = q ∧ j = 0 then some e0 else if q = l0 ∧ j = 1 then some q else sgR (sgNw σ q 110 w) q j) = _
    by_cases e : j = 0
    · rw [if_pos ⟨rfl, e⟩, if_pos e]
    · rw [if_neg (fun z => e z.2), if_neg (fun z => hlq z.1.symm), if_neg e, sgNw_R, if_pos rfl]
  have hT : ∀ a, sgT (sgNw σ q 110 w) a = if a = q then 110 else sgT σ a := fun a => rfl
  have hN : ∀ a, sgN (sgNw σ q 110 w) a = if a = q then w else sgN σ a := fun a => rfl
  refine ⟨q, Or.inr hq, ⟨?_, ?_, ?_, ?_, ?_, ?_⟩, ?_, fun j hj => absurd hj (Nat.not_lt_zero j), fun j y hy => ?_, fun _ j => ?_, fun a h => ?_, fun a h => ?_, fun a k h => ⟨?_, fun ha => ⟨?_, fun h2 => ?_⟩⟩⟩
  · show sgT (sgNw σ q 110 w) l0 = 5
    rw [hT, if_neg hlq]; exact ht
  · show (if l0 = q ∧ 1 = 0 then some e0 else if l0 = l0 ∧ 1 = 1 then some q else _) = some q
    rw [if_neg (fun z => hlq z.1), if_pos ⟨rfl, rfl⟩]
  · show sgT (sgNw σ q 110 w) q = 110
    rw [hT, if_pos rfl]
  · show (if l0 = l0 ∧ 2 = 2 then x + 1 else _ : Int32).toInt = _
    rw [if_pos ⟨rfl, rfl⟩, ex]; rfl
  · show 0 + 1 ≤ sgN (sgNw σ q 110 w) q
    rw [hN, if_pos rfl]; omega
  · show sgN (sgNw σ q 110 w) q < 1000000
    rw [hN, if_pos rfl]; exact hw2
  · rw [hR, if_pos rfl]
  · rw [hR] at hy
    by_cases e : j = 0
    · rw [if_pos e] at hy; cases hy; exact Or.inl rfl
    · rw [if_neg e] at hy; cases hy
  · show (if eda = q ∧ j = 0 then some e0 else if eda = l0 ∧ j = 1 then some q else sgR (sgNw σ q 110 w) eda j) = _
    rw [if_neg (fun z => heq z.1), if_neg (fun z => by rw [z.1, ht] at he0; exact absurd he0 (by decide)), sgNw_R, if_neg heq]
  · have hne : a ≠ q := fun z => h (by rw [z]; exact hq)
    exact ⟨by show sgT (sgNw σ q 110 w) a = _; rw [hT, if_neg hne], by show sgN (sgNw σ q 110 w) a = _; rw [hN, if_neg hne]⟩
  · by_cases e : a = q
    · exact Or.inr e
    · refine Or.inl ?_
      show sgT (sgNw σ q 110 w) a = 0
      rw [hT, if_neg e]; exact h
  · have hne : a ≠ q := fun z => h (by rw [z]; exact hq)
    show sgJ (sgNw σ q 110 w) a k = _
    rw [sgNw_J, if_neg hne]
  · have hne : a ≠ q := fun z => h (by rw [z]; exact hq)
    show (if a = l0 ∧ k = 2 then x + 1 else sgI (sgNw σ q 110 w) a k) = _
    rw [if_neg (fun z => ha z.1), sgNw_I, if_neg hne]
  · have hne : a ≠ q := fun z => h (by rw [z]; exact hq)
    show (if a = q ∧ k = 0 then some e0 else if a = l0 ∧ k = 1 then some q else sgR (sgNw σ q 110 w) a k) = _
    rw [if_neg (fun z => hne z.1), if_neg (fun z => ha z.1), sgNw_R, if_neg hne]
theorem sg_edaN {p : Program} {s : State} {m : MethodId} {args : Array Value} {meth : Method} {c : Code} {cc : ByteArray} {nL : Nat} {own : String} {Ts : List Cond} {D : va_G} {cy : Nat → ClassId} {eda ca : Nat} {ia : Nat → Nat} {σ0 : SG} {q : Nat} (F : sgFx p s m args meth c cc nL own Ts D cy eda ca ia σ0) (h : s.heap.size ≤ q) : eda ≠ q := by
  obtain ⟨cell, h1, -⟩ := F.2.2.2.1.2.1
  have := (Array.getElem?_eq_some_iff.mp h1).1
  omega
theorem dJx4a65c_grow_92f84_45 : decode cJx4a65c_grow_92f84 45 = .ok (.aload_n 0, 1) := by decide +kernel
theorem dJx4a65c_grow_92f84_46 : decode cJx4a65c_grow_92f84 46 = .ok (.bipush 10, 2) := by decide +kernel
theorem dJx4a65c_grow_92f84_48 : decode cJx4a65c_grow_92f84 48 = .ok (.iload_n 1, 1) := by decide +kernel
theorem dJx4a65c_grow_92f84_49 : decode cJx4a65c_grow_92f84 49 = .ok (.invokestatic 79, 3) := by decide +kernel
theorem dJx4a65c_grow_92f84_52 : decode cJx4a65c_grow_92f84 52 = .ok (.anewarray 7, 3) := by decide +kernel
theorem dJx4a65c_grow_92f84_55 : decode cJx4a65c_grow_92f84 55 = .ok (.dup_x1, 1) := by decide +kernel
theorem dJx4a65c_grow_92f84_56 : decode cJx4a65c_grow_92f84 56 = .ok (.putfield 9, 3) := by decide +kernel
theorem dJx4a65c_grow_92f84_59 : decode cJx4a65c_grow_92f84 59 = .ok (.areturn, 1) := by decide +kernel
set_option maxRecDepth 100000 in
set_option maxHeartbeats 4000000 in
theorem m_growB (l : Launch) (D : va_G) (cy : Nat → ClassId) {eda ca : Nat} {ia : Nat → Nat} {σ : SG} {l0 : Nat} (ht : sgT σ l0 = 5) (hr1 : sgR σ l0 1 = some eda) (hsz : (sgI σ l0 2).toInt = 0) (mn : Int32) {w : Nat} (hm2 : mn.toInt < 1000000) (hw : (w : Int) = max 10 mn.toInt) (sz : Nat) : sgMp l D cy eda ca ia σ sz yJx4a65c_grow_92f84 (Cond.code yJx4a65c_grow_92f84 cJx4a65c_grow_92f84 4 (some (.array (.object "java/lang/Object"))) :: mWall) 1 15 1 (w) (w) [.ref l0, .int mn] (fun v σ2 => ∃ q : Nat, v = some (.ref q) ∧ eda ≠ q ∧ sgT σ q = 0 ∧ sgPR (sgNw σ q 110 w) l0 1 (some q) = σ2) := by
  refine sg_ofWp (cc := cJx4a65c_grow_92f84) (maxL := 4) (ret := (some (.array (.object "java/lang/Object")))) (by decide) rfl (Nat.le_of_ble_eq_true rfl) (lv := [(0, .ref l0), (1, .int mn)]) rfl (fun p e s m below meth c ls H N hN0 hrt hnm F hB hl => ?_) sz
  have hx := F.1.1
  have hb := F.1.2.1
  have hown := F.1.2.2.2.1
  subst hN0
  have hB0 := hB
  refine lv_aload_n hx hb dJx4a65c_grow_92f84_0 rfl (lv_at hl 0 rfl) ?_
  refine gr_Jx4a65c_9 F hB dJx4a65c_grow_92f84_1 (by assumption) hr1 ?_
  refine va_tlen (v := 0) hx hb F.2.2.2.1.2.1 hB.1.2.2 rfl dJx4a65c_grow_92f84_4 ?_
  refine lv_istore_n (lv' := [(2, .int _), (0, .ref _), (1, .int _)]) hx hb dJx4a65c_grow_92f84_5 rfl hl (by decide) rfl (fun ls hl => ?_)
  refine lv_iload_n hx hb dJx4a65c_grow_92f84_6 rfl (lv_at hl 0 rfl) ?_
  refine lv_if_gt (tgt := 20) hx hb dJx4a65c_grow_92f84_7 (by decide) (fun c7 => ((absurd c7 (by decide) : False)).elim) (fun c7 => ?_)
  refine lv_aload_n hx hb dJx4a65c_grow_92f84_10 rfl (lv_at hl 1 rfl) ?_
  refine gr_Jx4a65c_9 F hB dJx4a65c_grow_92f84_11 (by assumption) hr1 ?_
  refine va_gets hx hb F.2.2.2.1.1 hB.1.2.2 hown (F.1.2.2.2.2 _ (List.mem_cons_of_mem _ (mm_0 _ (List.mem_of_getElem? (i := 27) rfl)))) (fun _ h9 => h9) dJx4a65c_grow_92f84_14 ?_
  refine lv_acmp_eq (rx := some eda) (ry := some eda) (tgt := 45) hx hb dJx4a65c_grow_92f84_17 (by decide) (fun _ => ?_) (fun z => absurd rfl z)
  refine lv_aload_n hx hb dJx4a65c_grow_92f84_45 rfl (lv_at hl 1 rfl) ?_
  refine lv_bipush (v := 10) hx hb dJx4a65c_grow_92f84_46 (by decide) ?_
  refine lv_iload_n hx hb dJx4a65c_grow_92f84_48 rfl (lv_at hl 2 rfl) ?_
  refine va_mmax hx hb (F.1.2.2.1.trans hl.1.symm) hown (F.1.2.2.2.2 _ (List.mem_cons_of_mem _ (mm_2 _ (List.mem_of_getElem? (i := 8) rfl)))) (F.1.2.2.2.2 _ (List.mem_cons_of_mem _ (mm_1 _ (List.mem_of_getElem? (i := 24) rfl)))) (F.1.2.2.2.2 _ (List.mem_cons_of_mem _ (mm_1 _ (List.mem_of_getElem? (i := 25) rfl)))) (F.1.2.2.2.2 _ (List.mem_cons_of_mem _ (mm_1 _ (List.mem_of_getElem? (i := 26) rfl)))) (Nat.le_of_ble_eq_true rfl) (Nat.le_of_ble_eq_true rfl) (Nat.le_of_ble_eq_true rfl) (Nat.zero_le _) dJx4a65c_grow_92f84_49 ?_
  have ew : (if (10 : Int32) < mn then mn else 10).toInt = w := by
      have e10 : (10 : Int32).toInt = 10 := rfl
      by_cases q : (10 : Int32) < mn
      · rw [if_pos q]; have := i_lt q; omega
      · rw [if_neg q]; have := i_nlt q; omega
  generalize hz : (if (10 : Int32) < mn then mn else 10) = z at ew ⊢
  refine sg_newqN 10 (N' := w) F hB (F.1.2.2.2.2 _ (List.mem_cons_of_mem _ (mm_2 _ (List.mem_of_getElem? (i := 9) rfl)))) (by decide) rfl rfl (fun q => by have := i_lt q; have e : (0 : Int32).toInt = 0 := rfl; omega) (by show z.toInt.toNat = w; omega) (by omega) (Nat.le_of_ble_eq_true rfl) (by show 0 + w ≤ w; omega) dJx4a65c_grow_92f84_52 (fun q7 H hq hsq hB => ?_)
  refine lv_dup_x1 hx hb dJx4a65c_grow_92f84_55 rfl rfl ?_
  have heq := sg_edaN F hsq
  have hlq : l0 ≠ q7 := fun z => by rw [z, hq] at ht; exact absurd ht (by decide)
  have hpg := sgPot_grB (w := w) ht hsz hr1 heq hB0.1.1.2 hq
  refine pg_Jx4a65c_9 (x := some q7) F hB dJx4a65c_grow_92f84_56 (by show sgT (sgNw σ q7 110 w) l0 = 5; rw [sgNw_T, if_neg hlq]; exact ht) (fun H locs hG => ?_)
  have hBn := (⟨hG, hB.2.1, (show (0 + w) + sgPot (sgPR (sgNw σ q7 110 w) l0 1 (some q7)) ≤ w + sgPot σ by omega)⟩ : sgB D cy s σ _ H locs (0 + w) w)
  clear hB; have hB := hBn; clear hBn
  exact sg_aretp F hB hrt (Or.inr ⟨_, rfl⟩) (Or.inr ⟨_, rfl⟩) dJx4a65c_grow_92f84_59 (by decide) (Nat.le_refl _) (by omega) (⟨q7, rfl, heq, hq, rfl⟩)

set_option maxRecDepth 100000 in
set_option maxHeartbeats 4000000 in
theorem m_grow0B (l : Launch) (D : va_G) (cy : Nat → ClassId) {eda ca : Nat} {ia : Nat → Nat} {σ : SG} {l0 : Nat} (ht : sgT σ l0 = 5) (hr1 : sgR σ l0 1 = some eda) (hsz : (sgI σ l0 2).toInt = 0)  (sz : Nat) : sgMp l D cy eda ca ia σ sz yJx4a65c_grow_d5877 (Cond.code yJx4a65c_grow_d5877 cJx4a65c_grow_d5877 1 (some (.array (.object "java/lang/Object"))) :: mWall) 2 38 1 (10) (10) [.ref l0] (fun v σ2 => ∃ q : Nat, v = some (.ref q) ∧ eda ≠ q ∧ sgT σ q = 0 ∧ sgPR (sgNw σ q 110 10) l0 1 (some q) = σ2) := by
  refine sg_ofWp (cc := cJx4a65c_grow_d5877) (maxL := 1) (ret := (some (.array (.object "java/lang/Object")))) (by decide) rfl (Nat.le_of_ble_eq_true rfl) (lv := [(0, .ref l0)]) rfl (fun p e s m below meth c ls H N hN0 hrt hnm F hB hl => ?_) sz
  have hx := F.1.1
  have hb := F.1.2.1
  have hown := F.1.2.2.2.1
  subst hN0
  refine lv_aload_n hx hb dJx4a65c_grow_d5877_0 rfl (lv_at hl 0 rfl) ?_
  refine lv_aload_n hx hb dJx4a65c_grow_d5877_1 rfl (lv_at hl 0 rfl) ?_
  refine gf_Jx4a65c_48 F hB dJx4a65c_grow_d5877_2 (by assumption) ?_
  refine lv_iconst (v := 1) hx hb dJx4a65c_grow_d5877_5 (by decide) ?_
  refine lv_iadd hx hb dJx4a65c_grow_d5877_6 ?_
  have e9 : (sgI σ l0 2 + 1).toInt = 1 := by have h9 := i_add (x := sgI σ l0 2) (y := 1) (by show _ ≤ _ + (1 : Int); omega) (by show _ + (1 : Int) ≤ _; omega); rw [h9, hsz]; rfl
  refine sg_callVp (ci := 4) F hB (m_growB l D cy ht hr1 hsz (sgI σ l0 2 + 1) (w := 10) (by rw [e9]; omega) (by rw [e9]; omega) _) (cwV 1 F.1.2.2.2.2 (mgV (mm_2 _ (List.mem_of_getElem? (i := 16) rfl)) (mm_2 _ (List.mem_of_getElem? (i := 17) rfl)) (mm_2 _ (List.mem_of_getElem? (i := 18) rfl)) (mm_0 _ (List.mem_of_getElem? (i := 35) rfl)) (mm_2 _ (List.mem_of_getElem? (i := 14) rfl))) rfl rfl rfl ⟨rfl, by decide, by decide, by decide +kernel⟩ ⟨Nat.le_of_ble_eq_true rfl, Nat.le_of_ble_eq_true rfl⟩) rfl rfl (by decide) rfl hl.1 rfl (Nat.le_of_ble_eq_true rfl) dJx4a65c_grow_d5877_7 (Nat.le_of_ble_eq_true rfl) (show _ ≤ 10 by omega) (by assumption) (fun H locs v σ7 N hG hXa hX7 hP hNN hNm => ?_)
  obtain ⟨q, rfl, heq, hq, rfl⟩ := hP
  have hBn := (⟨hG, hXa, by omega⟩ : sgB D cy s σ _ H locs N 10)
  clear hB; have hB := hBn; clear hBn
  exact sg_aretp F hB hrt (Or.inr ⟨_, rfl⟩) (Or.inr ⟨_, rfl⟩) dJx4a65c_grow_d5877_10 (by decide) (Nat.le_refl _) (by omega) (⟨q, rfl, heq, hq, rfl⟩)

set_option maxRecDepth 100000 in
set_option maxHeartbeats 4000000 in
theorem m_add3B (l : Launch) (D : va_G) (cy : Nat → ClassId) {eda ca : Nat} {ia : Nat → Nat} {σ : SG} {l0 : Nat} (ht : sgT σ l0 = 5) (hr1 : sgR σ l0 1 = some eda) (hsz : (sgI σ l0 2).toInt = 0) (e0 : Nat) (hk0 : sgK ia σ e0) (x : Int32) (hx0 : x.toInt = 0) (sz : Nat) : sgM l D cy eda ca ia σ sz yJx4a65c_add_72be8 (Cond.code yJx4a65c_add_72be8 cJx4a65c_add_72be8 4 none :: mWall) 5 127 1 15 [.ref l0, .ref e0, .ref eda, .int x] (fun v σ2 => v = none ∧ sgAd l0 eda e0 0 σ σ2) := by
  refine sg_ofW (cc := cJx4a65c_add_72be8) (maxL := 4) (ret := none) (by decide) rfl (Nat.le_of_ble_eq_true rfl) (lv := [(0, .ref l0), (1, .ref e0), (2, .ref eda), (3, .int x)]) rfl (fun p e s m below meth c ls H N hrt hnm F hB hl => ?_) sz
  have hx := F.1.1
  have hb := F.1.2.1
  have hown := F.1.2.2.2.1
  have ex : (x + 1).toInt = 1 := by have h9 := i_add (x := x) (y := 1) (by show _ ≤ _ + (1 : Int); omega) (by show _ + (1 : Int) ≤ _; omega); rw [h9, hx0]; rfl
  have heda := sg_eda F hB
  refine lv_iload_n hx hb dJx4a65c_add_72be8_0 rfl (lv_at hl 3 rfl) ?_
  refine lv_aload_n hx hb dJx4a65c_add_72be8_1 rfl (lv_at hl 2 rfl) ?_
  refine va_tlen (v := 0) hx hb F.2.2.2.1.2.1 hB.1.2.2 rfl dJx4a65c_add_72be8_2 ?_
  refine lv_icmp_ne (tgt := 11) hx hb dJx4a65c_add_72be8_3 (by decide) (fun c3 => (c3 (i_eq.mpr (by rw [hx0]; rfl))).elim) (fun c3 => ?_)
  refine lv_aload_n hx hb dJx4a65c_add_72be8_6 rfl (lv_at hl 0 rfl) ?_
  have hb2 := hB.2.2
  refine sg_callVp (ci := 4) F hB (m_grow0B l D cy ht hr1 hsz _) (cwV 0 F.1.2.2.2.2 (mgV (mm_2 _ (List.mem_of_getElem? (i := 20) rfl)) (mm_2 _ (List.mem_of_getElem? (i := 21) rfl)) (mm_2 _ (List.mem_of_getElem? (i := 22) rfl)) (mm_0 _ (List.mem_of_getElem? (i := 35) rfl)) (mm_2 _ (List.mem_of_getElem? (i := 19) rfl))) rfl rfl rfl ⟨rfl, by decide, by decide, by decide +kernel⟩ ⟨Nat.le_of_ble_eq_true rfl, Nat.le_of_ble_eq_true rfl⟩) rfl rfl (by decide) rfl hl.1 rfl (Nat.le_of_ble_eq_true rfl) dJx4a65c_add_72be8_7 (Nat.le_of_ble_eq_true rfl) (show N + 10 ≤ 15 + sgPot σ by omega) (by assumption) (fun H locs v σ7 N hG hXa hX7 hP hNN hNm => ?_)
  obtain ⟨q7, rfl, heq, hq, rfl⟩ := hP
  have hBn := (⟨hG, hXa, by omega⟩ : sgB D cy s σ _ H locs N 10)
  clear hB; have hB := hBn; clear hBn
  have hlq : l0 ≠ q7 := fun z => by rw [z, hq] at ht; exact absurd ht (by decide)
  have hqt : sgT (sgNw σ q7 110 10) q7 = 110 := by rw [sgNw_T, if_pos rfl]
  have hqn : sgN (sgNw σ q7 110 10) q7 = 10 := by rw [sgNw_N, if_pos rfl]
  have hi9 : x.toInt < ((sgN (sgNw σ q7 110 10) q7 : Nat) : Int) := by rw [hqn]; omega
  have hi8 : sgN (sgNw σ q7 110 10) q7 < 2147483648 := by rw [hqn]; omega
  have hlt : sgT (sgNw σ q7 110 10) l0 = 5 := by rw [sgNw_T, if_neg hlq]; exact ht
  have hk0b : sgK ia (sgNw σ q7 110 10) e0 := sgK_nw hq hk0
  refine lv_astore_n (lv' := [(2, .ref _), (0, .ref _), (1, .ref _), (3, .int _)]) hx hb dJx4a65c_add_72be8_10 rfl hl (by decide) rfl (fun ls hl => ?_)
  refine lv_aload_n hx hb dJx4a65c_add_72be8_11 rfl (lv_at hl 0 rfl) ?_
  refine lv_iload_n hx hb dJx4a65c_add_72be8_12 rfl (lv_at hl 3 rfl) ?_
  refine lv_aload_n hx hb dJx4a65c_add_72be8_13 rfl (lv_at hl 2 rfl) ?_
  refine sg_aastO F hB dJx4a65c_add_72be8_14 hqt hk0b (by omega) hi9 hi8 (fun H locs hBn => ?_)
  clear hB; have hB := hBn; clear hBn
  refine lv_aload_n hx hb dJx4a65c_add_72be8_15 rfl (lv_at hl 1 rfl) ?_
  refine lv_iload_n hx hb dJx4a65c_add_72be8_16 rfl (lv_at hl 3 rfl) ?_
  refine lv_iconst (v := 1) hx hb dJx4a65c_add_72be8_17 (by decide) ?_
  refine lv_iadd hx hb dJx4a65c_add_72be8_18 ?_
  refine pf_Jx4a65c_48 (d := 5) F hB dJx4a65c_add_72be8_19 hlt (sgPot_size (e := 1) (by show (x + 1).toInt.toNat ≤ (sgI (sgNw σ q7 110 10) l0 2).toInt.toNat + 1; rw [ex, sgNw_I, if_neg hlq]; omega)) (fun H locs hBn => ?_)
  clear hB; have hB := hBn; clear hBn
  exact sg_vret F hB hrt dJx4a65c_add_72be8_22 (by decide) (by decide) (⟨rfl, m_adB ht heq heda hq (by decide) (by decide) hx0 ex⟩)
theorem dJx4a65c_add_9ea2d_0 : decode cJx4a65c_add_9ea2d 0 = .ok (.aload_n 0, 1) := by decide +kernel
theorem dJx4a65c_add_9ea2d_1 : decode cJx4a65c_add_9ea2d 1 = .ok (.dup, 1) := by decide +kernel
theorem dJx4a65c_add_9ea2d_2 : decode cJx4a65c_add_9ea2d 2 = .ok (.getfield 63, 3) := by decide +kernel
theorem dJx4a65c_add_9ea2d_5 : decode cJx4a65c_add_9ea2d 5 = .ok (.iconst 1, 1) := by decide +kernel
theorem dJx4a65c_add_9ea2d_6 : decode cJx4a65c_add_9ea2d 6 = .ok (.iadd, 1) := by decide +kernel
theorem dJx4a65c_add_9ea2d_7 : decode cJx4a65c_add_9ea2d 7 = .ok (.putfield 63, 3) := by decide +kernel
theorem dJx4a65c_add_9ea2d_10 : decode cJx4a65c_add_9ea2d 10 = .ok (.aload_n 0, 1) := by decide +kernel
theorem dJx4a65c_add_9ea2d_11 : decode cJx4a65c_add_9ea2d 11 = .ok (.aload_n 1, 1) := by decide +kernel
theorem dJx4a65c_add_9ea2d_12 : decode cJx4a65c_add_9ea2d 12 = .ok (.aload_n 0, 1) := by decide +kernel
theorem dJx4a65c_add_9ea2d_13 : decode cJx4a65c_add_9ea2d 13 = .ok (.getfield 9, 3) := by decide +kernel
theorem dJx4a65c_add_9ea2d_16 : decode cJx4a65c_add_9ea2d 16 = .ok (.aload_n 0, 1) := by decide +kernel
theorem dJx4a65c_add_9ea2d_17 : decode cJx4a65c_add_9ea2d 17 = .ok (.getfield 48, 3) := by decide +kernel
theorem dJx4a65c_add_9ea2d_20 : decode cJx4a65c_add_9ea2d 20 = .ok (.invokevirtual 131, 3) := by decide +kernel
theorem dJx4a65c_add_9ea2d_23 : decode cJx4a65c_add_9ea2d 23 = .ok (.iconst 1, 1) := by decide +kernel
theorem dJx4a65c_add_9ea2d_24 : decode cJx4a65c_add_9ea2d 24 = .ok (.ireturn, 1) := by decide +kernel
set_option maxRecDepth 100000 in
set_option maxHeartbeats 4000000 in
theorem m_addA (l : Launch) (D : va_G) (cy : Nat → ClassId) {eda ca : Nat} {ia : Nat → Nat} {σ : SG} {l0 r sz1 : Nat} (hL : sgLs σ l0 r sz1) (hel : ∀ j y : Nat, sgR σ r j = some y → sgK ia σ y) (e0 : Nat) (hk0 : sgK ia σ e0) (hs9 : sz1 < 100000) (sz : Nat) : sgM l D cy eda ca ia σ sz yJx4a65c_add_9ea2d (Cond.code yJx4a65c_add_9ea2d cJx4a65c_add_9ea2d 2 (some .boolean) :: mWall) 6 150 1 15 [.ref l0, .ref e0] (fun v σ2 => v = some (.int 1) ∧ sgAd l0 r e0 sz1 σ σ2) := by
  refine sg_ofW (cc := cJx4a65c_add_9ea2d) (maxL := 2) (ret := (some .boolean)) (by decide) rfl (Nat.le_of_ble_eq_true rfl) (lv := [(0, .ref l0), (1, .ref e0)]) rfl (fun p e s m below meth c ls H N hrt hnm F hB hl => ?_) sz
  have hx := F.1.1
  have hb := F.1.2.1
  have hown := F.1.2.2.2.1
  obtain ⟨ht, hr1, htr, hsz, hle, hN9⟩ := id hL
  refine lv_aload_n hx hb dJx4a65c_add_9ea2d_0 rfl (lv_at hl 0 rfl) ?_
  refine lv_dup hx hb dJx4a65c_add_9ea2d_1 rfl ?_
  refine gf_Jx4a65c_63 F hB dJx4a65c_add_9ea2d_2 (by assumption) ?_
  refine lv_iconst (v := 1) hx hb dJx4a65c_add_9ea2d_5 (by decide) ?_
  refine lv_iadd hx hb dJx4a65c_add_9ea2d_6 ?_
  refine pf_Jx4a65c_63 (d := 0) F hB dJx4a65c_add_9ea2d_7 (by assumption) sgPot_mod (fun H locs hBn => ?_)
  clear hB; have hB := hBn; clear hBn
  refine lv_aload_n hx hb dJx4a65c_add_9ea2d_10 rfl (lv_at hl 0 rfl) ?_
  refine lv_aload_n hx hb dJx4a65c_add_9ea2d_11 rfl (lv_at hl 1 rfl) ?_
  refine lv_aload_n hx hb dJx4a65c_add_9ea2d_12 rfl (lv_at hl 0 rfl) ?_
  refine gr_Jx4a65c_9 F hB dJx4a65c_add_9ea2d_13 (by assumption) hr1 ?_
  refine lv_aload_n hx hb dJx4a65c_add_9ea2d_16 rfl (lv_at hl 0 rfl) ?_
  refine gf_Jx4a65c_48 F hB dJx4a65c_add_9ea2d_17 (by assumption) ?_
  refine sg_callV (ci := 4) F hB (m_add3A l D cy (sgLs_I0 hL) hel e0 hk0 _ (by rw [sgI_PI, if_neg (fun z => by cases z.2)]; exact hsz) hs9 _) (cwV 3 F.1.2.2.2.2 (mgV (mm_2 _ (List.mem_of_getElem? (i := 26) rfl)) (mm_2 _ (List.mem_of_getElem? (i := 27) rfl)) (mm_2 _ (List.mem_of_getElem? (i := 28) rfl)) (mm_0 _ (List.mem_of_getElem? (i := 35) rfl)) (mm_2 _ (List.mem_of_getElem? (i := 23) rfl))) rfl rfl rfl ⟨rfl, by decide, by decide, by decide +kernel⟩ ⟨Nat.le_of_ble_eq_true rfl, Nat.le_of_ble_eq_true rfl⟩) rfl rfl (by decide) rfl hl.1 rfl (Nat.le_of_ble_eq_true rfl) dJx4a65c_add_9ea2d_20 (Nat.le_of_ble_eq_true rfl) (Nat.add_le_add_right (Nat.le_of_ble_eq_true rfl) _) (by assumption) (fun H locs v σ20 N hBn hX20 hP => ?_)
  clear hB; have hB := hBn; clear hBn
  obtain ⟨rfl, hP⟩ := hP
  refine lv_iconst (v := 1) hx hb dJx4a65c_add_9ea2d_23 (by decide) ?_
  exact sg_zret F hB hrt dJx4a65c_add_9ea2d_24 (by decide) (by decide) rfl (⟨rfl, sgAd_I0 hP⟩)

set_option maxRecDepth 100000 in
set_option maxHeartbeats 4000000 in
theorem m_addB (l : Launch) (D : va_G) (cy : Nat → ClassId) {eda ca : Nat} {ia : Nat → Nat} {σ : SG} {l0 : Nat} (ht : sgT σ l0 = 5) (hr1 : sgR σ l0 1 = some eda) (hsz : (sgI σ l0 2).toInt = 0) (e0 : Nat) (hk0 : sgK ia σ e0) (sz : Nat) : sgM l D cy eda ca ia σ sz yJx4a65c_add_9ea2d (Cond.code yJx4a65c_add_9ea2d cJx4a65c_add_9ea2d 2 (some .boolean) :: mWall) 6 150 1 15 [.ref l0, .ref e0] (fun v σ2 => v = some (.int 1) ∧ sgAd l0 eda e0 0 σ σ2) := by
  refine sg_ofW (cc := cJx4a65c_add_9ea2d) (maxL := 2) (ret := (some .boolean)) (by decide) rfl (Nat.le_of_ble_eq_true rfl) (lv := [(0, .ref l0), (1, .ref e0)]) rfl (fun p e s m below meth c ls H N hrt hnm F hB hl => ?_) sz
  have hx := F.1.1
  have hb := F.1.2.1
  have hown := F.1.2.2.2.1
  refine lv_aload_n hx hb dJx4a65c_add_9ea2d_0 rfl (lv_at hl 0 rfl) ?_
  refine lv_dup hx hb dJx4a65c_add_9ea2d_1 rfl ?_
  refine gf_Jx4a65c_63 F hB dJx4a65c_add_9ea2d_2 (by assumption) ?_
  refine lv_iconst (v := 1) hx hb dJx4a65c_add_9ea2d_5 (by decide) ?_
  refine lv_iadd hx hb dJx4a65c_add_9ea2d_6 ?_
  refine pf_Jx4a65c_63 (d := 0) F hB dJx4a65c_add_9ea2d_7 (by assumption) sgPot_mod (fun H locs hBn => ?_)
  clear hB; have hB := hBn; clear hBn
  refine lv_aload_n hx hb dJx4a65c_add_9ea2d_10 rfl (lv_at hl 0 rfl) ?_
  refine lv_aload_n hx hb dJx4a65c_add_9ea2d_11 rfl (lv_at hl 1 rfl) ?_
  refine lv_aload_n hx hb dJx4a65c_add_9ea2d_12 rfl (lv_at hl 0 rfl) ?_
  refine gr_Jx4a65c_9 F hB dJx4a65c_add_9ea2d_13 (by assumption) hr1 ?_
  refine lv_aload_n hx hb dJx4a65c_add_9ea2d_16 rfl (lv_at hl 0 rfl) ?_
  refine gf_Jx4a65c_48 F hB dJx4a65c_add_9ea2d_17 (by assumption) ?_
  refine sg_callV (ci := 4) F hB (m_add3B (σ := sgPI σ l0 0 (sgI σ l0 0 + 1)) l D cy ht hr1 (by rw [sgI_PI, if_neg (fun z => by cases z.2)]; exact hsz) e0 hk0 _ (by rw [sgI_PI, if_neg (fun z => by cases z.2)]; exact hsz) _) (cwV 3 F.1.2.2.2.2 (mgV (mm_2 _ (List.mem_of_getElem? (i := 26) rfl)) (mm_2 _ (List.mem_of_getElem? (i := 27) rfl)) (mm_2 _ (List.mem_of_getElem? (i := 28) rfl)) (mm_0 _ (List.mem_of_getElem? (i := 35) rfl)) (mm_2 _ (List.mem_of_getElem? (i := 23) rfl))) rfl rfl rfl ⟨rfl, by decide, by decide, by decide +kernel⟩ ⟨Nat.le_of_ble_eq_true rfl, Nat.le_of_ble_eq_true rfl⟩) rfl rfl (by decide) rfl hl.1 rfl (Nat.le_of_ble_eq_true rfl) dJx4a65c_add_9ea2d_20 (Nat.le_of_ble_eq_true rfl) (Nat.add_le_add_right (Nat.le_of_ble_eq_true rfl) _) (by assumption) (fun H locs v σ20 N hBn hX20 hP => ?_)
  clear hB; have hB := hBn; clear hBn
  obtain ⟨rfl, hP⟩ := hP
  refine lv_iconst (v := 1) hx hb dJx4a65c_add_9ea2d_23 (by decide) ?_
  exact sg_zret F hB hrt dJx4a65c_add_9ea2d_24 (by decide) (by decide) rfl (⟨rfl, sgAd_I0 hP⟩)
theorem m_add (l : Launch) (D : va_G) (cy : Nat → ClassId) {eda ca : Nat} {ia : Nat → Nat} {σ : SG} {l0 r sz1 : Nat} (hL : sgLz eda σ l0 r sz1) (hel : ∀ j y : Nat, sgT σ r = 110 → sgR σ r j = some y → sgK ia σ y) (e0 : Nat) (hk0 : sgK ia σ e0) (hs9 : sz1 < 100000) (sz : Nat) : sgM l D cy eda ca ia σ sz yJx4a65c_add_9ea2d (Cond.code yJx4a65c_add_9ea2d cJx4a65c_add_9ea2d 2 (some .boolean) :: mWall) 6 150 1 15 [.ref l0, .ref e0] (fun v σ2 => v = some (.int 1) ∧ sgAd l0 r e0 sz1 σ σ2) := by
  rcases hL with hL | ⟨ht, hr1, rfl, rfl, hsz⟩
  · exact m_addA l D cy hL (fun j y h => hel j y hL.2.2.1 h) e0 hk0 hs9 sz
  · exact m_addB l D cy ht hr1 hsz e0 hk0 sz
end MM7
