section MM10
variable {p : Program} {l : Launch} {e : Env} {R : Room} {s : State} {m : MethodId} {args : Array Value} {below : List Frame} {meth : Method} {c : Code} {H : Heap} {locs : List Loc} {Q : State → Prop} {cc bytes : ByteArray} {pc : Nat} {ls : Array Slot} {rest As st0 : List Value}
variable {D : va_G} {cy : Nat → ClassId} {σ0 σ σ2 : SG} {eda ca : Nat} {ia : Nat → Nat} {y x : MethodName} {WS Ts : List Cond} {fr lo mc n nL index maxL sc ms b k N n9 a ci t N9 : Nat} {av : List Value} {Post : Option Value → SG → Prop} {own C host ref : String} {ret : Option FieldType}
theorem sg_copyE {a1 : Nat} {n0 : Int32} (hn0 : n0.toInt = 0) (F : sgFx p s m args meth c cc nL own Ts D cy eda ca ia σ0) (hB : sgB D cy s σ0 σ H locs N n) (hml : ls.size = nL) (hlink : (Cond.methodLink own index arraycopyName).before args s = true) (hnat : (Cond.native arraycopyName).before args s = true) (hstat : (Cond.static arraycopyName).before args s = true) (hini : (Cond.initialized "java/lang/System").before args s = true) (hdg : decode cc pc = .ok (.invokestatic index, 3)) (h1 : sgT σ a1 = 110) (hframes : 1 ≤ R.frames) (hlocals : (rest.map fun v => v.category).sum + (nativeFrameWords "java/lang/System" "arraycopy" 5 + 11) ≤ R.locals)
    (kk : ∀ (H : Heap) (locs : List Loc), sgB D cy s σ0 σ H locs N n → W p l e R s m args below meth c H locs k N Q (F0 m (pc + 3) ls rest)) : W p l e R s m args below meth c H locs k N Q (F0 m pc ls (.int n0 :: .int 0 :: .ref a1 :: .int 0 :: .ref eda :: rest)) := by
  obtain ⟨q1, hq1⟩ := sg_ar (t := 10) hB.1 h1 rfl
  obtain rfl : n0 = 0 := i_eq.mpr hn0
  refine va_copyg (cl := vwCl) (tys := tyL cy) (E0 := "java/lang/Object") (E1 := "java/lang/Object") F.1.1 F.1.2.1 (F.1.2.2.1.trans hml.symm) F.1.2.2.2.1 hlink hnat hstat hini F.2.1 (sgL_P hB.1.1) (sgL_D hB.1.2.1) hB.1.2.2 q1 10 F.2.2.2.1.2.1 hq1 rfl (by decide) (by decide) (by decide) (by decide) (Nat.zero_le _) hframes hlocals hdg (fun H1 locs1 g1 _ g3 => kk H1 locs1 (sgB_w hB ?_ (fun _ => rfl) (fun _ => rfl) (Nat.le_refl _)))
  refine sgG_arr hB.1 hq1 ?_ (fun b hb0 => rfl) (fun _ => rfl) hB.1.1.2 g1 g3
  rw [sgE_ra (σ := σ) (t := 10) h1 rfl]
  have e : sgR σ a1 = va_cpy (fun _ => none) (sgR σ a1) (0 : Int32).toNatClampNeg (0 : Int32).toNatClampNeg (0 : Int32).toNatClampNeg := by
    funext j
    unfold va_cpy
    rw [if_neg (fun z => by have := z.2; have e0 : (0 : Int32).toNatClampNeg = 0 := rfl; omega)]
  conv => lhs; rw [e]

set_option maxRecDepth 100000 in
set_option maxHeartbeats 4000000 in
theorem m_clearB (l : Launch) (D : va_G) (cy : Nat → ClassId) {eda ca : Nat} {ia : Nat → Nat} {σ : SG} {l0 : Nat} (ht : sgT σ l0 = 5) (hr1 : sgR σ l0 1 = some eda) (hsz : (sgI σ l0 2).toInt = 0)  (sz : Nat) : sgM l D cy eda ca ia σ sz yJx4a65c_clear_da8c8 (Cond.code yJx4a65c_clear_da8c8 cJx4a65c_clear_da8c8 4 none :: mWall) 0 0 0 0 [.ref l0] (fun v σ2 => v = none ∧ sgOn l0 eda σ σ2 ∧ sgI σ2 l0 2 = 0 ∧ sgR σ2 l0 1 = some eda ∧ (∀ j y, sgR σ2 eda j = some y → sgR σ eda j = some y)) := by
  refine sg_ofW (cc := cJx4a65c_clear_da8c8) (maxL := 4) (ret := none) (by decide) rfl (Nat.le_of_ble_eq_true rfl) (lv := [(0, .ref l0)]) rfl (fun p e s m below meth c ls H N hrt hnm F hB hl => ?_) sz
  have hx := F.1.1
  have hb := F.1.2.1
  have hown := F.1.2.2.2.1
  refine lv_aload_n hx hb dJx4a65c_clear_da8c8_0 rfl (lv_at hl 0 rfl) ?_
  refine lv_dup hx hb dJx4a65c_clear_da8c8_1 rfl ?_
  refine gf_Jx4a65c_63 F hB dJx4a65c_clear_da8c8_2 (by assumption) ?_
  refine lv_iconst (v := 1) hx hb dJx4a65c_clear_da8c8_5 (by decide) ?_
  refine lv_iadd hx hb dJx4a65c_clear_da8c8_6 ?_
  refine pf_Jx4a65c_63 (d := 0) F hB dJx4a65c_clear_da8c8_7 (by assumption) sgPot_mod (fun H locs hBn => ?_)
  clear hB; have hB := hBn; clear hBn
  refine lv_aload_n hx hb dJx4a65c_clear_da8c8_10 rfl (lv_at hl 0 rfl) ?_
  refine gr_Jx4a65c_9 F hB dJx4a65c_clear_da8c8_11 (by assumption) hr1 ?_
  refine lv_astore_n (lv' := [(1, .ref _), (0, .ref _)]) hx hb dJx4a65c_clear_da8c8_14 rfl hl (by decide) rfl (fun ls hl => ?_)
  refine lv_aload_n hx hb dJx4a65c_clear_da8c8_15 rfl (lv_at hl 1 rfl) ?_
  refine gf_Jx4a65c_48 F hB dJx4a65c_clear_da8c8_16 (by assumption) ?_
  refine lv_istore_n (lv' := [(2, .int _), (1, .ref _), (0, .ref _)]) hx hb dJx4a65c_clear_da8c8_19 rfl hl (by decide) rfl (fun ls hl => ?_)
  refine lv_aload_n hx hb dJx4a65c_clear_da8c8_20 rfl (lv_at hl 2 rfl) ?_
  refine lv_iconst (v := 0) hx hb dJx4a65c_clear_da8c8_21 (by decide) ?_
  refine lv_dup_x1 hx hb dJx4a65c_clear_da8c8_22 rfl rfl ?_
  refine pf_Jx4a65c_48 (d := 0) F hB dJx4a65c_clear_da8c8_23 (by assumption) (by have := sgPot_size (σ := sgPI σ l0 0 (sgI σ l0 0 + 1)) (a := l0) (x := 0) (e := 0) (by rw [show Int32.toNatClampNeg 0 = 0 from rfl]; omega); simpa using this) (fun H locs hBn => ?_)
  clear hB; have hB := hBn; clear hBn
  refine lv_istore_n (lv' := [(3, .int _), (2, .int _), (1, .ref _), (0, .ref _)]) hx hb dJx4a65c_clear_da8c8_26 rfl hl (by decide) rfl (fun ls hl => ?_)
  refine lv_iload_n hx hb dJx4a65c_clear_da8c8_27 rfl (lv_at hl 0 rfl) ?_
  refine lv_iload_n hx hb dJx4a65c_clear_da8c8_28 rfl (lv_at hl 1 rfl) ?_
  refine lv_icmp_ge (tgt := 42) hx hb dJx4a65c_clear_da8c8_29 (by decide) (fun c29 => ?_) (fun c29 => (c29 (Int32.le_iff_toInt_le.mpr (by rw [show sgI (sgPI σ l0 0 (sgI σ l0 0 + 1)) l0 2 = sgI σ l0 2 from if_neg (fun q => by cases q.2), hsz]; decide))).elim)
  exact sg_vret F hB hrt dJx4a65c_clear_da8c8_42 (by decide) (by decide) (⟨rfl, sgOn_I (sgOn_I sgOn_rf), (by rw [sgI_PI, if_pos ⟨rfl, rfl⟩]), hr1, fun _ _ h => h⟩)
theorem m_clr (l : Launch) (D : va_G) (cy : Nat → ClassId) {eda ca : Nat} {ia : Nat → Nat} {σ : SG} {l0 r sz1 : Nat} (hL : sgLz eda σ l0 r sz1) (sz : Nat) : sgM l D cy eda ca ia σ sz yJx4a65c_clear_da8c8 (Cond.code yJx4a65c_clear_da8c8 cJx4a65c_clear_da8c8 4 none :: mWall) 0 0 0 0 [.ref l0] (fun v σ2 => v = none ∧ sgOn l0 r σ σ2 ∧ sgI σ2 l0 2 = 0 ∧ sgR σ2 l0 1 = some r ∧ (∀ j y, sgR σ2 r j = some y → sgR σ r j = some y)) := by
  rcases hL with hL | ⟨ht, hr1, rfl, rfl, hsz⟩
  · exact m_clear l D cy hL sz
  · exact m_clearB l D cy ht hr1 hsz sz

set_option maxRecDepth 100000 in
set_option maxHeartbeats 4000000 in
theorem m_copyOf3E (l : Launch) (D : va_G) (cy : Nat → ClassId) {eda ca : Nat} {ia : Nat → Nat} {σ : SG} {i : Int32} (hi : i.toInt = 0) (sz : Nat) : sgMp l D cy eda ca ia σ sz yJ7_copyOf_6403c (Cond.code yJ7_copyOf_6403c cJ7_copyOf_6403c 4 (some (.array (.object "java/lang/Object"))) :: mWall) 1 40 1 (0) (0) [.ref eda, .int i, .ref (ia 256)] (fun v σ2 => ∃ q : Nat, v = some (.ref q) ∧ sgT σ q = 0 ∧ sgNw σ q 110 0 = σ2) := by
  refine sg_ofWp (cc := cJ7_copyOf_6403c) (maxL := 4) (ret := (some (.array (.object "java/lang/Object")))) (by decide) rfl (Nat.le_of_ble_eq_true rfl) (lv := [(0, .ref eda), (1, .int i), (2, .ref (ia 256))]) rfl (fun p e s m below meth c ls H N hN0 hrt hnm F hB hl => ?_) sz
  have hx := F.1.1
  have hb := F.1.2.1
  have hown := F.1.2.2.2.1
  subst hN0
  refine lv_aload_n hx hb dJ7_copyOf_6403c_0 rfl (lv_at hl 2 rfl) ?_
  refine va_ldcM hx hb hown (F.1.2.2.2.2 _ (List.mem_cons_of_mem _ (mm_1 _ (List.mem_of_getElem? (i := 31) rfl)))) F.2.2.2.1.2.2.2.2.2.2.2.2.2.2.1 dJ7_copyOf_6403c_1 ?_
  refine lv_acmp_ne (rx := some (ia 256)) (ry := some (ia 256)) (tgt := 13) hx hb dJ7_copyOf_6403c_3 (by decide) (fun c3 => absurd rfl c3) (fun _ => ?_)
  refine lv_iload_n hx hb dJ7_copyOf_6403c_6 rfl (lv_at hl 1 rfl) ?_
  refine sg_newqN 10 (N' := 0) F hB (F.1.2.2.2.2 _ (List.mem_cons_of_mem _ (mm_1 _ (List.mem_of_getElem? (i := 32) rfl)))) (by decide) rfl rfl (fun z => by have := i_lt z; have e : (0 : Int32).toInt = 0 := rfl; omega) (by show i.toInt.toNat = 0; omega) (by omega) (Nat.le_of_ble_eq_true rfl) (Nat.le_refl _) dJ7_copyOf_6403c_7 (fun q7 H hq hsq hB => ?_)
  have hq7 : sgT (sgNw σ q7 110 0) q7 = 110 := by rw [sgNw_T, if_pos rfl]
  refine lv_goto (tgt := 24) hx hb dJ7_copyOf_6403c_10 (by decide) ?_
  refine lv_astore_n (lv' := [(3, .ref _), (0, .ref _), (1, .int _), (2, .ref _)]) hx hb dJ7_copyOf_6403c_24 rfl hl (by decide) rfl (fun ls hl => ?_)
  refine lv_aload_n hx hb dJ7_copyOf_6403c_25 rfl (lv_at hl 1 rfl) ?_
  refine lv_iconst (v := 0) hx hb dJ7_copyOf_6403c_26 (by decide) ?_
  refine lv_aload_n hx hb dJ7_copyOf_6403c_27 rfl (lv_at hl 0 rfl) ?_
  refine lv_iconst (v := 0) hx hb dJ7_copyOf_6403c_28 (by decide) ?_
  refine lv_aload_n hx hb dJ7_copyOf_6403c_29 rfl (lv_at hl 1 rfl) ?_
  refine va_tlen (v := 0) hx hb F.2.2.2.1.2.1 hB.1.2.2 rfl dJ7_copyOf_6403c_30 ?_
  refine lv_iload_n hx hb dJ7_copyOf_6403c_31 rfl (lv_at hl 2 rfl) ?_
  refine va_mmin hx hb (F.1.2.2.1.trans hl.1.symm) hown (F.1.2.2.2.2 _ (List.mem_cons_of_mem _ (mm_1 _ (List.mem_of_getElem? (i := 33) rfl)))) (F.1.2.2.2.2 _ (List.mem_cons_of_mem _ (mm_1 _ (List.mem_of_getElem? (i := 34) rfl)))) (F.1.2.2.2.2 _ (List.mem_cons_of_mem _ (mm_1 _ (List.mem_of_getElem? (i := 25) rfl)))) (F.1.2.2.2.2 _ (List.mem_cons_of_mem _ (mm_1 _ (List.mem_of_getElem? (i := 35) rfl)))) (Nat.le_of_ble_eq_true rfl) (Nat.le_of_ble_eq_true rfl) (Nat.le_of_ble_eq_true rfl) (Nat.le_refl _) dJ7_copyOf_6403c_32 ?_
  have ew : (if i < (0 : Int32) then i else 0).toInt = 0 := by
      by_cases q : i < (0 : Int32)
      · rw [if_pos q]; exact hi
      · rw [if_neg q]; rfl
  refine sg_copyE ew F hB hl.1 (F.1.2.2.2.2 _ (List.mem_cons_of_mem _ (mm_1 _ (List.mem_of_getElem? (i := 36) rfl)))) (F.1.2.2.2.2 _ (List.mem_cons_of_mem _ (mm_1 _ (List.mem_of_getElem? (i := 37) rfl)))) (F.1.2.2.2.2 _ (List.mem_cons_of_mem _ (mm_1 _ (List.mem_of_getElem? (i := 38) rfl)))) (F.1.2.2.2.2 _ (List.mem_cons_of_mem _ (mm_1 _ (List.mem_of_getElem? (i := 39) rfl)))) dJ7_copyOf_6403c_35 hq7 (Nat.le_of_ble_eq_true rfl) (Nat.le_of_ble_eq_true rfl) (fun H locs hBn => ?_)
  clear hB; have hB := hBn; clear hBn
  refine lv_aload_n hx hb dJ7_copyOf_6403c_38 rfl (lv_at hl 0 rfl) ?_
  exact sg_aretp F hB hrt (Or.inr ⟨_, rfl⟩) (Or.inr ⟨_, rfl⟩) dJ7_copyOf_6403c_39 (by decide) (Nat.le_of_eq rfl) (Nat.le_of_eq rfl) (⟨q7, rfl, hq, rfl⟩)

set_option maxRecDepth 100000 in
set_option maxHeartbeats 4000000 in
theorem m_copyOfE (l : Launch) (D : va_G) (cy : Nat → ClassId) {eda ca : Nat} {ia : Nat → Nat} {σ : SG} {i : Int32} (hi : i.toInt = 0) (sz : Nat) : sgMp l D cy eda ca ia σ sz yJ7_copyOf_1904c (Cond.code yJ7_copyOf_1904c cJ7_copyOf_1904c 2 (some (.array (.object "java/lang/Object"))) :: mWall) 2 63 1 (0) (0) [.ref eda, .int i] (fun v σ2 => ∃ q : Nat, v = some (.ref q) ∧ sgT σ q = 0 ∧ sgNw σ q 110 0 = σ2) := by
  refine sg_ofWp (cc := cJ7_copyOf_1904c) (maxL := 2) (ret := (some (.array (.object "java/lang/Object")))) (by decide) rfl (Nat.le_of_ble_eq_true rfl) (lv := [(0, .ref eda), (1, .int i)]) rfl (fun p e s m below meth c ls H N hN0 hrt hnm F hB hl => ?_) sz
  have hx := F.1.1
  have hb := F.1.2.1
  have hown := F.1.2.2.2.1
  subst hN0
  refine lv_aload_n hx hb dJ7_copyOf_1904c_0 rfl (lv_at hl 0 rfl) ?_
  refine lv_iload_n hx hb dJ7_copyOf_1904c_1 rfl (lv_at hl 1 rfl) ?_
  refine lv_aload_n hx hb dJ7_copyOf_1904c_2 rfl (lv_at hl 0 rfl) ?_
  refine va_getC hx hb (F.1.2.2.1.trans hl.1.symm) hown (F.1.2.2.2.2 _ (List.mem_cons_of_mem _ (mm_2 _ (List.mem_of_getElem? (i := 1) rfl)))) (va_Dc.use F.2.2.2.1.2.2.2.2.2.2.2.2.1) (F.1.2.2.2.2 _ (List.mem_cons_of_mem _ (mm_2 _ (List.mem_of_getElem? (i := 2) rfl)))) (F.1.2.2.2.2 _ (List.mem_cons_of_mem _ (mm_2 _ (List.mem_of_getElem? (i := 3) rfl)))) (F.1.2.2.2.2 _ (List.mem_cons_of_mem _ (mm_2 _ (List.mem_of_getElem? (i := 4) rfl)))) F.2.2.2.1.2.2.2.2.2.2.2.2.2.2.1 (va_Orecv F.2.2.2.1.2.2.2.2.2.2.2.2.2.2.2.2.1 hB.1.2.2) (Nat.le_of_ble_eq_true rfl) (Nat.le_of_ble_eq_true rfl) dJ7_copyOf_1904c_3 ?_
  refine sg_callSp F hB (m_copyOf3E l D cy hi _) (cwS 3 F.1.2.2.2.2 (mgS (mm_2 _ (List.mem_of_getElem? (i := 5) rfl)) (mm_2 _ (List.mem_of_getElem? (i := 6) rfl)) (mm_2 _ (List.mem_of_getElem? (i := 7) rfl)) (mm_1 _ (List.mem_of_getElem? (i := 30) rfl))) rfl rfl rfl ⟨rfl, by decide, by decide, by decide +kernel⟩ ⟨Nat.le_of_ble_eq_true rfl, Nat.le_of_ble_eq_true rfl⟩) rfl hl.1 rfl (Nat.le_of_ble_eq_true rfl) dJ7_copyOf_1904c_6 (Nat.le_of_ble_eq_true rfl) (show 0 + 0 ≤ 0 by omega)  (fun H locs v σ6 N hG hXa hX6 hP hNN hNm => ?_)
  obtain ⟨q6, rfl, hq, rfl⟩ := hP
  have hBn := (⟨hG, hXa, by omega⟩ : sgB D cy s σ _ H locs N 0)
  clear hB; have hB := hBn; clear hBn
  exact sg_aretp F hB hrt (Or.inr ⟨_, rfl⟩) (Or.inr ⟨_, rfl⟩) dJ7_copyOf_1904c_9 (by decide) (by omega) (by omega) (⟨q6, rfl, hq, rfl⟩)
theorem dJx4a65c_toArray_d5877_0 : decode cJx4a65c_toArray_d5877 0 = .ok (.aload_n 0, 1) := by decide +kernel
theorem dJx4a65c_toArray_d5877_1 : decode cJx4a65c_toArray_d5877 1 = .ok (.getfield 9, 3) := by decide +kernel
theorem dJx4a65c_toArray_d5877_4 : decode cJx4a65c_toArray_d5877 4 = .ok (.aload_n 0, 1) := by decide +kernel
theorem dJx4a65c_toArray_d5877_5 : decode cJx4a65c_toArray_d5877 5 = .ok (.getfield 48, 3) := by decide +kernel
theorem dJx4a65c_toArray_d5877_8 : decode cJx4a65c_toArray_d5877 8 = .ok (.invokestatic 66, 3) := by decide +kernel
theorem dJx4a65c_toArray_d5877_11 : decode cJx4a65c_toArray_d5877 11 = .ok (.areturn, 1) := by decide +kernel
set_option maxRecDepth 100000 in
set_option maxHeartbeats 4000000 in
theorem m_toArrA (l : Launch) (D : va_G) (cy : Nat → ClassId) {eda ca : Nat} {ia : Nat → Nat} {σ : SG} {l0 r sz1 : Nat} (hL : sgLs σ l0 r sz1) (hel : ∀ j y : Nat, sgR σ r j = some y → sgK ia σ y) (sz : Nat) : sgMp l D cy eda ca ia σ sz yJx4a65c_toArray_d5877 (Cond.code yJx4a65c_toArray_d5877 cJx4a65c_toArray_d5877 1 (some (.array (.object "java/lang/Object"))) :: mWall) 3 84 1 (sz1) (sz1) [.ref l0] (fun v σ2 => ∃ q : Nat, v = some (.ref q) ∧ sgT σ q = 0 ∧ sgCp (sgNw σ q 110 sz1) r q 0 0 (min (sgN σ r) sz1) = σ2) := by
  refine sg_ofWp (cc := cJx4a65c_toArray_d5877) (maxL := 1) (ret := (some (.array (.object "java/lang/Object")))) (by decide) rfl (Nat.le_of_ble_eq_true rfl) (lv := [(0, .ref l0)]) rfl (fun p e s m below meth c ls H N hN0 hrt hnm F hB hl => ?_) sz
  have hx := F.1.1
  have hb := F.1.2.1
  have hown := F.1.2.2.2.1
  subst hN0
  obtain ⟨ht, hr1, htr, hsz, hle, hN9⟩ := id hL
  refine lv_aload_n hx hb dJx4a65c_toArray_d5877_0 rfl (lv_at hl 0 rfl) ?_
  refine gr_Jx4a65c_9 F hB dJx4a65c_toArray_d5877_1 (by assumption) hr1 ?_
  refine lv_aload_n hx hb dJx4a65c_toArray_d5877_4 rfl (lv_at hl 0 rfl) ?_
  refine gf_Jx4a65c_48 F hB dJx4a65c_toArray_d5877_5 (by assumption) ?_
  refine sg_callSp F hB (m_copyOf l D cy htr rfl (by omega) hsz (by omega) (fun j y _ _ => hel j y) _) (va_cwS 2 F.1.2.2.2.2 (mgS2 (mm_2 _ (List.mem_of_getElem? (i := 12) rfl)) (mm_2 _ (List.mem_of_getElem? (i := 13) rfl)) (mm_2 _ (List.mem_of_getElem? (i := 7) rfl)) (mm_2 _ (List.mem_of_getElem? (i := 0) rfl))) rfl rfl rfl ⟨by decide, by decide, by decide +kernel⟩ ⟨Nat.le_of_ble_eq_true rfl, Nat.le_of_ble_eq_true rfl⟩) rfl hl.1 rfl (Nat.le_of_ble_eq_true rfl) dJx4a65c_toArray_d5877_8 (Nat.le_of_ble_eq_true rfl) (show 0 + sz1 ≤ sz1 by omega)  (fun H locs v σ8 N hG hXa hX8 hP hNN hNm => ?_)
  obtain ⟨q8, rfl, hq, rfl⟩ := hP
  have hBn := (⟨hG, hXa, by omega⟩ : sgB D cy s σ _ H locs N sz1)
  clear hB; have hB := hBn; clear hBn
  exact sg_aretp F hB hrt (Or.inr ⟨_, rfl⟩) (Or.inr ⟨_, rfl⟩) dJx4a65c_toArray_d5877_11 (by decide) (by omega) (by omega) (⟨q8, rfl, hq, rfl⟩)

set_option maxRecDepth 100000 in
set_option maxHeartbeats 4000000 in
theorem m_toArrE (l : Launch) (D : va_G) (cy : Nat → ClassId) {eda ca : Nat} {ia : Nat → Nat} {σ : SG} {l0 : Nat} (ht : sgT σ l0 = 5) (hr1 : sgR σ l0 1 = some eda) (hsz : (sgI σ l0 2).toInt = 0)  (sz : Nat) : sgMp l D cy eda ca ia σ sz yJx4a65c_toArray_d5877 (Cond.code yJx4a65c_toArray_d5877 cJx4a65c_toArray_d5877 1 (some (.array (.object "java/lang/Object"))) :: mWall) 3 84 1 (0) (0) [.ref l0] (fun v σ2 => ∃ q : Nat, v = some (.ref q) ∧ sgT σ q = 0 ∧ sgNw σ q 110 0 = σ2) := by
  refine sg_ofWp (cc := cJx4a65c_toArray_d5877) (maxL := 1) (ret := (some (.array (.object "java/lang/Object")))) (by decide) rfl (Nat.le_of_ble_eq_true rfl) (lv := [(0, .ref l0)]) rfl (fun p e s m below meth c ls H N hN0 hrt hnm F hB hl => ?_) sz
  have hx := F.1.1
  have hb := F.1.2.1
  have hown := F.1.2.2.2.1
  subst hN0
  refine lv_aload_n hx hb dJx4a65c_toArray_d5877_0 rfl (lv_at hl 0 rfl) ?_
  refine gr_Jx4a65c_9 F hB dJx4a65c_toArray_d5877_1 (by assumption) hr1 ?_
  refine lv_aload_n hx hb dJx4a65c_toArray_d5877_4 rfl (lv_at hl 0 rfl) ?_
  refine gf_Jx4a65c_48 F hB dJx4a65c_toArray_d5877_5 (by assumption) ?_
  refine sg_callSp F hB (m_copyOfE l D cy hsz _) (va_cwS 2 F.1.2.2.2.2 (mgS2 (mm_2 _ (List.mem_of_getElem? (i := 12) rfl)) (mm_2 _ (List.mem_of_getElem? (i := 13) rfl)) (mm_2 _ (List.mem_of_getElem? (i := 7) rfl)) (mm_2 _ (List.mem_of_getElem? (i := 0) rfl))) rfl rfl rfl ⟨by decide, by decide, by decide +kernel⟩ ⟨Nat.le_of_ble_eq_true rfl, Nat.le_of_ble_eq_true rfl⟩) rfl hl.1 rfl (Nat.le_of_ble_eq_true rfl) dJx4a65c_toArray_d5877_8 (Nat.le_of_ble_eq_true rfl) (show 0 + 0 ≤ 0 by omega)  (fun H locs v σ8 N hG hXa hX8 hP hNN hNm => ?_)
  obtain ⟨q8, rfl, hq, rfl⟩ := hP
  have hBn := (⟨hG, hXa, by omega⟩ : sgB D cy s σ _ H locs N 0)
  clear hB; have hB := hBn; clear hBn
  exact sg_aretp F hB hrt (Or.inr ⟨_, rfl⟩) (Or.inr ⟨_, rfl⟩) dJx4a65c_toArray_d5877_11 (by decide) (by omega) (by omega) (⟨q8, rfl, hq, rfl⟩)
end MM10
