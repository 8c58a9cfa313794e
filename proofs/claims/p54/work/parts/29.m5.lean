section MM5
theorem sgK_nw {ia : Nat → Nat} {σ : SG} {q t n y : Nat} (hq : sgT σ q = 0) (h : sgK ia σ y) : sgK ia (sgNw σ q t n) y := by
  have key : ∀ t0 : Nat, t0 ≠ 0 → sgT σ y = t0 → sgT (sgNw σ q t n) y = t0 := fun t0 h0 h1 => by rw [sgNw_T, if_neg (fun z => h0 (by rw [← h1, z]; exact hq))]; exact h1
  rcases h with h | h | h | h | h
  · exact Or.inl (key 2 (by decide) h)
  · exact Or.inr (Or.inl (key 16 (by decide) h))
  · exact Or.inr (Or.inr (Or.inl (key 19 (by decide) h)))
  · exact Or.inr (Or.inr (Or.inr (Or.inl (key 100 (by decide) h))))
  · exact Or.inr (Or.inr (Or.inr (Or.inr h)))
variable {p : Program} {l : Launch} {e : Env} {R : Room} {s : State} {m : MethodId} {args : Array Value} {below : List Frame} {meth : Method} {c : Code} {H : Heap} {locs : List Loc} {Q : State → Prop} {cc bytes : ByteArray} {pc : Nat} {ls : Array Slot} {rest As st0 : List Value}
variable {D : va_G} {cy : Nat → ClassId} {σ0 σ σ2 : SG} {eda ca : Nat} {ia : Nat → Nat} {y x : MethodName} {WS Ts : List Cond} {fr lo mc n nL index maxL sc ms b k N n9 a ci t N9 : Nat} {av : List Value} {Post : Option Value → SG → Prop} {own C host ref : String} {ret : Option FieldType}
theorem sg_aretp {v : Value} {rt : FieldType} (F : sgFx p s m args meth c cc nL own Ts D cy eda ca ia σ0) (hB : sgB D cy s σ0 σ H locs N n) (hr : meth.sig.returnType = some rt) (hrt : (∃ n, rt = .object n) ∨ ∃ t, rt = .array t) (hv : v = .null ∨ ∃ a, v = .ref a) (hdg : decode cc pc = .ok (.areturn, 1)) (hk : k ≤ mc) (hn : n ≤ sc) (hN : N ≤ ms) (hP : Post (some v) σ) : W p l e R s m args below meth c H locs k N (MQ below (sgQ D cy σ0 s.heap.size sc Post) args s mc ms (sgA σ0 s.heap.size)) (F0 m pc ls [v]) := by
  have hlocks := F.2.2.2.2
  exact sg_outp hB hk hn hN hP (fun h1 h2 => W.aret F.1.1 F.1.2.1 hr hrt hv h1 h2 hdg hlocks)
theorem sg_iretp {v : Int32} (F : sgFx p s m args meth c cc nL own Ts D cy eda ca ia σ0) (hB : sgB D cy s σ0 σ H locs N n) (hr : meth.sig.returnType = some .int) (hdg : decode cc pc = .ok (.ireturn, 1)) (hk : k ≤ mc) (hn : n ≤ sc) (hN : N ≤ ms) (hP : Post (some (.int v)) σ) : W p l e R s m args below meth c H locs k N (MQ below (sgQ D cy σ0 s.heap.size sc Post) args s mc ms (sgA σ0 s.heap.size)) (F0 m pc ls [.int v]) := by
  have hlocks := F.2.2.2.2
  exact sg_outp hB hk hn hN hP (fun h1 h2 => W.iret F.1.1 F.1.2.1 hr h1 h2 hdg hlocks)
theorem sg_callVp {r : vw_C} (F : sgFx p s m args meth c cc nL own Ts D cy eda ca ia σ0) (hB : sgB D cy s σ0 σ H locs N n) (hM : sgMp l D cy eda ca ia σ H.size y WS fr lo mc ms sc (.ref b :: As) Post) (cw : CallW R s args own C index y bytes maxL ret WS { frames := fr, cells := mc, slots := ms, locals := lo } mc ms n9) (hc : vwCl[ci]? = some r) (hC : r.1 = C) (h100 : ci + 1 < 100) (hn : As.length = n9) (hsize : ls.size = nL) (hst : st0 = As.reverse ++ .ref b :: rest) (hW : (rest.map fun v => v.category).sum ≤ 8) (hdg : decode cc pc = .ok (.invokevirtual index, 3)) (hk : k + mc ≤ R.cells) (hs : N + ms ≤ R.slots) (ha : sgT σ b = ci + 1)
    (kk : ∀ (H1 : Heap) (locs1 : List Loc) (v : Option Value) (σ2 : SG) (N2 : Nat), sgG D cy (sgA σ0 s.heap.size) s.heap σ2 H1 locs1 → sgX s.heap.size σ0 σ2 → sgX s.heap.size σ σ2 → Post v σ2 → N2 + sgPot σ2 ≤ N + (sc + sgPot σ) → N2 ≤ N + ms → W p l e R s m args below meth c H1 locs1 (k + mc) N2 Q (F0 m (pc + 3) ls (v.toList ++ rest))) : W p l e R s m args below meth c H locs k N Q (F0 m pc ls st0) :=
  sgB_kkp (va_runV (g := F0 m pc ls st0) F.1 hM cw ⟨sgPc_blind, hC ▸ sg_recv F.2.1 hB ha h100 hc, sgB_pv F hB⟩ rfl hn hsize hst (lv_room hW) hdg ⟨hk, hs⟩) hB kk
theorem sg_recvA (F : sgFx p s m args meth c cc nL own Ts D cy eda ca ia σ0) (hB : sgB D cy s σ0 σ H locs N n) (h : sgT σ a = 110) : ∃ cell : Cell, H[a]? = some cell ∧ cell.vm.isStatics = false ∧ s.vm.findClass "[Ljava/lang/Object;" = some cell.cls := by
  obtain ⟨q, hq⟩ := sg_ar (t := 10) hB.1 h rfl
  exact ⟨_, sgL_P hB.1.1 q _ hq, rfl, va_nmO (F.2.1.2 10 _ rfl).2 rfl⟩
theorem sg_eda (F : sgFx p s m args meth c cc nL own Ts D cy eda ca ia σ0) (hB : sgB D cy s σ0 σ H locs N n) : sgT σ eda = 0 := by
  by_cases h : sgT σ eda = 0
  · exact h
  · obtain ⟨cell, -, -, -, -, -, -, h7⟩ := F.2.2.2.1.2.1
    refine absurd ?_ h7
    rcases hB.2.1.2 eda h with h9 | h9
    · exact Or.inl h9
    · exact Or.inr h9
theorem i_shr1 (x : Int32) : (x >>> ((1 : Int32) &&& 31)).toInt = x.toInt / 2 := by
  rw [show ((1 : Int32) &&& 31) = 1 from by decide, ← Int32.toInt_toBitVec, Int32.toBitVec_shiftRight, show ((1 : Int32).toBitVec.smod 32) = 1#32 from by decide]
  show (BitVec.sshiftRight x.toBitVec 1).toInt = _
  rw [BitVec.toInt_sshiftRight, Int.shiftRight_eq_div_pow, Int32.toInt_toBitVec]
  rfl
theorem dJ8_newLength_cabcc_0 : decode cJ8_newLength_cabcc 0 = .ok (.iload_n 0, 1) := by decide +kernel
theorem dJ8_newLength_cabcc_1 : decode cJ8_newLength_cabcc 1 = .ok (.iload_n 1, 1) := by decide +kernel
theorem dJ8_newLength_cabcc_2 : decode cJ8_newLength_cabcc 2 = .ok (.iload_n 2, 1) := by decide +kernel
theorem dJ8_newLength_cabcc_3 : decode cJ8_newLength_cabcc 3 = .ok (.invokestatic 194, 3) := by decide +kernel
theorem dJ8_newLength_cabcc_6 : decode cJ8_newLength_cabcc 6 = .ok (.iadd, 1) := by decide +kernel
theorem dJ8_newLength_cabcc_7 : decode cJ8_newLength_cabcc 7 = .ok (.istore_n 3, 1) := by decide +kernel
theorem dJ8_newLength_cabcc_8 : decode cJ8_newLength_cabcc 8 = .ok (.iconst 0, 1) := by decide +kernel
theorem dJ8_newLength_cabcc_9 : decode cJ8_newLength_cabcc 9 = .ok (.iload_n 3, 1) := by decide +kernel
theorem dJ8_newLength_cabcc_10 : decode cJ8_newLength_cabcc 10 = .ok (.if_icmp .ge 11, 3) := by decide +kernel
theorem dJ8_newLength_cabcc_13 : decode cJ8_newLength_cabcc 13 = .ok (.iload_n 3, 1) := by decide +kernel
theorem dJ8_newLength_cabcc_14 : decode cJ8_newLength_cabcc 14 = .ok (.ldc 200, 2) := by decide +kernel
theorem dJ8_newLength_cabcc_16 : decode cJ8_newLength_cabcc 16 = .ok (.if_icmp .gt 5, 3) := by decide +kernel
theorem dJ8_newLength_cabcc_19 : decode cJ8_newLength_cabcc 19 = .ok (.iload_n 3, 1) := by decide +kernel
theorem dJ8_newLength_cabcc_20 : decode cJ8_newLength_cabcc 20 = .ok (.ireturn, 1) := by decide +kernel
set_option maxRecDepth 100000 in
set_option maxHeartbeats 4000000 in
theorem m_newLen (l : Launch) (D : va_G) (cy : Nat → ClassId) {eda ca : Nat} {ia : Nat → Nat} {σ : SG} (x y z : Int32) {w : Nat} (hw : x.toInt + max y.toInt z.toInt = w) (h0 : 0 < w) (h1 : w < 2000000) (sz : Nat) : sgMp l D cy eda ca ia σ sz yJ8_newLength_cabcc (Cond.code yJ8_newLength_cabcc cJ8_newLength_cabcc 4 (some .int) :: mWall) 1 15 0 (0) (0) [.int x, .int y, .int z] (fun v σ2 => ∃ r : Int32, v = some (.int r) ∧ σ = σ2 ∧ r.toInt = w) := by
  refine sg_ofWp (cc := cJ8_newLength_cabcc) (maxL := 4) (ret := (some .int)) (by decide) rfl (Nat.le_of_ble_eq_true rfl) (lv := [(0, .int x), (1, .int y), (2, .int z)]) rfl (fun p e s m below meth c ls H N hN0 hrt hnm F hB hl => ?_) sz
  have hx := F.1.1
  have hb := F.1.2.1
  have hown := F.1.2.2.2.1
  subst hN0
  refine lv_iload_n hx hb dJ8_newLength_cabcc_0 rfl (lv_at hl 0 rfl) ?_
  refine lv_iload_n hx hb dJ8_newLength_cabcc_1 rfl (lv_at hl 1 rfl) ?_
  refine lv_iload_n hx hb dJ8_newLength_cabcc_2 rfl (lv_at hl 2 rfl) ?_
  refine va_mmax hx hb (F.1.2.2.1.trans hl.1.symm) hown (F.1.2.2.2.2 _ (List.mem_cons_of_mem _ (mm_1 _ (List.mem_of_getElem? (i := 23) rfl)))) (F.1.2.2.2.2 _ (List.mem_cons_of_mem _ (mm_1 _ (List.mem_of_getElem? (i := 24) rfl)))) (F.1.2.2.2.2 _ (List.mem_cons_of_mem _ (mm_1 _ (List.mem_of_getElem? (i := 25) rfl)))) (F.1.2.2.2.2 _ (List.mem_cons_of_mem _ (mm_1 _ (List.mem_of_getElem? (i := 26) rfl)))) (Nat.le_of_ble_eq_true rfl) (Nat.le_of_ble_eq_true rfl) (Nat.le_of_ble_eq_true rfl) (show 0 ≤ 0 from Nat.le_refl _) dJ8_newLength_cabcc_3 ?_
  refine lv_iadd hx hb dJ8_newLength_cabcc_6 ?_
  have em : (if y < z then z else y).toInt = max y.toInt z.toInt := by
      by_cases q : y < z
      · rw [if_pos q]; have := i_lt q; omega
      · rw [if_neg q]; have := i_nlt q; omega
  have er : (x + (if y < z then z else y)).toInt = w := by rw [i_add (by rw [em]; omega) (by rw [em]; omega), em]; exact hw
  generalize hr : x + (if y < z then z else y) = r
  rw [hr] at er
  refine lv_istore_n (lv' := [(3, .int _), (0, .int _), (1, .int _), (2, .int _)]) hx hb dJ8_newLength_cabcc_7 rfl hl (by decide) rfl (fun ls hl => ?_)
  refine lv_iconst (v := 0) hx hb dJ8_newLength_cabcc_8 (by decide) ?_
  refine lv_iload_n hx hb dJ8_newLength_cabcc_9 rfl (lv_at hl 0 rfl) ?_
  refine lv_icmp_ge (tgt := 21) hx hb dJ8_newLength_cabcc_10 (by decide) (fun c10 => ((by have := i_le c10; rw [er] at this; have e : (0 : Int32).toInt = 0 := rfl; omega : False)).elim) (fun c10 => ?_)
  refine lv_iload_n hx hb dJ8_newLength_cabcc_13 rfl (lv_at hl 0 rfl) ?_
  refine lv_ldc hx hb hown (F.1.2.2.2.2 _ (List.mem_cons_of_mem _ (mm_1 _ (List.mem_of_getElem? (i := 21) rfl)))) dJ8_newLength_cabcc_14 ?_
  refine lv_icmp_gt (tgt := 21) hx hb dJ8_newLength_cabcc_16 (by decide) (fun c16 => ((by have := i_lt c16; rw [er] at this; have e : (2147483639 : Int32).toInt = 2147483639 := (by decide +kernel); omega : False)).elim) (fun c16 => ?_)
  refine lv_iload_n hx hb dJ8_newLength_cabcc_19 rfl (lv_at hl 0 rfl) ?_
  exact sg_iretp F hB hrt dJ8_newLength_cabcc_20 (by decide) (Nat.le_refl _) (Nat.le_refl _) (⟨_, rfl, rfl, er⟩)
theorem dJ7_copyOf_6403c_0 : decode cJ7_copyOf_6403c 0 = .ok (.aload_n 2, 1) := by decide +kernel
theorem dJ7_copyOf_6403c_1 : decode cJ7_copyOf_6403c 1 = .ok (.ldc 110, 2) := by decide +kernel
theorem dJ7_copyOf_6403c_3 : decode cJ7_copyOf_6403c 3 = .ok (.if_acmp .ne 10, 3) := by decide +kernel
theorem dJ7_copyOf_6403c_6 : decode cJ7_copyOf_6403c 6 = .ok (.iload_n 1, 1) := by decide +kernel
theorem dJ7_copyOf_6403c_7 : decode cJ7_copyOf_6403c 7 = .ok (.anewarray 2, 3) := by decide +kernel
theorem dJ7_copyOf_6403c_10 : decode cJ7_copyOf_6403c 10 = .ok (.goto 14, 3) := by decide +kernel
theorem dJ7_copyOf_6403c_24 : decode cJ7_copyOf_6403c 24 = .ok (.astore_n 3, 1) := by decide +kernel
theorem dJ7_copyOf_6403c_25 : decode cJ7_copyOf_6403c 25 = .ok (.aload_n 0, 1) := by decide +kernel
theorem dJ7_copyOf_6403c_26 : decode cJ7_copyOf_6403c 26 = .ok (.iconst 0, 1) := by decide +kernel
theorem dJ7_copyOf_6403c_27 : decode cJ7_copyOf_6403c 27 = .ok (.aload_n 3, 1) := by decide +kernel
theorem dJ7_copyOf_6403c_28 : decode cJ7_copyOf_6403c 28 = .ok (.iconst 0, 1) := by decide +kernel
theorem dJ7_copyOf_6403c_29 : decode cJ7_copyOf_6403c 29 = .ok (.aload_n 0, 1) := by decide +kernel
theorem dJ7_copyOf_6403c_30 : decode cJ7_copyOf_6403c 30 = .ok (.arraylength, 1) := by decide +kernel
theorem dJ7_copyOf_6403c_31 : decode cJ7_copyOf_6403c 31 = .ok (.iload_n 1, 1) := by decide +kernel
theorem dJ7_copyOf_6403c_32 : decode cJ7_copyOf_6403c 32 = .ok (.invokestatic 304, 3) := by decide +kernel
theorem dJ7_copyOf_6403c_35 : decode cJ7_copyOf_6403c 35 = .ok (.invokestatic 150, 3) := by decide +kernel
theorem dJ7_copyOf_6403c_38 : decode cJ7_copyOf_6403c 38 = .ok (.aload_n 3, 1) := by decide +kernel
theorem dJ7_copyOf_6403c_39 : decode cJ7_copyOf_6403c 39 = .ok (.areturn, 1) := by decide +kernel
set_option maxRecDepth 100000 in
set_option maxHeartbeats 4000000 in
theorem m_copyOf3 (l : Launch) (D : va_G) (cy : Nat → ClassId) {eda ca : Nat} {ia : Nat → Nat} {σ : SG} {r0 n0 n1 : Nat} {i : Int32} (hr : sgT σ r0 = 110) (hn : sgN σ r0 = n0) (hn0 : n0 < 2000000) (hi : i.toInt = n1) (hn1 : n1 < 2000000) (hel : ∀ j y : Nat, j < n1 → j < n0 → sgR σ r0 j = some y → sgK ia σ y) (sz : Nat) : sgMp l D cy eda ca ia σ sz yJ7_copyOf_6403c (Cond.code yJ7_copyOf_6403c cJ7_copyOf_6403c 4 (some (.array (.object "java/lang/Object"))) :: mWall) 1 40 1 (n1) (n1) [.ref r0, .int i, .ref (ia 256)] (fun v σ2 => ∃ q : Nat, v = some (.ref q) ∧ sgT σ q = 0 ∧ sgCp (sgNw σ q 110 n1) r0 q 0 0 (min n0 n1) = σ2) := by
  refine sg_ofWp (cc := cJ7_copyOf_6403c) (maxL := 4) (ret := (some (.array (.object "java/lang/Object")))) (by decide) rfl (Nat.le_of_ble_eq_true rfl) (lv := [(0, .ref r0), (1, .int i), (2, .ref (ia 256))]) rfl (fun p e s m below meth c ls H N hN0 hrt hnm F hB hl => ?_) sz
  have hx := F.1.1
  have hb := F.1.2.1
  have hown := F.1.2.2.2.1
  subst hN0
  refine lv_aload_n hx hb dJ7_copyOf_6403c_0 rfl (lv_at hl 2 rfl) ?_
  refine va_ldcM hx hb hown (F.1.2.2.2.2 _ (List.mem_cons_of_mem _ (mm_1 _ (List.mem_of_getElem? (i := 31) rfl)))) F.2.2.2.1.2.2.2.2.2.2.2.2.2.2.1 dJ7_copyOf_6403c_1 ?_
  refine lv_acmp_ne (rx := some (ia 256)) (ry := some (ia 256)) (tgt := 13) hx hb dJ7_copyOf_6403c_3 (by decide) (fun c3 => absurd rfl c3) (fun _ => ?_)
  refine lv_iload_n hx hb dJ7_copyOf_6403c_6 rfl (lv_at hl 1 rfl) ?_
  refine sg_newqN 10 (N' := n1) F hB (F.1.2.2.2.2 _ (List.mem_cons_of_mem _ (mm_1 _ (List.mem_of_getElem? (i := 32) rfl)))) (by decide) rfl rfl (fun z => by have := i_lt z; have e : (0 : Int32).toInt = 0 := rfl; omega) (by show i.toInt.toNat = n1; omega) (by omega) (Nat.le_of_ble_eq_true rfl) (by show 0 + n1 ≤ n1; omega) dJ7_copyOf_6403c_7 (fun q7 H hq hsq hB => ?_)
  have hrq : r0 ≠ q7 := fun z => by rw [z, hq] at hr; exact absurd hr (by decide)
  have hr7 : sgT (sgNw σ q7 110 n1) r0 = 110 := by rw [sgNw_T, if_neg hrq]; exact hr
  have hn7 : sgN (sgNw σ q7 110 n1) r0 = n0 := by rw [sgNw_N, if_neg hrq]; exact hn
  have hq7 : sgT (sgNw σ q7 110 n1) q7 = 110 := by rw [sgNw_T, if_pos rfl]
  have hm7 : sgN (sgNw σ q7 110 n1) q7 = n1 := by rw [sgNw_N, if_pos rfl]
  refine lv_goto (tgt := 24) hx hb dJ7_copyOf_6403c_10 (by decide) ?_
  refine lv_astore_n (lv' := [(3, .ref _), (0, .ref _), (1, .int _), (2, .ref _)]) hx hb dJ7_copyOf_6403c_24 rfl hl (by decide) rfl (fun ls hl => ?_)
  refine lv_aload_n hx hb dJ7_copyOf_6403c_25 rfl (lv_at hl 1 rfl) ?_
  refine lv_iconst (v := 0) hx hb dJ7_copyOf_6403c_26 (by decide) ?_
  refine lv_aload_n hx hb dJ7_copyOf_6403c_27 rfl (lv_at hl 0 rfl) ?_
  refine lv_iconst (v := 0) hx hb dJ7_copyOf_6403c_28 (by decide) ?_
  refine lv_aload_n hx hb dJ7_copyOf_6403c_29 rfl (lv_at hl 1 rfl) ?_
  refine sg_alen 10 hx hb F.2.1 hB.1 rfl dJ7_copyOf_6403c_30 (by assumption) ?_
  refine lv_iload_n hx hb dJ7_copyOf_6403c_31 rfl (lv_at hl 2 rfl) ?_
  refine va_mmin hx hb (F.1.2.2.1.trans hl.1.symm) hown (F.1.2.2.2.2 _ (List.mem_cons_of_mem _ (mm_1 _ (List.mem_of_getElem? (i := 33) rfl)))) (F.1.2.2.2.2 _ (List.mem_cons_of_mem _ (mm_1 _ (List.mem_of_getElem? (i := 34) rfl)))) (F.1.2.2.2.2 _ (List.mem_cons_of_mem _ (mm_1 _ (List.mem_of_getElem? (i := 25) rfl)))) (F.1.2.2.2.2 _ (List.mem_cons_of_mem _ (mm_1 _ (List.mem_of_getElem? (i := 35) rfl)))) (Nat.le_of_ble_eq_true rfl) (Nat.le_of_ble_eq_true rfl) (Nat.le_of_ble_eq_true rfl) (show 0 + n1 ≤ n1 by omega) dJ7_copyOf_6403c_32 ?_
  have ew : (if i < nI (sgN (sgNw σ q7 110 n1) r0) then i else nI (sgN (sgNw σ q7 110 n1) r0)).toInt = min (n0 : Int) n1 := by
      have e2 := nI_toInt (n := n0) (by omega)
      rw [hn7]
      by_cases q : i < nI n0
      · rw [if_pos q]; have := i_lt q; omega
      · rw [if_neg q]; have := i_nlt q; omega
  generalize hw : (if i < nI (sgN (sgNw σ q7 110 n1) r0) then i else nI (sgN (sgNw σ q7 110 n1) r0)) = w at ew ⊢
  clear hw
  refine sg_copy F hB hl.1 (F.1.2.2.2.2 _ (List.mem_cons_of_mem _ (mm_1 _ (List.mem_of_getElem? (i := 36) rfl)))) (F.1.2.2.2.2 _ (List.mem_cons_of_mem _ (mm_1 _ (List.mem_of_getElem? (i := 37) rfl)))) (F.1.2.2.2.2 _ (List.mem_cons_of_mem _ (mm_1 _ (List.mem_of_getElem? (i := 38) rfl)))) (F.1.2.2.2.2 _ (List.mem_cons_of_mem _ (mm_1 _ (List.mem_of_getElem? (i := 39) rfl)))) dJ7_copyOf_6403c_35 hr7 hq7 (by decide) (by decide) (by omega) (by rw [hn7]; show (0 : Int) + _ ≤ _; omega) (by rw [hm7]; show (0 : Int) + _ ≤ _; omega) (fun j y hj hy => sgK_nw hq (hel j y (by omega) (by omega) (by have e0 : (0 : Int32).toInt.toNat + j = j := Nat.zero_add j; rw [e0, sgNw_R, if_neg hrq] at hy; exact hy))) (Nat.le_of_ble_eq_true rfl) (Nat.le_of_ble_eq_true rfl) (fun H locs hBn => ?_)
  clear hB; have hB := hBn; clear hBn
  refine lv_aload_n hx hb dJ7_copyOf_6403c_38 rfl (lv_at hl 0 rfl) ?_
  exact sg_aretp F hB hrt (Or.inr ⟨_, rfl⟩) (Or.inr ⟨_, rfl⟩) dJ7_copyOf_6403c_39 (by decide) (by omega) (by omega) (⟨q7, rfl, hq, by rw [show w.toInt.toNat = min n0 n1 by omega]; rfl⟩)
theorem dJ7_copyOf_1904c_0 : decode cJ7_copyOf_1904c 0 = .ok (.aload_n 0, 1) := by decide +kernel
theorem dJ7_copyOf_1904c_1 : decode cJ7_copyOf_1904c 1 = .ok (.iload_n 1, 1) := by decide +kernel
theorem dJ7_copyOf_1904c_2 : decode cJ7_copyOf_1904c 2 = .ok (.aload_n 0, 1) := by decide +kernel
theorem dJ7_copyOf_1904c_3 : decode cJ7_copyOf_1904c 3 = .ok (.invokevirtual 86, 3) := by decide +kernel
theorem dJ7_copyOf_1904c_6 : decode cJ7_copyOf_1904c 6 = .ok (.invokestatic 300, 3) := by decide +kernel
theorem dJ7_copyOf_1904c_9 : decode cJ7_copyOf_1904c 9 = .ok (.areturn, 1) := by decide +kernel
set_option maxRecDepth 100000 in
set_option maxHeartbeats 4000000 in
theorem m_copyOf (l : Launch) (D : va_G) (cy : Nat → ClassId) {eda ca : Nat} {ia : Nat → Nat} {σ : SG} {r0 n0 n1 : Nat} {i : Int32} (hr : sgT σ r0 = 110) (hn : sgN σ r0 = n0) (hn0 : n0 < 2000000) (hi : i.toInt = n1) (hn1 : n1 < 2000000) (hel : ∀ j y : Nat, j < n1 → j < n0 → sgR σ r0 j = some y → sgK ia σ y) (sz : Nat) : sgMp l D cy eda ca ia σ sz yJ7_copyOf_1904c (Cond.code yJ7_copyOf_1904c cJ7_copyOf_1904c 2 (some (.array (.object "java/lang/Object"))) :: mWall) 2 63 1 (n1) (n1) [.ref r0, .int i] (fun v σ2 => ∃ q : Nat, v = some (.ref q) ∧ sgT σ q = 0 ∧ sgCp (sgNw σ q 110 n1) r0 q 0 0 (min n0 n1) = σ2) := by
  refine sg_ofWp (cc := cJ7_copyOf_1904c) (maxL := 2) (ret := (some (.array (.object "java/lang/Object")))) (by decide) rfl (Nat.le_of_ble_eq_true rfl) (lv := [(0, .ref r0), (1, .int i)]) rfl (fun p e s m below meth c ls H N hN0 hrt hnm F hB hl => ?_) sz
  have hx := F.1.1
  have hb := F.1.2.1
  have hown := F.1.2.2.2.1
  subst hN0
  refine lv_aload_n hx hb dJ7_copyOf_1904c_0 rfl (lv_at hl 0 rfl) ?_
  refine lv_iload_n hx hb dJ7_copyOf_1904c_1 rfl (lv_at hl 1 rfl) ?_
  refine lv_aload_n hx hb dJ7_copyOf_1904c_2 rfl (lv_at hl 0 rfl) ?_
  refine va_getC hx hb (F.1.2.2.1.trans hl.1.symm) hown (F.1.2.2.2.2 _ (List.mem_cons_of_mem _ (mm_2 _ (List.mem_of_getElem? (i := 1) rfl)))) (va_Dc.use F.2.2.2.1.2.2.2.2.2.2.2.2.1) (F.1.2.2.2.2 _ (List.mem_cons_of_mem _ (mm_2 _ (List.mem_of_getElem? (i := 2) rfl)))) (F.1.2.2.2.2 _ (List.mem_cons_of_mem _ (mm_2 _ (List.mem_of_getElem? (i := 3) rfl)))) (F.1.2.2.2.2 _ (List.mem_cons_of_mem _ (mm_2 _ (List.mem_of_getElem? (i := 4) rfl)))) F.2.2.2.1.2.2.2.2.2.2.2.2.2.2.1 (sg_recvA F hB hr) (Nat.le_of_ble_eq_true rfl) (Nat.le_of_ble_eq_true rfl) dJ7_copyOf_1904c_3 ?_
  refine sg_callSp F hB (m_copyOf3 l D cy hr hn hn0 hi hn1 hel _) (cwS 3 F.1.2.2.2.2 (mgS (mm_2 _ (List.mem_of_getElem? (i := 5) rfl)) (mm_2 _ (List.mem_of_getElem? (i := 6) rfl)) (mm_2 _ (List.mem_of_getElem? (i := 7) rfl)) (mm_1 _ (List.mem_of_getElem? (i := 30) rfl))) rfl rfl rfl ⟨rfl, by decide, by decide, by decide +kernel⟩ ⟨Nat.le_of_ble_eq_true rfl, Nat.le_of_ble_eq_true rfl⟩) rfl hl.1 rfl (Nat.le_of_ble_eq_true rfl) dJ7_copyOf_1904c_6 (Nat.le_of_ble_eq_true rfl) (by show 0 + n1 ≤ n1; omega)  (fun H locs v σ6 N hG hXa hX6 hP hNN hNm => ?_)
  obtain ⟨q6, rfl, hq, rfl⟩ := hP
  have hBn := (⟨hG, hXa, by omega⟩ : sgB D cy s σ _ H locs N (0 + n1))
  clear hB; have hB := hBn; clear hBn
  exact sg_aretp F hB hrt (Or.inr ⟨_, rfl⟩) (Or.inr ⟨_, rfl⟩) dJ7_copyOf_1904c_9 (by decide) (by omega) (by omega) (⟨q6, rfl, hq, rfl⟩)
end MM5
