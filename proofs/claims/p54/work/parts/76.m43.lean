section MM43
theorem m_sx1 {x : Int32} : 0 ≤ (if x < (0 : Int32) then 0 else x).toInt := by
  by_cases q : x < (0 : Int32)
  · rw [if_pos q]
    decide
  · rw [if_neg q]
    have := i_nlt q
    have e : (0 : Int32).toInt = 0 := rfl
    omega
theorem m_sx2 {x : Int32} : (if (7 : Int32) < x then 7 else x).toInt ≤ 7 := by
  by_cases q : (7 : Int32) < x
  · rw [if_pos q]
    decide
  · rw [if_neg q]
    have := i_nlt q
    have e : (7 : Int32).toInt = 7 := rfl
    omega
section LDW
variable {p : Program} {l : Launch} {e : Env} {R : Room} {s : State} {m : MethodId} {args : Array Value} {below : List Frame} {meth : Method} {c : Code} {H : Heap} {locs : List Loc} {cells slots : Nat} {Q : State → Prop} {cc : ByteArray} {pc : Nat} {ls : Array Slot} {rest : List Value}
/-- a text by a wide index -/
theorem va_ldcWS (hexec : p.tables.exec = Jvm.exec) (hb : c.code = cc) {own tx : String} {index q : Nat} (hown : s.vm.findClass own = some m.cls) (hZ : vk_R own index tx q s) (hdg : decode cc pc = .ok (.ldc_w index, 3))
    (k : W p l e R s m args below meth c H locs cells slots Q (F0 m (pc + 3) ls (.ref q :: rest))) : W p l e R s m args below meth c H locs cells slots Q (F0 m pc ls rest) := by
  intro T hT X
  obtain ⟨t, a1, b1⟩ := k T hT X
  exact ⟨t, X.ldcStringW hexec hown (text := tx) (a := q) hZ.1 hZ.2 (g := F0 m pc ls rest) rfl (by rw [hb]; exact hdg) t a1, b1⟩
end LDW
theorem dJ0_isLatin1_aae02_0 : decode cJ0_isLatin1_aae02 0 = .ok (.getstatic 38, 3) := by decide +kernel
theorem dJ0_isLatin1_aae02_3 : decode cJ0_isLatin1_aae02 3 = .ok (.ifCond .eq 14, 3) := by decide +kernel
theorem dJ0_isLatin1_aae02_6 : decode cJ0_isLatin1_aae02 6 = .ok (.aload_n 0, 1) := by decide +kernel
theorem dJ0_isLatin1_aae02_7 : decode cJ0_isLatin1_aae02 7 = .ok (.getfield 15, 3) := by decide +kernel
theorem dJ0_isLatin1_aae02_10 : decode cJ0_isLatin1_aae02 10 = .ok (.ifCond .ne 7, 3) := by decide +kernel
theorem dJ0_isLatin1_aae02_13 : decode cJ0_isLatin1_aae02 13 = .ok (.iconst 1, 1) := by decide +kernel
theorem dJ0_isLatin1_aae02_14 : decode cJ0_isLatin1_aae02 14 = .ok (.goto 4, 3) := by decide +kernel
theorem dJ0_isLatin1_aae02_18 : decode cJ0_isLatin1_aae02 18 = .ok (.ireturn, 1) := by decide +kernel
set_option maxRecDepth 100000 in
set_option maxHeartbeats 4000000 in
theorem m_sLat (l : Launch) (D : va_G) (cy : Nat → ClassId) {eda ca : Nat} {ia : Nat → Nat} {σ : SG} (sz : Nat) : sgM l D cy eda ca ia σ sz yJ0_isLatin1_aae02 (Cond.code yJ0_isLatin1_aae02 cJ0_isLatin1_aae02 1 (some .boolean) :: mWall) 0 0 0 0 [.ref (ia 257)] (fun v σ2 => v = some (.int 1) ∧ σ = σ2) := by
  refine sg_ofW (cc := cJ0_isLatin1_aae02) (maxL := 1) (ret := (some .boolean)) (by decide) rfl (Nat.le_of_ble_eq_true rfl) (lv := [(0, .ref (ia 257))]) rfl (fun p e s m below meth c ls H N hrt hnm F hB hl => ?_) sz
  have hx := F.1.1
  have hb := F.1.2.1
  have hown := F.1.2.2.2.1
  refine va_gets hx hb F.2.2.2.1.2.2.2.2.2.2.2.2.2.2.2.2.2.2.2.2.2.2 hB.1.2.2 hown (F.1.2.2.2.2 _ (List.mem_cons_of_mem _ (mm_9 _ (List.mem_of_getElem? (i := 34) rfl)))) (fun _ h9 => h9) dJ0_isLatin1_aae02_0 ?_
  refine lv_if_eq (tgt := 17) hx hb dJ0_isLatin1_aae02_3 (by decide) (fun c3 => (by first | exact absurd c3 (by decide) | exact (c3 (by decide)).elim)) (fun c3 => ?_)
  refine lv_aload_n hx hb dJ0_isLatin1_aae02_6 rfl (lv_at hl 0 rfl) ?_
  refine va_getX hx hb (i := 0) F.2.2.2.1.2.2.2.2.2.2.2.2.2.2.2.2.2.2.2.2.1 (by decide) hB.1.2.2 hown (F.1.2.2.2.2 _ (List.mem_cons_of_mem _ (mm_9 _ (List.mem_of_getElem? (i := 35) rfl)))) (fun _ h9 => h9) dJ0_isLatin1_aae02_7 ?_
  refine lv_if_ne (tgt := 17) hx hb dJ0_isLatin1_aae02_10 (by decide) (fun c10 => (by first | exact absurd c10 (by decide) | exact (c10 (by decide)).elim)) (fun c10 => ?_)
  refine lv_iconst (v := 1) hx hb dJ0_isLatin1_aae02_13 (by decide) ?_
  refine lv_goto (tgt := 18) hx hb dJ0_isLatin1_aae02_14 (by decide) ?_
  exact sg_zret F hB hrt dJ0_isLatin1_aae02_18 (by decide) (by decide) rfl (⟨rfl, rfl⟩)
theorem dJ0_coder_7d493_0 : decode cJ0_coder_7d493 0 = .ok (.getstatic 38, 3) := by decide +kernel
theorem dJ0_coder_7d493_3 : decode cJ0_coder_7d493 3 = .ok (.ifCond .eq 10, 3) := by decide +kernel
theorem dJ0_coder_7d493_6 : decode cJ0_coder_7d493 6 = .ok (.aload_n 0, 1) := by decide +kernel
theorem dJ0_coder_7d493_7 : decode cJ0_coder_7d493 7 = .ok (.getfield 15, 3) := by decide +kernel
theorem dJ0_coder_7d493_10 : decode cJ0_coder_7d493 10 = .ok (.goto 4, 3) := by decide +kernel
theorem dJ0_coder_7d493_14 : decode cJ0_coder_7d493 14 = .ok (.ireturn, 1) := by decide +kernel
set_option maxRecDepth 100000 in
set_option maxHeartbeats 4000000 in
theorem m_sCod (l : Launch) (D : va_G) (cy : Nat → ClassId) {eda ca : Nat} {ia : Nat → Nat} {σ : SG} (sz : Nat) : sgM l D cy eda ca ia σ sz yJ0_coder_7d493 (Cond.code yJ0_coder_7d493 cJ0_coder_7d493 1 (some .byte) :: mWall) 0 0 0 0 [.ref (ia 257)] (fun v σ2 => v = some (.int 0) ∧ σ = σ2) := by
  refine sg_ofW (cc := cJ0_coder_7d493) (maxL := 1) (ret := (some .byte)) (by decide) rfl (Nat.le_of_ble_eq_true rfl) (lv := [(0, .ref (ia 257))]) rfl (fun p e s m below meth c ls H N hrt hnm F hB hl => ?_) sz
  have hx := F.1.1
  have hb := F.1.2.1
  have hown := F.1.2.2.2.1
  refine va_gets hx hb F.2.2.2.1.2.2.2.2.2.2.2.2.2.2.2.2.2.2.2.2.2.2 hB.1.2.2 hown (F.1.2.2.2.2 _ (List.mem_cons_of_mem _ (mm_9 _ (List.mem_of_getElem? (i := 34) rfl)))) (fun _ h9 => h9) dJ0_coder_7d493_0 ?_
  refine lv_if_eq (tgt := 13) hx hb dJ0_coder_7d493_3 (by decide) (fun c3 => (by first | exact absurd c3 (by decide) | exact (c3 (by decide)).elim)) (fun c3 => ?_)
  refine lv_aload_n hx hb dJ0_coder_7d493_6 rfl (lv_at hl 0 rfl) ?_
  refine va_getX hx hb (i := 0) F.2.2.2.1.2.2.2.2.2.2.2.2.2.2.2.2.2.2.2.2.1 (by decide) hB.1.2.2 hown (F.1.2.2.2.2 _ (List.mem_cons_of_mem _ (mm_9 _ (List.mem_of_getElem? (i := 35) rfl)))) (fun _ h9 => h9) dJ0_coder_7d493_7 ?_
  refine lv_goto (tgt := 14) hx hb dJ0_coder_7d493_10 (by decide) ?_
  exact sg_zret F hB hrt dJ0_coder_7d493_14 (by decide) (by decide) rfl (⟨rfl, rfl⟩)
theorem dJ0_length_8abf5_0 : decode cJ0_length_8abf5 0 = .ok (.aload_n 0, 1) := by decide +kernel
theorem dJ0_length_8abf5_1 : decode cJ0_length_8abf5 1 = .ok (.getfield 9, 3) := by decide +kernel
theorem dJ0_length_8abf5_4 : decode cJ0_length_8abf5 4 = .ok (.arraylength, 1) := by decide +kernel
theorem dJ0_length_8abf5_5 : decode cJ0_length_8abf5 5 = .ok (.aload_n 0, 1) := by decide +kernel
theorem dJ0_length_8abf5_6 : decode cJ0_length_8abf5 6 = .ok (.invokevirtual 335, 3) := by decide +kernel
theorem dJ0_length_8abf5_9 : decode cJ0_length_8abf5 9 = .ok (.ishr, 1) := by decide +kernel
theorem dJ0_length_8abf5_10 : decode cJ0_length_8abf5 10 = .ok (.ireturn, 1) := by decide +kernel
set_option maxRecDepth 100000 in
set_option maxHeartbeats 4000000 in
theorem m_sLen (l : Launch) (D : va_G) (cy : Nat → ClassId) {eda ca : Nat} {ia : Nat → Nat} {σ : SG} (sz : Nat) : sgM l D cy eda ca ia σ sz yJ0_length_8abf5 (Cond.code yJ0_length_8abf5 cJ0_length_8abf5 1 (some .int) :: mWall) 1 20 0 0 [.ref (ia 257)] (fun v σ2 => (∃ x : Int32, v = some (.int x)) ∧ σ = σ2) := by
  refine sg_ofW (cc := cJ0_length_8abf5) (maxL := 1) (ret := (some .int)) (by decide) rfl (Nat.le_of_ble_eq_true rfl) (lv := [(0, .ref (ia 257))]) rfl (fun p e s m below meth c ls H N hrt hnm F hB hl => ?_) sz
  have hx := F.1.1
  have hb := F.1.2.1
  have hown := F.1.2.2.2.1
  refine lv_aload_n hx hb dJ0_length_8abf5_0 rfl (lv_at hl 0 rfl) ?_
  refine va_getX hx hb (i := 0) F.2.2.2.1.2.2.2.2.2.2.2.2.2.2.2.2.2.2.2.1 (by decide) hB.1.2.2 hown (F.1.2.2.2.2 _ (List.mem_cons_of_mem _ (mm_9 _ (List.mem_of_getElem? (i := 38) rfl)))) (fun _ h9 => h9) dJ0_length_8abf5_1 ?_
  refine va_tlen (v := 7) hx hb F.2.2.2.1.2.2.2.2.2.2.2.2.2.2.2.2.2.2.2.2.2.1 hB.1.2.2 rfl dJ0_length_8abf5_4 ?_
  refine lv_aload_n hx hb dJ0_length_8abf5_5 rfl (lv_at hl 0 rfl) ?_
  refine sg_callVr F hB (m_sCod l D cy  _) (cwV 0 F.1.2.2.2.2 (mgV (mm_9 _ (List.mem_of_getElem? (i := 39) rfl)) (mm_10 _ (List.mem_of_getElem? (i := 0) rfl)) (mm_10 _ (List.mem_of_getElem? (i := 1) rfl)) (mm_10 _ (List.mem_of_getElem? (i := 2) rfl)) (mm_9 _ (List.mem_of_getElem? (i := 36) rfl))) rfl rfl rfl ⟨rfl, by decide, by decide, by decide +kernel⟩ ⟨Nat.le_of_ble_eq_true rfl, Nat.le_of_ble_eq_true rfl⟩) rfl hl.1 rfl (Nat.le_of_ble_eq_true rfl) dJ0_length_8abf5_6 (Nat.le_of_ble_eq_true rfl) (Nat.add_le_add_right (Nat.le_of_ble_eq_true rfl) _) (va_Orecv F.2.2.2.1.2.2.2.2.2.2.2.2.2.2.2.2.2.2.1 hB.1.2.2) (fun H locs v σ6 N hBn hX6 hP => ?_)
  clear hB; have hB := hBn; clear hBn
  obtain ⟨rfl, rfl⟩ := hP
  refine lv_ishr hx hb dJ0_length_8abf5_9 ?_
  exact sg_iret F hB hrt dJ0_length_8abf5_10 (by decide) (by decide) (⟨⟨_, rfl⟩, rfl⟩)
theorem dJ1_canEncode_9a6ad_0 : decode cJ1_canEncode_9a6ad 0 = .ok (.iload_n 0, 1) := by decide +kernel
theorem dJ1_canEncode_9a6ad_1 : decode cJ1_canEncode_9a6ad 1 = .ok (.ifCond .lt 14, 3) := by decide +kernel
theorem dJ1_canEncode_9a6ad_4 : decode cJ1_canEncode_9a6ad 4 = .ok (.iload_n 0, 1) := by decide +kernel
theorem dJ1_canEncode_9a6ad_5 : decode cJ1_canEncode_9a6ad 5 = .ok (.sipush 255, 3) := by decide +kernel
theorem dJ1_canEncode_9a6ad_8 : decode cJ1_canEncode_9a6ad 8 = .ok (.if_icmp .gt 7, 3) := by decide +kernel
theorem dJ1_canEncode_9a6ad_11 : decode cJ1_canEncode_9a6ad 11 = .ok (.iconst 1, 1) := by decide +kernel
theorem dJ1_canEncode_9a6ad_12 : decode cJ1_canEncode_9a6ad 12 = .ok (.goto 4, 3) := by decide +kernel
theorem dJ1_canEncode_9a6ad_15 : decode cJ1_canEncode_9a6ad 15 = .ok (.iconst 0, 1) := by decide +kernel
theorem dJ1_canEncode_9a6ad_16 : decode cJ1_canEncode_9a6ad 16 = .ok (.ireturn, 1) := by decide +kernel
set_option maxRecDepth 100000 in
set_option maxHeartbeats 4000000 in
theorem m_sCan (l : Launch) (D : va_G) (cy : Nat → ClassId) {eda ca : Nat} {ia : Nat → Nat} {σ : SG} (ch : Int32) (sz : Nat) : sgM l D cy eda ca ia σ sz yJ1_canEncode_9a6ad (Cond.code yJ1_canEncode_9a6ad cJ1_canEncode_9a6ad 1 (some .boolean) :: mWall) 0 0 0 0 [.int ch] (fun v σ2 => (∃ x : Int32, v = some (.int x)) ∧ σ = σ2) := by
  refine sg_ofW (cc := cJ1_canEncode_9a6ad) (maxL := 1) (ret := (some .boolean)) (by decide) rfl (Nat.le_of_ble_eq_true rfl) (lv := [(0, .int ch)]) rfl (fun p e s m below meth c ls H N hrt hnm F hB hl => ?_) sz
  have hx := F.1.1
  have hb := F.1.2.1
  have hown := F.1.2.2.2.1
  refine lv_iload_n hx hb dJ1_canEncode_9a6ad_0 rfl (lv_at hl 0 rfl) ?_
  refine lv_if_lt (tgt := 15) hx hb dJ1_canEncode_9a6ad_1 (by decide) (fun c1 => ?_) (fun c1 => ?_)
  · refine lv_iconst (v := 0) hx hb dJ1_canEncode_9a6ad_15 (by decide) ?_
    exact sg_zret F hB hrt dJ1_canEncode_9a6ad_16 (by decide) (by decide) rfl (⟨⟨_, rfl⟩, rfl⟩)
  · refine lv_iload_n hx hb dJ1_canEncode_9a6ad_4 rfl (lv_at hl 0 rfl) ?_
    refine lv_sipush (v := 255) hx hb dJ1_canEncode_9a6ad_5 (by decide) ?_
    refine lv_icmp_gt (tgt := 15) hx hb dJ1_canEncode_9a6ad_8 (by decide) (fun c8 => ?_) (fun c8 => ?_)
    · refine lv_iconst (v := 0) hx hb dJ1_canEncode_9a6ad_15 (by decide) ?_
      exact sg_zret F hB hrt dJ1_canEncode_9a6ad_16 (by decide) (by decide) rfl (⟨⟨_, rfl⟩, rfl⟩)
    · refine lv_iconst (v := 1) hx hb dJ1_canEncode_9a6ad_11 (by decide) ?_
      refine lv_goto (tgt := 16) hx hb dJ1_canEncode_9a6ad_12 (by decide) ?_
      exact sg_zret F hB hrt dJ1_canEncode_9a6ad_16 (by decide) (by decide) rfl (⟨⟨_, rfl⟩, rfl⟩)
theorem dJ1_indexOfChar_4cfef_0 : decode cJ1_indexOfChar_4cfef 0 = .ok (.iload_n 1, 1) := by decide +kernel
theorem dJ1_indexOfChar_4cfef_1 : decode cJ1_indexOfChar_4cfef 1 = .ok (.i2b, 1) := by decide +kernel
theorem dJ1_indexOfChar_4cfef_2 : decode cJ1_indexOfChar_4cfef 2 = .ok (.istore 4, 2) := by decide +kernel
theorem dJ1_indexOfChar_4cfef_4 : decode cJ1_indexOfChar_4cfef 4 = .ok (.iload_n 2, 1) := by decide +kernel
theorem dJ1_indexOfChar_4cfef_5 : decode cJ1_indexOfChar_4cfef 5 = .ok (.istore 5, 2) := by decide +kernel
theorem dJ1_indexOfChar_4cfef_7 : decode cJ1_indexOfChar_4cfef 7 = .ok (.iload 5, 2) := by decide +kernel
theorem dJ1_indexOfChar_4cfef_9 : decode cJ1_indexOfChar_4cfef 9 = .ok (.iload_n 3, 1) := by decide +kernel
theorem dJ1_indexOfChar_4cfef_10 : decode cJ1_indexOfChar_4cfef 10 = .ok (.if_icmp .ge 21, 3) := by decide +kernel
theorem dJ1_indexOfChar_4cfef_13 : decode cJ1_indexOfChar_4cfef 13 = .ok (.aload_n 0, 1) := by decide +kernel
theorem dJ1_indexOfChar_4cfef_14 : decode cJ1_indexOfChar_4cfef 14 = .ok (.iload 5, 2) := by decide +kernel
theorem dJ1_indexOfChar_4cfef_16 : decode cJ1_indexOfChar_4cfef 16 = .ok (.baload, 1) := by decide +kernel
theorem dJ1_indexOfChar_4cfef_17 : decode cJ1_indexOfChar_4cfef 17 = .ok (.iload 4, 2) := by decide +kernel
theorem dJ1_indexOfChar_4cfef_19 : decode cJ1_indexOfChar_4cfef 19 = .ok (.if_icmp .ne 6, 3) := by decide +kernel
theorem dJ1_indexOfChar_4cfef_22 : decode cJ1_indexOfChar_4cfef 22 = .ok (.iload 5, 2) := by decide +kernel
theorem dJ1_indexOfChar_4cfef_24 : decode cJ1_indexOfChar_4cfef 24 = .ok (.ireturn, 1) := by decide +kernel
theorem dJ1_indexOfChar_4cfef_25 : decode cJ1_indexOfChar_4cfef 25 = .ok (.iinc 5 1, 3) := by decide +kernel
theorem dJ1_indexOfChar_4cfef_28 : decode cJ1_indexOfChar_4cfef 28 = .ok (.goto (-21), 3) := by decide +kernel
theorem dJ1_indexOfChar_4cfef_31 : decode cJ1_indexOfChar_4cfef 31 = .ok (.iconst (-1), 1) := by decide +kernel
theorem dJ1_indexOfChar_4cfef_32 : decode cJ1_indexOfChar_4cfef 32 = .ok (.ireturn, 1) := by decide +kernel
set_option maxRecDepth 100000 in
set_option maxHeartbeats 4000000 in
theorem m_sIxC (l : Launch) (D : va_G) (cy : Nat → ClassId) {eda ca : Nat} {ia : Nat → Nat} {σ : SG} (ch f t : Int32) (hf : 0 ≤ f.toInt) (ht : t.toInt ≤ 7) (sz : Nat) : sgM l D cy eda ca ia σ sz yJ1_indexOfChar_4cfef (Cond.code yJ1_indexOfChar_4cfef cJ1_indexOfChar_4cfef 6 (some .int) :: mWall) 0 0 0 0 [.ref (ia 258), .int ch, .int f, .int t] (fun v σ2 => (∃ x : Int32, v = some (.int x)) ∧ σ = σ2) := by
  refine sg_ofW (cc := cJ1_indexOfChar_4cfef) (maxL := 6) (ret := (some .int)) (by decide) rfl (Nat.le_of_ble_eq_true rfl) (lv := [(0, .ref (ia 258)), (1, .int ch), (2, .int f), (3, .int t)]) rfl (fun p e s m below meth c ls H N hrt hnm F hB hl => ?_) sz
  have hx := F.1.1
  have hb := F.1.2.1
  have hown := F.1.2.2.2.1
  generalize hlo : ([] : List Loc) = locs at hB ⊢
  clear hlo
  refine lv_iload_n hx hb dJ1_indexOfChar_4cfef_0 rfl (lv_at hl 1 rfl) ?_
  refine lv_i2b hx hb dJ1_indexOfChar_4cfef_1 rfl ?_
  refine lv_istore (lv' := [(4, .int _), (0, .ref _), (1, .int _), (2, .int _), (3, .int _)]) hx hb dJ1_indexOfChar_4cfef_2 hl (by decide) rfl (fun ls hl => ?_)
  refine lv_iload_n hx hb dJ1_indexOfChar_4cfef_4 rfl (lv_at hl 3 rfl) ?_
  refine lv_istore (lv' := [(5, .int _), (4, .int _), (0, .ref _), (1, .int _), (2, .int _), (3, .int _)]) hx hb dJ1_indexOfChar_4cfef_5 hl (by decide) rfl (fun ls hl => ?_)
  have key7 : ∃ (i9 c9 : Int32), sgB D cy s σ σ H locs N 0 ∧ lv_has ls 6 [(5, .int i9), (4, .int c9), (3, .int t), (0, .ref (ia 258))] ∧ 0 ≤ i9.toInt := ⟨_, _, hB, (lv_sub hl [0, 1, 5, 2] rfl), hf⟩
  clear hB hl
  obtain ⟨i9, c9, hB, hl, hi0⟩ := key7
  obtain ⟨d7, hd7⟩ : ∃ d : Nat, d = t.toInt.toNat - i9.toInt.toNat := ⟨_, rfl⟩
  induction d7 using Nat.strongRecOn generalizing H locs ls N i9 c9
  rename_i d7 ih7
  refine lv_iload hx hb dJ1_indexOfChar_4cfef_7 (lv_at hl 0 rfl) ?_
  refine lv_iload_n hx hb dJ1_indexOfChar_4cfef_9 rfl (lv_at hl 2 rfl) ?_
  refine lv_icmp_ge (tgt := 31) hx hb dJ1_indexOfChar_4cfef_10 (by decide) (fun c10 => ?_) (fun c10 => ?_)
  · refine lv_iconst (v := (-1)) hx hb dJ1_indexOfChar_4cfef_31 (by decide) ?_
    exact sg_iret F hB hrt dJ1_indexOfChar_4cfef_32 (by decide) (by decide) (⟨⟨_, rfl⟩, rfl⟩)
  · have hi4 := i_nle c10
    refine lv_aload_n hx hb dJ1_indexOfChar_4cfef_13 rfl (lv_at hl 3 rfl) ?_
    refine lv_iload hx hb dJ1_indexOfChar_4cfef_14 (lv_at hl 0 rfl) ?_
    refine va_tb hx hb F.2.2.2.1.2.2.2.2.2.2.2.2.2.2.2.2.2.2.2.2.2.1 hB.1.2.2 (sg_vpin hi0 (show i9.toInt < ((7 : Nat) : Int) by omega) (by decide)).1 rfl dJ1_indexOfChar_4cfef_16 ?_
    refine lv_iload hx hb dJ1_indexOfChar_4cfef_17 (lv_at hl 1 rfl) ?_
    refine lv_icmp_ne (tgt := 25) hx hb dJ1_indexOfChar_4cfef_19 (by decide) (fun c19 => ?_) (fun c19 => ?_)
    · refine lv_iinc (lv' := [(5, .int _), (4, .int _), (3, .int _), (0, .ref _)]) hx hb dJ1_indexOfChar_4cfef_25 hl (k := 0) rfl rfl (by decide) rfl (fun ls hl => ?_)
      refine lv_goto (tgt := 7) hx hb dJ1_indexOfChar_4cfef_28 (by decide) ?_
      have e8 : (i9 + Int32.ofInt 1).toInt = i9.toInt + 1 := m_add1 (by omega) (by omega)
      exact ih7 _ (by subst hd7; rw [e8]; omega) _ _ _ _ _ _ hB (lv_sub hl [0, 1, 2, 3] rfl) (by rw [e8]; omega) rfl
    · refine lv_iload hx hb dJ1_indexOfChar_4cfef_22 (lv_at hl 0 rfl) ?_
      exact sg_iret F hB hrt dJ1_indexOfChar_4cfef_24 (by decide) (by decide) (⟨⟨_, rfl⟩, rfl⟩)
theorem dJ1_indexOf_4cfef_0 : decode cJ1_indexOf_4cfef 0 = .ok (.iload_n 1, 1) := by decide +kernel
theorem dJ1_indexOf_4cfef_1 : decode cJ1_indexOf_4cfef 1 = .ok (.invokestatic 88, 3) := by decide +kernel
theorem dJ1_indexOf_4cfef_4 : decode cJ1_indexOf_4cfef 4 = .ok (.ifCond .ne 5, 3) := by decide +kernel
theorem dJ1_indexOf_4cfef_7 : decode cJ1_indexOf_4cfef 7 = .ok (.iconst (-1), 1) := by decide +kernel
theorem dJ1_indexOf_4cfef_8 : decode cJ1_indexOf_4cfef 8 = .ok (.ireturn, 1) := by decide +kernel
theorem dJ1_indexOf_4cfef_9 : decode cJ1_indexOf_4cfef 9 = .ok (.iload_n 2, 1) := by decide +kernel
theorem dJ1_indexOf_4cfef_10 : decode cJ1_indexOf_4cfef 10 = .ok (.iconst 0, 1) := by decide +kernel
theorem dJ1_indexOf_4cfef_11 : decode cJ1_indexOf_4cfef 11 = .ok (.invokestatic 92, 3) := by decide +kernel
theorem dJ1_indexOf_4cfef_14 : decode cJ1_indexOf_4cfef 14 = .ok (.istore_n 2, 1) := by decide +kernel
theorem dJ1_indexOf_4cfef_15 : decode cJ1_indexOf_4cfef 15 = .ok (.iload_n 3, 1) := by decide +kernel
theorem dJ1_indexOf_4cfef_16 : decode cJ1_indexOf_4cfef 16 = .ok (.aload_n 0, 1) := by decide +kernel
theorem dJ1_indexOf_4cfef_17 : decode cJ1_indexOf_4cfef 17 = .ok (.arraylength, 1) := by decide +kernel
theorem dJ1_indexOf_4cfef_18 : decode cJ1_indexOf_4cfef 18 = .ok (.invokestatic 38, 3) := by decide +kernel
theorem dJ1_indexOf_4cfef_21 : decode cJ1_indexOf_4cfef 21 = .ok (.istore_n 3, 1) := by decide +kernel
theorem dJ1_indexOf_4cfef_22 : decode cJ1_indexOf_4cfef 22 = .ok (.iload_n 2, 1) := by decide +kernel
theorem dJ1_indexOf_4cfef_23 : decode cJ1_indexOf_4cfef 23 = .ok (.iload_n 3, 1) := by decide +kernel
theorem dJ1_indexOf_4cfef_24 : decode cJ1_indexOf_4cfef 24 = .ok (.if_icmp .lt 5, 3) := by decide +kernel
theorem dJ1_indexOf_4cfef_27 : decode cJ1_indexOf_4cfef 27 = .ok (.iconst (-1), 1) := by decide +kernel
theorem dJ1_indexOf_4cfef_28 : decode cJ1_indexOf_4cfef 28 = .ok (.ireturn, 1) := by decide +kernel
theorem dJ1_indexOf_4cfef_29 : decode cJ1_indexOf_4cfef 29 = .ok (.aload_n 0, 1) := by decide +kernel
theorem dJ1_indexOf_4cfef_30 : decode cJ1_indexOf_4cfef 30 = .ok (.iload_n 1, 1) := by decide +kernel
theorem dJ1_indexOf_4cfef_31 : decode cJ1_indexOf_4cfef 31 = .ok (.iload_n 2, 1) := by decide +kernel
theorem dJ1_indexOf_4cfef_32 : decode cJ1_indexOf_4cfef 32 = .ok (.iload_n 3, 1) := by decide +kernel
theorem dJ1_indexOf_4cfef_33 : decode cJ1_indexOf_4cfef 33 = .ok (.invokestatic 95, 3) := by decide +kernel
theorem dJ1_indexOf_4cfef_36 : decode cJ1_indexOf_4cfef 36 = .ok (.ireturn, 1) := by decide +kernel
set_option maxRecDepth 100000 in
set_option maxHeartbeats 4000000 in
theorem m_sIx4 (l : Launch) (D : va_G) (cy : Nat → ClassId) {eda ca : Nat} {ia : Nat → Nat} {σ : SG} (ch f t : Int32) (sz : Nat) : sgM l D cy eda ca ia σ sz yJ1_indexOf_4cfef (Cond.code yJ1_indexOf_4cfef cJ1_indexOf_4cfef 4 (some .int) :: mWall) 1 25 0 0 [.ref (ia 258), .int ch, .int f, .int t] (fun v σ2 => (∃ x : Int32, v = some (.int x)) ∧ σ = σ2) := by
  refine sg_ofW (cc := cJ1_indexOf_4cfef) (maxL := 4) (ret := (some .int)) (by decide) rfl (Nat.le_of_ble_eq_true rfl) (lv := [(0, .ref (ia 258)), (1, .int ch), (2, .int f), (3, .int t)]) rfl (fun p e s m below meth c ls H N hrt hnm F hB hl => ?_) sz
  have hx := F.1.1
  have hb := F.1.2.1
  have hown := F.1.2.2.2.1
  refine lv_iload_n hx hb dJ1_indexOf_4cfef_0 rfl (lv_at hl 1 rfl) ?_
  refine sg_callS F hB (m_sCan l D cy ch _) (cwS 1 F.1.2.2.2.2 (mgS (mm_10 _ (List.mem_of_getElem? (i := 8) rfl)) (mm_10 _ (List.mem_of_getElem? (i := 9) rfl)) (mm_10 _ (List.mem_of_getElem? (i := 10) rfl)) (mm_10 _ (List.mem_of_getElem? (i := 3) rfl))) rfl rfl rfl ⟨rfl, by decide, by decide, by decide +kernel⟩ ⟨Nat.le_of_ble_eq_true rfl, Nat.le_of_ble_eq_true rfl⟩) rfl hl.1 rfl (Nat.le_of_ble_eq_true rfl) dJ1_indexOf_4cfef_1 (Nat.le_of_ble_eq_true rfl) (Nat.add_le_add_right (Nat.le_of_ble_eq_true rfl) _)  (fun H locs v σ1 N hBn hX1 hP => ?_)
  clear hB; have hB := hBn; clear hBn
  obtain ⟨⟨x1, rfl⟩, rfl⟩ := hP
  refine lv_if_ne (tgt := 9) hx hb dJ1_indexOf_4cfef_4 (by decide) (fun c4 => ?_) (fun c4 => ?_)
  · refine lv_iload_n hx hb dJ1_indexOf_4cfef_9 rfl (lv_at hl 2 rfl) ?_
    refine lv_iconst (v := 0) hx hb dJ1_indexOf_4cfef_10 (by decide) ?_
    refine va_mmax hx hb (F.1.2.2.1.trans hl.1.symm) hown (F.1.2.2.2.2 _ (List.mem_cons_of_mem _ (mm_10 _ (List.mem_of_getElem? (i := 6) rfl)))) (F.1.2.2.2.2 _ (List.mem_cons_of_mem _ (mm_1 _ (List.mem_of_getElem? (i := 24) rfl)))) (F.1.2.2.2.2 _ (List.mem_cons_of_mem _ (mm_1 _ (List.mem_of_getElem? (i := 25) rfl)))) (F.1.2.2.2.2 _ (List.mem_cons_of_mem _ (mm_1 _ (List.mem_of_getElem? (i := 26) rfl)))) (Nat.le_of_ble_eq_true rfl) (Nat.le_of_ble_eq_true rfl) (Nat.le_of_ble_eq_true rfl) (Nat.le_trans (Nat.le_trans (Nat.le_add_right _ _) hB.2.2) (Nat.add_le_add_right (Nat.le_of_ble_eq_true rfl) _)) dJ1_indexOf_4cfef_11 ?_
    refine lv_istore_n (lv' := [(2, .int _), (0, .ref _), (1, .int _), (3, .int _)]) hx hb dJ1_indexOf_4cfef_14 rfl hl (by decide) rfl (fun ls hl => ?_)
    refine lv_iload_n hx hb dJ1_indexOf_4cfef_15 rfl (lv_at hl 3 rfl) ?_
    refine lv_aload_n hx hb dJ1_indexOf_4cfef_16 rfl (lv_at hl 1 rfl) ?_
    refine va_tlen (v := 7) hx hb F.2.2.2.1.2.2.2.2.2.2.2.2.2.2.2.2.2.2.2.2.2.1 hB.1.2.2 rfl dJ1_indexOf_4cfef_17 ?_
    refine va_mmin hx hb (F.1.2.2.1.trans hl.1.symm) hown (F.1.2.2.2.2 _ (List.mem_cons_of_mem _ (mm_10 _ (List.mem_of_getElem? (i := 7) rfl)))) (F.1.2.2.2.2 _ (List.mem_cons_of_mem _ (mm_1 _ (List.mem_of_getElem? (i := 34) rfl)))) (F.1.2.2.2.2 _ (List.mem_cons_of_mem _ (mm_1 _ (List.mem_of_getElem? (i := 25) rfl)))) (F.1.2.2.2.2 _ (List.mem_cons_of_mem _ (mm_1 _ (List.mem_of_getElem? (i := 35) rfl)))) (Nat.le_of_ble_eq_true rfl) (Nat.le_of_ble_eq_true rfl) (Nat.le_of_ble_eq_true rfl) (Nat.le_trans (Nat.le_trans (Nat.le_add_right _ _) hB.2.2) (Nat.add_le_add_right (Nat.le_of_ble_eq_true rfl) _)) dJ1_indexOf_4cfef_18 ?_
    refine lv_istore_n (lv' := [(3, .int _), (2, .int _), (0, .ref _), (1, .int _)]) hx hb dJ1_indexOf_4cfef_21 rfl hl (by decide) rfl (fun ls hl => ?_)
    refine lv_iload_n hx hb dJ1_indexOf_4cfef_22 rfl (lv_at hl 1 rfl) ?_
    refine lv_iload_n hx hb dJ1_indexOf_4cfef_23 rfl (lv_at hl 0 rfl) ?_
    refine lv_icmp_lt (tgt := 29) hx hb dJ1_indexOf_4cfef_24 (by decide) (fun c24 => ?_) (fun c24 => ?_)
    · refine lv_aload_n hx hb dJ1_indexOf_4cfef_29 rfl (lv_at hl 2 rfl) ?_
      refine lv_iload_n hx hb dJ1_indexOf_4cfef_30 rfl (lv_at hl 3 rfl) ?_
      refine lv_iload_n hx hb dJ1_indexOf_4cfef_31 rfl (lv_at hl 1 rfl) ?_
      refine lv_iload_n hx hb dJ1_indexOf_4cfef_32 rfl (lv_at hl 0 rfl) ?_
      refine sg_callS F hB (m_sIxC l D cy ch _ _ m_sx1 m_sx2 _) (cwS 4 F.1.2.2.2.2 (mgS (mm_10 _ (List.mem_of_getElem? (i := 11) rfl)) (mm_10 _ (List.mem_of_getElem? (i := 12) rfl)) (mm_10 _ (List.mem_of_getElem? (i := 10) rfl)) (mm_10 _ (List.mem_of_getElem? (i := 4) rfl))) rfl rfl rfl ⟨rfl, by decide, by decide, by decide +kernel⟩ ⟨Nat.le_of_ble_eq_true rfl, Nat.le_of_ble_eq_true rfl⟩) rfl hl.1 rfl (Nat.le_of_ble_eq_true rfl) dJ1_indexOf_4cfef_33 (Nat.le_of_ble_eq_true rfl) (Nat.add_le_add_right (Nat.le_of_ble_eq_true rfl) _)  (fun H locs v σ33 N hBn hX33 hP => ?_)
      clear hB; have hB := hBn; clear hBn
      obtain ⟨⟨x33, rfl⟩, rfl⟩ := hP
      exact sg_iret F hB hrt dJ1_indexOf_4cfef_36 (by decide) (by decide) (⟨⟨_, rfl⟩, rfl⟩)
    · refine lv_iconst (v := (-1)) hx hb dJ1_indexOf_4cfef_27 (by decide) ?_
      exact sg_iret F hB hrt dJ1_indexOf_4cfef_28 (by decide) (by decide) (⟨⟨_, rfl⟩, rfl⟩)
  · refine lv_iconst (v := (-1)) hx hb dJ1_indexOf_4cfef_7 (by decide) ?_
    exact sg_iret F hB hrt dJ1_indexOf_4cfef_8 (by decide) (by decide) (⟨⟨_, rfl⟩, rfl⟩)
theorem dJ0_indexOf_7cf53_0 : decode cJ0_indexOf_7cf53 0 = .ok (.aload_n 0, 1) := by decide +kernel
theorem dJ0_indexOf_7cf53_1 : decode cJ0_indexOf_7cf53 1 = .ok (.invokevirtual 492, 3) := by decide +kernel
theorem dJ0_indexOf_7cf53_4 : decode cJ0_indexOf_7cf53 4 = .ok (.ifCond .eq 19, 3) := by decide +kernel
theorem dJ0_indexOf_7cf53_7 : decode cJ0_indexOf_7cf53 7 = .ok (.aload_n 0, 1) := by decide +kernel
theorem dJ0_indexOf_7cf53_8 : decode cJ0_indexOf_7cf53 8 = .ok (.getfield 9, 3) := by decide +kernel
theorem dJ0_indexOf_7cf53_11 : decode cJ0_indexOf_7cf53 11 = .ok (.iload_n 1, 1) := by decide +kernel
theorem dJ0_indexOf_7cf53_12 : decode cJ0_indexOf_7cf53 12 = .ok (.iload_n 2, 1) := by decide +kernel
theorem dJ0_indexOf_7cf53_13 : decode cJ0_indexOf_7cf53 13 = .ok (.aload_n 0, 1) := by decide +kernel
theorem dJ0_indexOf_7cf53_14 : decode cJ0_indexOf_7cf53 14 = .ok (.invokevirtual 505, 3) := by decide +kernel
theorem dJ0_indexOf_7cf53_17 : decode cJ0_indexOf_7cf53 17 = .ok (.invokestatic 637, 3) := by decide +kernel
theorem dJ0_indexOf_7cf53_20 : decode cJ0_indexOf_7cf53 20 = .ok (.goto 16, 3) := by decide +kernel
theorem dJ0_indexOf_7cf53_36 : decode cJ0_indexOf_7cf53 36 = .ok (.ireturn, 1) := by decide +kernel
set_option maxRecDepth 100000 in
set_option maxHeartbeats 4000000 in
theorem m_sIx2 (l : Launch) (D : va_G) (cy : Nat → ClassId) {eda ca : Nat} {ia : Nat → Nat} {σ : SG} (ch f : Int32) (sz : Nat) : sgM l D cy eda ca ia σ sz yJ0_indexOf_7cf53 (Cond.code yJ0_indexOf_7cf53 cJ0_indexOf_7cf53 3 (some .int) :: mWall) 2 48 0 0 [.ref (ia 257), .int ch, .int f] (fun v σ2 => (∃ x : Int32, v = some (.int x)) ∧ σ = σ2) := by
  refine sg_ofW (cc := cJ0_indexOf_7cf53) (maxL := 3) (ret := (some .int)) (by decide) rfl (Nat.le_of_ble_eq_true rfl) (lv := [(0, .ref (ia 257)), (1, .int ch), (2, .int f)]) rfl (fun p e s m below meth c ls H N hrt hnm F hB hl => ?_) sz
  have hx := F.1.1
  have hb := F.1.2.1
  have hown := F.1.2.2.2.1
  refine lv_aload_n hx hb dJ0_indexOf_7cf53_0 rfl (lv_at hl 0 rfl) ?_
  refine sg_callVr F hB (m_sLat l D cy  _) (cwV 0 F.1.2.2.2.2 (mgV (mm_11 _ (List.mem_of_getElem? (i := 18) rfl)) (mm_11 _ (List.mem_of_getElem? (i := 19) rfl)) (mm_11 _ (List.mem_of_getElem? (i := 20) rfl)) (mm_10 _ (List.mem_of_getElem? (i := 2) rfl)) (mm_9 _ (List.mem_of_getElem? (i := 33) rfl))) rfl rfl rfl ⟨rfl, by decide, by decide, by decide +kernel⟩ ⟨Nat.le_of_ble_eq_true rfl, Nat.le_of_ble_eq_true rfl⟩) rfl hl.1 rfl (Nat.le_of_ble_eq_true rfl) dJ0_indexOf_7cf53_1 (Nat.le_of_ble_eq_true rfl) (Nat.add_le_add_right (Nat.le_of_ble_eq_true rfl) _) (va_Orecv F.2.2.2.1.2.2.2.2.2.2.2.2.2.2.2.2.2.2.1 hB.1.2.2) (fun H locs v σ1 N hBn hX1 hP => ?_)
  clear hB; have hB := hBn; clear hBn
  obtain ⟨rfl, rfl⟩ := hP
  refine lv_if_eq (tgt := 23) hx hb dJ0_indexOf_7cf53_4 (by decide) (fun c4 => (by first | exact absurd c4 (by decide) | exact (c4 (by decide)).elim)) (fun c4 => ?_)
  refine lv_aload_n hx hb dJ0_indexOf_7cf53_7 rfl (lv_at hl 0 rfl) ?_
  refine va_getX hx hb (i := 0) F.2.2.2.1.2.2.2.2.2.2.2.2.2.2.2.2.2.2.2.1 (by decide) hB.1.2.2 hown (F.1.2.2.2.2 _ (List.mem_cons_of_mem _ (mm_9 _ (List.mem_of_getElem? (i := 38) rfl)))) (fun _ h9 => h9) dJ0_indexOf_7cf53_8 ?_
  refine lv_iload_n hx hb dJ0_indexOf_7cf53_11 rfl (lv_at hl 1 rfl) ?_
  refine lv_iload_n hx hb dJ0_indexOf_7cf53_12 rfl (lv_at hl 2 rfl) ?_
  refine lv_aload_n hx hb dJ0_indexOf_7cf53_13 rfl (lv_at hl 0 rfl) ?_
  refine sg_callVr F hB (m_sLen l D cy  _) (cwV 0 F.1.2.2.2.2 (mgV (mm_11 _ (List.mem_of_getElem? (i := 21) rfl)) (mm_11 _ (List.mem_of_getElem? (i := 22) rfl)) (mm_11 _ (List.mem_of_getElem? (i := 23) rfl)) (mm_10 _ (List.mem_of_getElem? (i := 2) rfl)) (mm_9 _ (List.mem_of_getElem? (i := 37) rfl))) rfl rfl rfl ⟨rfl, by decide, by decide, by decide +kernel⟩ ⟨Nat.le_of_ble_eq_true rfl, Nat.le_of_ble_eq_true rfl⟩) rfl hl.1 rfl (Nat.le_of_ble_eq_true rfl) dJ0_indexOf_7cf53_14 (Nat.le_of_ble_eq_true rfl) (Nat.add_le_add_right (Nat.le_of_ble_eq_true rfl) _) (va_Orecv F.2.2.2.1.2.2.2.2.2.2.2.2.2.2.2.2.2.2.1 hB.1.2.2) (fun H locs v σ14 N hBn hX14 hP => ?_)
  clear hB; have hB := hBn; clear hBn
  obtain ⟨⟨x14, rfl⟩, rfl⟩ := hP
  refine sg_callS F hB (m_sIx4 l D cy ch f _ _) (va_cwS 4 F.1.2.2.2.2 (mgS2 (mm_11 _ (List.mem_of_getElem? (i := 24) rfl)) (mm_11 _ (List.mem_of_getElem? (i := 25) rfl)) (mm_10 _ (List.mem_of_getElem? (i := 10) rfl)) (mm_10 _ (List.mem_of_getElem? (i := 5) rfl))) rfl rfl rfl ⟨by decide, by decide, by decide +kernel⟩ ⟨Nat.le_of_ble_eq_true rfl, Nat.le_of_ble_eq_true rfl⟩) rfl hl.1 rfl (Nat.le_of_ble_eq_true rfl) dJ0_indexOf_7cf53_17 (Nat.le_of_ble_eq_true rfl) (Nat.add_le_add_right (Nat.le_of_ble_eq_true rfl) _)  (fun H locs v σ17 N hBn hX17 hP => ?_)
  clear hB; have hB := hBn; clear hBn
  obtain ⟨⟨x17, rfl⟩, rfl⟩ := hP
  refine lv_goto (tgt := 36) hx hb dJ0_indexOf_7cf53_20 (by decide) ?_
  exact sg_iret F hB hrt dJ0_indexOf_7cf53_36 (by decide) (by decide) (⟨⟨_, rfl⟩, rfl⟩)
theorem dJ0_indexOf_0f7a4_0 : decode cJ0_indexOf_0f7a4 0 = .ok (.aload_n 0, 1) := by decide +kernel
theorem dJ0_indexOf_0f7a4_1 : decode cJ0_indexOf_0f7a4 1 = .ok (.iload_n 1, 1) := by decide +kernel
theorem dJ0_indexOf_0f7a4_2 : decode cJ0_indexOf_0f7a4 2 = .ok (.iconst 0, 1) := by decide +kernel
theorem dJ0_indexOf_0f7a4_3 : decode cJ0_indexOf_0f7a4 3 = .ok (.invokevirtual 633, 3) := by decide +kernel
theorem dJ0_indexOf_0f7a4_6 : decode cJ0_indexOf_0f7a4 6 = .ok (.ireturn, 1) := by decide +kernel
set_option maxRecDepth 100000 in
set_option maxHeartbeats 4000000 in
theorem m_sIx (l : Launch) (D : va_G) (cy : Nat → ClassId) {eda ca : Nat} {ia : Nat → Nat} {σ : SG} (ch : Int32) (sz : Nat) : sgM l D cy eda ca ia σ sz yJ0_indexOf_0f7a4 (Cond.code yJ0_indexOf_0f7a4 cJ0_indexOf_0f7a4 2 (some .int) :: mWall) 3 70 0 0 [.ref (ia 257), .int ch] (fun v σ2 => (∃ x : Int32, v = some (.int x)) ∧ σ = σ2) := by
  refine sg_ofW (cc := cJ0_indexOf_0f7a4) (maxL := 2) (ret := (some .int)) (by decide) rfl (Nat.le_of_ble_eq_true rfl) (lv := [(0, .ref (ia 257)), (1, .int ch)]) rfl (fun p e s m below meth c ls H N hrt hnm F hB hl => ?_) sz
  have hx := F.1.1
  have hb := F.1.2.1
  have hown := F.1.2.2.2.1
  refine lv_aload_n hx hb dJ0_indexOf_0f7a4_0 rfl (lv_at hl 0 rfl) ?_
  refine lv_iload_n hx hb dJ0_indexOf_0f7a4_1 rfl (lv_at hl 1 rfl) ?_
  refine lv_iconst (v := 0) hx hb dJ0_indexOf_0f7a4_2 (by decide) ?_
  refine sg_callVr F hB (m_sIx2 l D cy ch 0 _) (cwV 2 F.1.2.2.2.2 (mgV (mm_11 _ (List.mem_of_getElem? (i := 29) rfl)) (mm_11 _ (List.mem_of_getElem? (i := 30) rfl)) (mm_11 _ (List.mem_of_getElem? (i := 31) rfl)) (mm_10 _ (List.mem_of_getElem? (i := 2) rfl)) (mm_11 _ (List.mem_of_getElem? (i := 28) rfl))) rfl rfl rfl ⟨rfl, by decide, by decide, by decide +kernel⟩ ⟨Nat.le_of_ble_eq_true rfl, Nat.le_of_ble_eq_true rfl⟩) rfl hl.1 rfl (Nat.le_of_ble_eq_true rfl) dJ0_indexOf_0f7a4_3 (Nat.le_of_ble_eq_true rfl) (Nat.add_le_add_right (Nat.le_of_ble_eq_true rfl) _) (va_Orecv F.2.2.2.1.2.2.2.2.2.2.2.2.2.2.2.2.2.2.1 hB.1.2.2) (fun H locs v σ3 N hBn hX3 hP => ?_)
  clear hB; have hB := hBn; clear hBn
  obtain ⟨⟨x3, rfl⟩, rfl⟩ := hP
  exact sg_iret F hB hrt dJ0_indexOf_0f7a4_6 (by decide) (by decide) (⟨⟨_, rfl⟩, rfl⟩)
theorem dX14_fault_0 : decode cX14_fault 0 = .ok (.aload_n 0, 1) := by decide +kernel
theorem dX14_fault_1 : decode cX14_fault 1 = .ok (.iload_n 1, 1) := by decide +kernel
theorem dX14_fault_2 : decode cX14_fault 2 = .ok (.invokevirtual 149, 3) := by decide +kernel
theorem dX14_fault_5 : decode cX14_fault 5 = .ok (.ifCond .eq 20, 3) := by decide +kernel
theorem dX14_fault_8 : decode cX14_fault 8 = .ok (.iload_n 2, 1) := by decide +kernel
theorem dX14_fault_9 : decode cX14_fault 9 = .ok (.ifCond .eq 12, 3) := by decide +kernel
theorem dX14_fault_12 : decode cX14_fault 12 = .ok (.aload_n 0, 1) := by decide +kernel
theorem dX14_fault_13 : decode cX14_fault 13 = .ok (.iload_n 1, 1) := by decide +kernel
theorem dX14_fault_14 : decode cX14_fault 14 = .ok (.iload_n 2, 1) := by decide +kernel
theorem dX14_fault_15 : decode cX14_fault 15 = .ok (.invokevirtual 256, 3) := by decide +kernel
theorem dX14_fault_18 : decode cX14_fault 18 = .ok (.ifCond .eq 7, 3) := by decide +kernel
theorem dX14_fault_21 : decode cX14_fault 21 = .ok (.iconst 1, 1) := by decide +kernel
theorem dX14_fault_22 : decode cX14_fault 22 = .ok (.goto 4, 3) := by decide +kernel
theorem dX14_fault_25 : decode cX14_fault 25 = .ok (.iconst 0, 1) := by decide +kernel
theorem dX14_fault_26 : decode cX14_fault 26 = .ok (.istore 5, 2) := by decide +kernel
theorem dX14_fault_28 : decode cX14_fault 28 = .ok (.aload_n 0, 1) := by decide +kernel
theorem dX14_fault_29 : decode cX14_fault 29 = .ok (.iload 5, 2) := by decide +kernel
theorem dX14_fault_31 : decode cX14_fault 31 = .ok (.ifCond .ne 7, 3) := by decide +kernel
theorem dX14_fault_34 : decode cX14_fault 34 = .ok (.iconst 1, 1) := by decide +kernel
theorem dX14_fault_35 : decode cX14_fault 35 = .ok (.goto 29, 3) := by decide +kernel
theorem dX14_fault_38 : decode cX14_fault 38 = .ok (.ldc_w 327, 3) := by decide +kernel
theorem dX14_fault_41 : decode cX14_fault 41 = .ok (.iload_n 3, 1) := by decide +kernel
theorem dX14_fault_42 : decode cX14_fault 42 = .ok (.invokevirtual 329, 3) := by decide +kernel
theorem dX14_fault_45 : decode cX14_fault 45 = .ok (.ifCond .lt 14, 3) := by decide +kernel
theorem dX14_fault_48 : decode cX14_fault 48 = .ok (.iload 4, 2) := by decide +kernel
theorem dX14_fault_50 : decode cX14_fault 50 = .ok (.iconst 1, 1) := by decide +kernel
theorem dX14_fault_51 : decode cX14_fault 51 = .ok (.bipush 9, 2) := by decide +kernel
theorem dX14_fault_53 : decode cX14_fault 53 = .ok (.invokestatic 68, 3) := by decide +kernel
theorem dX14_fault_56 : decode cX14_fault 56 = .ok (.ifCond .ne 7, 3) := by decide +kernel
theorem dX14_fault_59 : decode cX14_fault 59 = .ok (.iconst 2, 1) := by decide +kernel
theorem dX14_fault_60 : decode cX14_fault 60 = .ok (.goto 4, 3) := by decide +kernel
theorem dX14_fault_63 : decode cX14_fault 63 = .ok (.iconst 0, 1) := by decide +kernel
theorem dX14_fault_64 : decode cX14_fault 64 = .ok (.putfield 61, 3) := by decide +kernel
theorem dX14_fault_67 : decode cX14_fault 67 = .ok (.aload_n 0, 1) := by decide +kernel
theorem dX14_fault_68 : decode cX14_fault 68 = .ok (.getfield 61, 3) := by decide +kernel
theorem dX14_fault_71 : decode cX14_fault 71 = .ok (.ifCond .le 5, 3) := by decide +kernel
theorem dX14_fault_74 : decode cX14_fault 74 = .ok (.iconst 0, 1) := by decide +kernel
theorem dX14_fault_75 : decode cX14_fault 75 = .ok (.ireturn, 1) := by decide +kernel
theorem dX14_fault_76 : decode cX14_fault 76 = .ok (.aload_n 0, 1) := by decide +kernel
theorem dX14_fault_77 : decode cX14_fault 77 = .ok (.getfield 10, 3) := by decide +kernel
theorem dX14_fault_80 : decode cX14_fault 80 = .ok (.iload_n 1, 1) := by decide +kernel
theorem dX14_fault_81 : decode cX14_fault 81 = .ok (.invokevirtual 76, 3) := by decide +kernel
theorem dX14_fault_84 : decode cX14_fault 84 = .ok (.checkcast 48, 3) := by decide +kernel
theorem dX14_fault_87 : decode cX14_fault 87 = .ok (.astore 6, 2) := by decide +kernel
theorem dX14_fault_89 : decode cX14_fault 89 = .ok (.aload 6, 2) := by decide +kernel
theorem dX14_fault_91 : decode cX14_fault 91 = .ok (.getfield 166, 3) := by decide +kernel
theorem dX14_fault_94 : decode cX14_fault 94 = .ok (.iload_n 2, 1) := by decide +kernel
theorem dX14_fault_95 : decode cX14_fault 95 = .ok (.iaload, 1) := by decide +kernel
theorem dX14_fault_96 : decode cX14_fault 96 = .ok (.istore 7, 2) := by decide +kernel
theorem dX14_fault_98 : decode cX14_fault 98 = .ok (.aload 6, 2) := by decide +kernel
theorem dX14_fault_100 : decode cX14_fault 100 = .ok (.getfield 334, 3) := by decide +kernel
theorem dX14_fault_103 : decode cX14_fault 103 = .ok (.iload_n 2, 1) := by decide +kernel
theorem dX14_fault_104 : decode cX14_fault 104 = .ok (.iload_n 3, 1) := by decide +kernel
theorem dX14_fault_105 : decode cX14_fault 105 = .ok (.castore, 1) := by decide +kernel
theorem dX14_fault_106 : decode cX14_fault 106 = .ok (.aload 6, 2) := by decide +kernel
theorem dX14_fault_108 : decode cX14_fault 108 = .ok (.getfield 166, 3) := by decide +kernel
theorem dX14_fault_111 : decode cX14_fault 111 = .ok (.iload_n 2, 1) := by decide +kernel
theorem dX14_fault_112 : decode cX14_fault 112 = .ok (.iload 4, 2) := by decide +kernel
theorem dX14_fault_114 : decode cX14_fault 114 = .ok (.iastore, 1) := by decide +kernel
theorem dX14_fault_115 : decode cX14_fault 115 = .ok (.iload 7, 2) := by decide +kernel
theorem dX14_fault_117 : decode cX14_fault 117 = .ok (.ireturn, 1) := by decide +kernel
set_option maxRecDepth 100000 in
set_option maxHeartbeats 4000000 in
theorem m_fault (l : Launch) (D : va_G) (cy : Nat → ClassId) {eda ca : Nat} {ia : Nat → Nat} {σ : SG} {K : KM} {g : GH} {n S hw : Nat} (h : Inv eda ia K g n S hw σ) (x y k many : Int32) (hk : 0 ≤ k.toInt ∧ k.toInt ≤ 65535) (sz : Nat) : sgM l D cy eda ca ia σ sz yX14_fault (Cond.code yX14_fault cX14_fault 8 (some .int) :: mWall) 4 91 0 0 [.ref (kA K), .int x, .int y, .int k, .int many] (fun v σ2 => (∃ y : Int32, v = some (.int y)) ∧ Inv eda ia K g n S hw σ2) := by
  refine sg_ofW (cc := cX14_fault) (maxL := 8) (ret := (some .int)) (by decide) rfl (Nat.le_of_ble_eq_true rfl) (lv := [(0, .ref (kA K)), (1, .int x), (2, .int y), (3, .int k), (4, .int many)]) rfl (fun p e s m below meth c ls H N hrt hnm F hB hl => ?_) sz
  have hx := F.1.1
  have hb := F.1.2.1
  have hown := F.1.2.2.2.1
  obtain ⟨z1, z2, z3⟩ := inv_sz h
  refine lv_aload_n hx hb dX14_fault_0 rfl (lv_at hl 0 rfl) ?_
  refine lv_iload_n hx hb dX14_fault_1 rfl (lv_at hl 1 rfl) ?_
  refine sg_callV (ci := 19) F hB (m_isOther l D cy h x _) (cwV 1 F.1.2.2.2.2 (mgV (mm_6 _ (List.mem_of_getElem? (i := 6) rfl)) (mm_6 _ (List.mem_of_getElem? (i := 7) rfl)) (mm_6 _ (List.mem_of_getElem? (i := 8) rfl)) (mm_3 _ (List.mem_of_getElem? (i := 23) rfl)) (mm_6 _ (List.mem_of_getElem? (i := 5) rfl))) rfl rfl rfl ⟨rfl, by decide, by decide, by decide +kernel⟩ ⟨Nat.le_of_ble_eq_true rfl, Nat.le_of_ble_eq_true rfl⟩) rfl rfl (by decide) rfl hl.1 rfl (Nat.le_of_ble_eq_true rfl) dX14_fault_2 (Nat.le_of_ble_eq_true rfl) (Nat.add_le_add_right (Nat.le_of_ble_eq_true rfl) _) (inv_A h) (fun H locs v σ2 N hBn hX2 hP => ?_)
  clear hB; have hB := hBn; clear hBn
  obtain ⟨b2, rfl, rfl, hb2⟩ := hP
  refine lv_if_eq (tgt := 25) hx hb dX14_fault_5 (by decide) (fun c5 => ?_) (fun c5 => ?_)
  · refine lv_iconst (v := 0) hx hb dX14_fault_25 (by decide) ?_
    refine lv_istore (lv' := [(5, .int _), (0, .ref _), (1, .int _), (2, .int _), (3, .int _), (4, .int _)]) hx hb dX14_fault_26 hl (by decide) rfl (fun ls hl => ?_)
    refine lv_aload_n hx hb dX14_fault_28 rfl (lv_at hl 1 rfl) ?_
    refine lv_iload hx hb dX14_fault_29 (lv_at hl 0 rfl) ?_
    refine lv_if_ne (tgt := 38) hx hb dX14_fault_31 (by decide) (fun c31 => (by first | exact absurd c31 (by decide) | exact (c31 (by decide)).elim)) (fun c31 => ?_)
    refine lv_iconst (v := 1) hx hb dX14_fault_34 (by decide) ?_
    refine lv_goto (tgt := 64) hx hb dX14_fault_35 (by decide) ?_
    refine pf_X14_61 F hB dX14_fault_64 (inv_A h) (fun H locs hBn => ?_)
    clear hB; have hB := hBn; clear hBn
    have hI64 := inv_PIc (t := 20) hB h (inv_A h) (by unfold iCn; omega)
    refine lv_aload_n hx hb dX14_fault_67 rfl (lv_at hl 1 rfl) ?_
    refine gf_X14_61 F hB dX14_fault_68 (inv_A hI64) ?_
    rw [sgI_PI, if_pos ⟨rfl, rfl⟩]
    refine lv_if_le (tgt := 76) hx hb dX14_fault_71 (by decide) (fun c71 => (by first | exact absurd c71 (by decide) | exact (c71 (by decide)).elim)) (fun c71 => ?_)
    refine lv_iconst (v := 0) hx hb dX14_fault_74 (by decide) ?_
    exact sg_iret F hB hrt dX14_fault_75 (by decide) (by decide) (⟨⟨_, rfl⟩, hI64⟩)
  · refine lv_iload_n hx hb dX14_fault_8 rfl (lv_at hl 2 rfl) ?_
    refine lv_if_eq (tgt := 21) hx hb dX14_fault_9 (by decide) (fun c9 => ?_) (fun c9 => ?_)
    · refine lv_iconst (v := 1) hx hb dX14_fault_21 (by decide) ?_
      refine lv_goto (tgt := 26) hx hb dX14_fault_22 (by decide) ?_
      refine lv_istore (lv' := [(5, .int _), (0, .ref _), (1, .int _), (2, .int _), (3, .int _), (4, .int _)]) hx hb dX14_fault_26 hl (by decide) rfl (fun ls hl => ?_)
      refine lv_aload_n hx hb dX14_fault_28 rfl (lv_at hl 1 rfl) ?_
      refine lv_iload hx hb dX14_fault_29 (lv_at hl 0 rfl) ?_
      refine lv_if_ne (tgt := 38) hx hb dX14_fault_31 (by decide) (fun c31 => ?_) (fun c31 => (by first | exact absurd c31 (by decide) | exact (c31 (by decide)).elim))
      refine va_ldcWS hx hb hown F.2.2.2.1.2.2.2.2.2.2.2.2.2.2.2.2.2.1 dX14_fault_38 ?_
      refine lv_iload_n hx hb dX14_fault_41 rfl (lv_at hl 4 rfl) ?_
      refine sg_callVr F hB (m_sIx l D cy k _) (cwV 1 F.1.2.2.2.2 (mgV (mm_11 _ (List.mem_of_getElem? (i := 33) rfl)) (mm_11 _ (List.mem_of_getElem? (i := 34) rfl)) (mm_11 _ (List.mem_of_getElem? (i := 35) rfl)) (mm_10 _ (List.mem_of_getElem? (i := 2) rfl)) (mm_11 _ (List.mem_of_getElem? (i := 32) rfl))) rfl rfl rfl ⟨rfl, by decide, by decide, by decide +kernel⟩ ⟨Nat.le_of_ble_eq_true rfl, Nat.le_of_ble_eq_true rfl⟩) rfl hl.1 rfl (Nat.le_of_ble_eq_true rfl) dX14_fault_42 (Nat.le_of_ble_eq_true rfl) (Nat.add_le_add_right (Nat.le_of_ble_eq_true rfl) _) (va_Orecv F.2.2.2.1.2.2.2.2.2.2.2.2.2.2.2.2.2.2.1 hB.1.2.2) (fun H locs v σ42 N hBn hX42 hP => ?_)
      clear hB; have hB := hBn; clear hBn
      obtain ⟨⟨x42, rfl⟩, rfl⟩ := hP
      refine lv_if_lt (tgt := 59) hx hb dX14_fault_45 (by decide) (fun c45 => ?_) (fun c45 => ?_)
      · refine lv_iconst (v := 2) hx hb dX14_fault_59 (by decide) ?_
        refine lv_goto (tgt := 64) hx hb dX14_fault_60 (by decide) ?_
        refine pf_X14_61 F hB dX14_fault_64 (inv_A h) (fun H locs hBn => ?_)
        clear hB; have hB := hBn; clear hBn
        have hI64 := inv_PIc (t := 20) hB h (inv_A h) (by unfold iCn; omega)
        refine lv_aload_n hx hb dX14_fault_67 rfl (lv_at hl 1 rfl) ?_
        refine gf_X14_61 F hB dX14_fault_68 (inv_A hI64) ?_
        rw [sgI_PI, if_pos ⟨rfl, rfl⟩]
        refine lv_if_le (tgt := 76) hx hb dX14_fault_71 (by decide) (fun c71 => (by first | exact absurd c71 (by decide) | exact (c71 (by decide)).elim)) (fun c71 => ?_)
        refine lv_iconst (v := 0) hx hb dX14_fault_74 (by decide) ?_
        exact sg_iret F hB hrt dX14_fault_75 (by decide) (by decide) (⟨⟨_, rfl⟩, hI64⟩)
      · refine lv_iload hx hb dX14_fault_48 (lv_at hl 5 rfl) ?_
        refine lv_iconst (v := 1) hx hb dX14_fault_50 (by decide) ?_
        refine lv_bipush (v := 9) hx hb dX14_fault_51 (by decide) ?_
        refine sg_callS F hB (m_in l D cy many 1 9 _) (cwS 3 F.1.2.2.2.2 (mgS (mm_3 _ (List.mem_of_getElem? (i := 21) rfl)) (mm_3 _ (List.mem_of_getElem? (i := 22) rfl)) (mm_3 _ (List.mem_of_getElem? (i := 23) rfl)) (mm_1 _ (List.mem_of_getElem? (i := 19) rfl))) rfl rfl rfl ⟨rfl, by decide, by decide, by decide +kernel⟩ ⟨Nat.le_of_ble_eq_true rfl, Nat.le_of_ble_eq_true rfl⟩) rfl hl.1 rfl (Nat.le_of_ble_eq_true rfl) dX14_fault_53 (Nat.le_of_ble_eq_true rfl) (Nat.add_le_add_right (Nat.le_of_ble_eq_true rfl) _)  (fun H locs v σ53 N hBn hX53 hP => ?_)
        clear hB; have hB := hBn; clear hBn
        obtain ⟨b53, rfl, rfl, hb53⟩ := hP
        refine lv_if_ne (tgt := 63) hx hb dX14_fault_56 (by decide) (fun c56 => ?_) (fun c56 => ?_)
        · refine lv_iconst (v := 0) hx hb dX14_fault_63 (by decide) ?_
          refine pf_X14_61 F hB dX14_fault_64 (inv_A h) (fun H locs hBn => ?_)
          clear hB; have hB := hBn; clear hBn
          have hI64 := inv_PIc (t := 20) hB h (inv_A h) (by unfold iCn; omega)
          refine lv_aload_n hx hb dX14_fault_67 rfl (lv_at hl 1 rfl) ?_
          refine gf_X14_61 F hB dX14_fault_68 (inv_A hI64) ?_
          rw [sgI_PI, if_pos ⟨rfl, rfl⟩]
          refine lv_if_le (tgt := 76) hx hb dX14_fault_71 (by decide) (fun c71 => ?_) (fun c71 => (by first | exact absurd c71 (by decide) | exact (c71 (by decide)).elim))
          obtain ⟨hx1, hx2⟩ := sgb_t hb2 c5
          have hy : 0 ≤ y.toInt ∧ y.toInt ≤ 3 := by first | (have q := (sgb_t hb15 c18).2.1; omega) | (have q : y = 0 := (by first | exact c9 | exact Classical.not_not.mp c9); rw [q]; decide)
          obtain ⟨e9, f9, l9, en1, en2, en3, en4, en5, en6, en7, en8, en9⟩ := inv_ends hI64 (k := x.toInt.toNat) (by omega)
          refine lv_aload_n hx hb dX14_fault_76 rfl (lv_at hl 1 rfl) ?_
          refine gr_X14_10 F hB dX14_fault_77 (inv_A hI64) (inv_r1 hI64) ?_
          refine lv_iload_n hx hb dX14_fault_80 rfl (lv_at hl 2 rfl) ?_
          refine sg_callV (ci := 4) F hB (m_getD l D cy hI64 x (by omega) (by omega) _) (cwV 1 F.1.2.2.2.2 (mgV (mm_4 _ (List.mem_of_getElem? (i := 3) rfl)) (mm_4 _ (List.mem_of_getElem? (i := 4) rfl)) (mm_4 _ (List.mem_of_getElem? (i := 5) rfl)) (mm_0 _ (List.mem_of_getElem? (i := 35) rfl)) (mm_3 _ (List.mem_of_getElem? (i := 34) rfl))) rfl rfl rfl ⟨rfl, by decide, by decide, by decide +kernel⟩ ⟨Nat.le_of_ble_eq_true rfl, Nat.le_of_ble_eq_true rfl⟩) rfl rfl (by decide) rfl hl.1 rfl (Nat.le_of_ble_eq_true rfl) dX14_fault_81 (Nat.le_of_ble_eq_true rfl) (Nat.add_le_add_right (Nat.le_of_ble_eq_true rfl) _) (inv_tD hI64).1 (fun H locs v σ81 N hBn hX81 hP => ?_)
          clear hB; have hB := hBn; clear hBn
          obtain ⟨rfl, rfl⟩ := hP
          have dv81 := (inv_dv hI64 (k := (x : Int32).toInt.toNat) (by omega)).2.1
          refine va_castY hx hb hown (F.1.2.2.2.2 _ (List.mem_cons_of_mem _ (mm_4 _ (List.mem_of_getElem? (i := 2) rfl)))) (F.2.2.1.2.2 ("HubcascadeModel$Device", "HubcascadeModel$Device") (by decide +kernel)) (sg_recv (ci := 15) F.2.1 hB (by assumption) (by decide) rfl) dX14_fault_84 ?_
          refine lv_astore (lv' := [(6, .ref _), (5, .int _), (0, .ref _), (1, .int _), (2, .int _), (3, .int _), (4, .int _)]) hx hb dX14_fault_87 hl (by decide) rfl (fun ls hl => ?_)
          refine lv_aload hx hb dX14_fault_89 (lv_at hl 0 rfl) ?_
          refine gr_X14_166 F hB dX14_fault_91 dv81 en3 ?_
          refine lv_iload_n hx hb dX14_fault_94 rfl (lv_at hl 4 rfl) ?_
          refine sg_iald hx hb F.2.1 hB.1 dX14_fault_95 en8 hy.1 (m_ltN en9 (by omega)) (m_ltM en9 (by decide)) ?_
          refine lv_istore (lv' := [(7, .int _), (6, .ref _), (5, .int _), (0, .ref _), (1, .int _), (2, .int _), (3, .int _), (4, .int _)]) hx hb dX14_fault_96 hl (by decide) rfl (fun ls hl => ?_)
          refine lv_aload hx hb dX14_fault_98 (lv_at hl 1 rfl) ?_
          refine gr_X14_334 F hB dX14_fault_100 dv81 en2 ?_
          refine lv_iload_n hx hb dX14_fault_103 rfl (lv_at hl 5 rfl) ?_
          refine lv_iload_n hx hb dX14_fault_104 rfl (lv_at hl 6 rfl) ?_
          refine sg_cast hx hb F.2.1 hB.1 dX14_fault_105 en6 hy.1 (m_ltN en7 (by omega)) (m_ltM en7 (by decide)) hk.1 hk.2 (fun H locs hs1 => ?_)
          have hBn := sgB_w hB hs1 (fun _ => rfl) (fun _ => rfl) (Nat.le_of_eq (sgPot_I (Or.inl (by rw [show sgT _ _ = _ from en6]; decide))))
          clear hB; have hB := hBn; clear hBn
          have hI105 := inv_PIc (t := 101) hB hI64 en6 (by unfold iCn; omega)
          refine lv_aload hx hb dX14_fault_106 (lv_at hl 1 rfl) ?_
          refine gr_X14_166 F hB dX14_fault_108 (by exact dv81) (by exact en3) ?_
          refine lv_iload_n hx hb dX14_fault_111 rfl (lv_at hl 5 rfl) ?_
          refine lv_iload hx hb dX14_fault_112 (lv_at hl 7 rfl) ?_
          refine sg_iast hx hb F.2.1 hB.1 dX14_fault_114 (by exact en8) hy.1 (m_ltN en9 (by omega)) (m_ltM en9 (by decide)) (fun H locs hs1 => ?_)
          have hBn := sgB_w hB hs1 (fun _ => rfl) (fun _ => rfl) (Nat.le_of_eq (sgPot_I (Or.inl (by rw [show sgT _ _ = _ from (by exact en8)]; decide))))
          clear hB; have hB := hBn; clear hBn
          have hI114 := inv_PIc (t := 100) hB hI105 (by exact en8) (by unfold iCn; omega)
          refine lv_iload hx hb dX14_fault_115 (lv_at hl 0 rfl) ?_
          exact sg_iret F hB hrt dX14_fault_117 (by decide) (by decide) (⟨⟨_, rfl⟩, hI114⟩)
        · refine lv_iconst (v := 2) hx hb dX14_fault_59 (by decide) ?_
          refine lv_goto (tgt := 64) hx hb dX14_fault_60 (by decide) ?_
          refine pf_X14_61 F hB dX14_fault_64 (inv_A h) (fun H locs hBn => ?_)
          clear hB; have hB := hBn; clear hBn
          have hI64 := inv_PIc (t := 20) hB h (inv_A h) (by unfold iCn; omega)
          refine lv_aload_n hx hb dX14_fault_67 rfl (lv_at hl 1 rfl) ?_
          refine gf_X14_61 F hB dX14_fault_68 (inv_A hI64) ?_
          rw [sgI_PI, if_pos ⟨rfl, rfl⟩]
          refine lv_if_le (tgt := 76) hx hb dX14_fault_71 (by decide) (fun c71 => (by first | exact absurd c71 (by decide) | exact (c71 (by decide)).elim)) (fun c71 => ?_)
          refine lv_iconst (v := 0) hx hb dX14_fault_74 (by decide) ?_
          exact sg_iret F hB hrt dX14_fault_75 (by decide) (by decide) (⟨⟨_, rfl⟩, hI64⟩)
    · refine lv_aload_n hx hb dX14_fault_12 rfl (lv_at hl 0 rfl) ?_
      refine lv_iload_n hx hb dX14_fault_13 rfl (lv_at hl 1 rfl) ?_
      refine lv_iload_n hx hb dX14_fault_14 rfl (lv_at hl 2 rfl) ?_
      refine sg_callV (ci := 19) F hB (m_isEnd l D cy h x y _) (cwV 2 F.1.2.2.2.2 (mgV (mm_8 _ (List.mem_of_getElem? (i := 29) rfl)) (mm_8 _ (List.mem_of_getElem? (i := 30) rfl)) (mm_8 _ (List.mem_of_getElem? (i := 31) rfl)) (mm_3 _ (List.mem_of_getElem? (i := 23) rfl)) (mm_8 _ (List.mem_of_getElem? (i := 27) rfl))) rfl rfl rfl ⟨rfl, by decide, by decide, by decide +kernel⟩ ⟨Nat.le_of_ble_eq_true rfl, Nat.le_of_ble_eq_true rfl⟩) rfl rfl (by decide) rfl hl.1 rfl (Nat.le_of_ble_eq_true rfl) dX14_fault_15 (Nat.le_of_ble_eq_true rfl) (Nat.add_le_add_right (Nat.le_of_ble_eq_true rfl) _) (inv_A h) (fun H locs v σ15 N hBn hX15 hP => ?_)
      clear hB; have hB := hBn; clear hBn
      obtain ⟨b15, rfl, rfl, hb15⟩ := hP
      refine lv_if_eq (tgt := 25) hx hb dX14_fault_18 (by decide) (fun c18 => ?_) (fun c18 => ?_)
      · refine lv_iconst (v := 0) hx hb dX14_fault_25 (by decide) ?_
        refine lv_istore (lv' := [(5, .int _), (0, .ref _), (1, .int _), (2, .int _), (3, .int _), (4, .int _)]) hx hb dX14_fault_26 hl (by decide) rfl (fun ls hl => ?_)
        refine lv_aload_n hx hb dX14_fault_28 rfl (lv_at hl 1 rfl) ?_
        refine lv_iload hx hb dX14_fault_29 (lv_at hl 0 rfl) ?_
        refine lv_if_ne (tgt := 38) hx hb dX14_fault_31 (by decide) (fun c31 => (by first | exact absurd c31 (by decide) | exact (c31 (by decide)).elim)) (fun c31 => ?_)
        refine lv_iconst (v := 1) hx hb dX14_fault_34 (by decide) ?_
        refine lv_goto (tgt := 64) hx hb dX14_fault_35 (by decide) ?_
        refine pf_X14_61 F hB dX14_fault_64 (inv_A h) (fun H locs hBn => ?_)
        clear hB; have hB := hBn; clear hBn
        have hI64 := inv_PIc (t := 20) hB h (inv_A h) (by unfold iCn; omega)
        refine lv_aload_n hx hb dX14_fault_67 rfl (lv_at hl 1 rfl) ?_
        refine gf_X14_61 F hB dX14_fault_68 (inv_A hI64) ?_
        rw [sgI_PI, if_pos ⟨rfl, rfl⟩]
        refine lv_if_le (tgt := 76) hx hb dX14_fault_71 (by decide) (fun c71 => (by first | exact absurd c71 (by decide) | exact (c71 (by decide)).elim)) (fun c71 => ?_)
        refine lv_iconst (v := 0) hx hb dX14_fault_74 (by decide) ?_
        exact sg_iret F hB hrt dX14_fault_75 (by decide) (by decide) (⟨⟨_, rfl⟩, hI64⟩)
      · refine lv_iconst (v := 1) hx hb dX14_fault_21 (by decide) ?_
        refine lv_goto (tgt := 26) hx hb dX14_fault_22 (by decide) ?_
        refine lv_istore (lv' := [(5, .int _), (0, .ref _), (1, .int _), (2, .int _), (3, .int _), (4, .int _)]) hx hb dX14_fault_26 hl (by decide) rfl (fun ls hl => ?_)
        refine lv_aload_n hx hb dX14_fault_28 rfl (lv_at hl 1 rfl) ?_
        refine lv_iload hx hb dX14_fault_29 (lv_at hl 0 rfl) ?_
        refine lv_if_ne (tgt := 38) hx hb dX14_fault_31 (by decide) (fun c31 => ?_) (fun c31 => (by first | exact absurd c31 (by decide) | exact (c31 (by decide)).elim))
        refine va_ldcWS hx hb hown F.2.2.2.1.2.2.2.2.2.2.2.2.2.2.2.2.2.1 dX14_fault_38 ?_
        refine lv_iload_n hx hb dX14_fault_41 rfl (lv_at hl 4 rfl) ?_
        refine sg_callVr F hB (m_sIx l D cy k _) (cwV 1 F.1.2.2.2.2 (mgV (mm_11 _ (List.mem_of_getElem? (i := 33) rfl)) (mm_11 _ (List.mem_of_getElem? (i := 34) rfl)) (mm_11 _ (List.mem_of_getElem? (i := 35) rfl)) (mm_10 _ (List.mem_of_getElem? (i := 2) rfl)) (mm_11 _ (List.mem_of_getElem? (i := 32) rfl))) rfl rfl rfl ⟨rfl, by decide, by decide, by decide +kernel⟩ ⟨Nat.le_of_ble_eq_true rfl, Nat.le_of_ble_eq_true rfl⟩) rfl hl.1 rfl (Nat.le_of_ble_eq_true rfl) dX14_fault_42 (Nat.le_of_ble_eq_true rfl) (Nat.add_le_add_right (Nat.le_of_ble_eq_true rfl) _) (va_Orecv F.2.2.2.1.2.2.2.2.2.2.2.2.2.2.2.2.2.2.1 hB.1.2.2) (fun H locs v σ42 N hBn hX42 hP => ?_)
        clear hB; have hB := hBn; clear hBn
        obtain ⟨⟨x42, rfl⟩, rfl⟩ := hP
        refine lv_if_lt (tgt := 59) hx hb dX14_fault_45 (by decide) (fun c45 => ?_) (fun c45 => ?_)
        · refine lv_iconst (v := 2) hx hb dX14_fault_59 (by decide) ?_
          refine lv_goto (tgt := 64) hx hb dX14_fault_60 (by decide) ?_
          refine pf_X14_61 F hB dX14_fault_64 (inv_A h) (fun H locs hBn => ?_)
          clear hB; have hB := hBn; clear hBn
          have hI64 := inv_PIc (t := 20) hB h (inv_A h) (by unfold iCn; omega)
          refine lv_aload_n hx hb dX14_fault_67 rfl (lv_at hl 1 rfl) ?_
          refine gf_X14_61 F hB dX14_fault_68 (inv_A hI64) ?_
          rw [sgI_PI, if_pos ⟨rfl, rfl⟩]
          refine lv_if_le (tgt := 76) hx hb dX14_fault_71 (by decide) (fun c71 => (by first | exact absurd c71 (by decide) | exact (c71 (by decide)).elim)) (fun c71 => ?_)
          refine lv_iconst (v := 0) hx hb dX14_fault_74 (by decide) ?_
          exact sg_iret F hB hrt dX14_fault_75 (by decide) (by decide) (⟨⟨_, rfl⟩, hI64⟩)
        · refine lv_iload hx hb dX14_fault_48 (lv_at hl 5 rfl) ?_
          refine lv_iconst (v := 1) hx hb dX14_fault_50 (by decide) ?_
          refine lv_bipush (v := 9) hx hb dX14_fault_51 (by decide) ?_
          refine sg_callS F hB (m_in l D cy many 1 9 _) (cwS 3 F.1.2.2.2.2 (mgS (mm_3 _ (List.mem_of_getElem? (i := 21) rfl)) (mm_3 _ (List.mem_of_getElem? (i := 22) rfl)) (mm_3 _ (List.mem_of_getElem? (i := 23) rfl)) (mm_1 _ (List.mem_of_getElem? (i := 19) rfl))) rfl rfl rfl ⟨rfl, by decide, by decide, by decide +kernel⟩ ⟨Nat.le_of_ble_eq_true rfl, Nat.le_of_ble_eq_true rfl⟩) rfl hl.1 rfl (Nat.le_of_ble_eq_true rfl) dX14_fault_53 (Nat.le_of_ble_eq_true rfl) (Nat.add_le_add_right (Nat.le_of_ble_eq_true rfl) _)  (fun H locs v σ53 N hBn hX53 hP => ?_)
          clear hB; have hB := hBn; clear hBn
          obtain ⟨b53, rfl, rfl, hb53⟩ := hP
          refine lv_if_ne (tgt := 63) hx hb dX14_fault_56 (by decide) (fun c56 => ?_) (fun c56 => ?_)
          · refine lv_iconst (v := 0) hx hb dX14_fault_63 (by decide) ?_
            refine pf_X14_61 F hB dX14_fault_64 (inv_A h) (fun H locs hBn => ?_)
            clear hB; have hB := hBn; clear hBn
            have hI64 := inv_PIc (t := 20) hB h (inv_A h) (by unfold iCn; omega)
            refine lv_aload_n hx hb dX14_fault_67 rfl (lv_at hl 1 rfl) ?_
            refine gf_X14_61 F hB dX14_fault_68 (inv_A hI64) ?_
            rw [sgI_PI, if_pos ⟨rfl, rfl⟩]
            refine lv_if_le (tgt := 76) hx hb dX14_fault_71 (by decide) (fun c71 => ?_) (fun c71 => (by first | exact absurd c71 (by decide) | exact (c71 (by decide)).elim))
            obtain ⟨hx1, hx2⟩ := sgb_t hb2 c5
            have hy : 0 ≤ y.toInt ∧ y.toInt ≤ 3 := by first | (have q := (sgb_t hb15 c18).2.1; omega) | (have q : y = 0 := (by first | exact c9 | exact Classical.not_not.mp c9); rw [q]; decide)
            obtain ⟨e9, f9, l9, en1, en2, en3, en4, en5, en6, en7, en8, en9⟩ := inv_ends hI64 (k := x.toInt.toNat) (by omega)
            refine lv_aload_n hx hb dX14_fault_76 rfl (lv_at hl 1 rfl) ?_
            refine gr_X14_10 F hB dX14_fault_77 (inv_A hI64) (inv_r1 hI64) ?_
            refine lv_iload_n hx hb dX14_fault_80 rfl (lv_at hl 2 rfl) ?_
            refine sg_callV (ci := 4) F hB (m_getD l D cy hI64 x (by omega) (by omega) _) (cwV 1 F.1.2.2.2.2 (mgV (mm_4 _ (List.mem_of_getElem? (i := 3) rfl)) (mm_4 _ (List.mem_of_getElem? (i := 4) rfl)) (mm_4 _ (List.mem_of_getElem? (i := 5) rfl)) (mm_0 _ (List.mem_of_getElem? (i := 35) rfl)) (mm_3 _ (List.mem_of_getElem? (i := 34) rfl))) rfl rfl rfl ⟨rfl, by decide, by decide, by decide +kernel⟩ ⟨Nat.le_of_ble_eq_true rfl, Nat.le_of_ble_eq_true rfl⟩) rfl rfl (by decide) rfl hl.1 rfl (Nat.le_of_ble_eq_true rfl) dX14_fault_81 (Nat.le_of_ble_eq_true rfl) (Nat.add_le_add_right (Nat.le_of_ble_eq_true rfl) _) (inv_tD hI64).1 (fun H locs v σ81 N hBn hX81 hP => ?_)
            clear hB; have hB := hBn; clear hBn
            obtain ⟨rfl, rfl⟩ := hP
            have dv81 := (inv_dv hI64 (k := (x : Int32).toInt.toNat) (by omega)).2.1
            refine va_castY hx hb hown (F.1.2.2.2.2 _ (List.mem_cons_of_mem _ (mm_4 _ (List.mem_of_getElem? (i := 2) rfl)))) (F.2.2.1.2.2 ("HubcascadeModel$Device", "HubcascadeModel$Device") (by decide +kernel)) (sg_recv (ci := 15) F.2.1 hB (by assumption) (by decide) rfl) dX14_fault_84 ?_
            refine lv_astore (lv' := [(6, .ref _), (5, .int _), (0, .ref _), (1, .int _), (2, .int _), (3, .int _), (4, .int _)]) hx hb dX14_fault_87 hl (by decide) rfl (fun ls hl => ?_)
            refine lv_aload hx hb dX14_fault_89 (lv_at hl 0 rfl) ?_
            refine gr_X14_166 F hB dX14_fault_91 dv81 en3 ?_
            refine lv_iload_n hx hb dX14_fault_94 rfl (lv_at hl 4 rfl) ?_
            refine sg_iald hx hb F.2.1 hB.1 dX14_fault_95 en8 hy.1 (m_ltN en9 (by omega)) (m_ltM en9 (by decide)) ?_
            refine lv_istore (lv' := [(7, .int _), (6, .ref _), (5, .int _), (0, .ref _), (1, .int _), (2, .int _), (3, .int _), (4, .int _)]) hx hb dX14_fault_96 hl (by decide) rfl (fun ls hl => ?_)
            refine lv_aload hx hb dX14_fault_98 (lv_at hl 1 rfl) ?_
            refine gr_X14_334 F hB dX14_fault_100 dv81 en2 ?_
            refine lv_iload_n hx hb dX14_fault_103 rfl (lv_at hl 5 rfl) ?_
            refine lv_iload_n hx hb dX14_fault_104 rfl (lv_at hl 6 rfl) ?_
            refine sg_cast hx hb F.2.1 hB.1 dX14_fault_105 en6 hy.1 (m_ltN en7 (by omega)) (m_ltM en7 (by decide)) hk.1 hk.2 (fun H locs hs1 => ?_)
            have hBn := sgB_w hB hs1 (fun _ => rfl) (fun _ => rfl) (Nat.le_of_eq (sgPot_I (Or.inl (by rw [show sgT _ _ = _ from en6]; decide))))
            clear hB; have hB := hBn; clear hBn
            have hI105 := inv_PIc (t := 101) hB hI64 en6 (by unfold iCn; omega)
            refine lv_aload hx hb dX14_fault_106 (lv_at hl 1 rfl) ?_
            refine gr_X14_166 F hB dX14_fault_108 (by exact dv81) (by exact en3) ?_
            refine lv_iload_n hx hb dX14_fault_111 rfl (lv_at hl 5 rfl) ?_
            refine lv_iload hx hb dX14_fault_112 (lv_at hl 7 rfl) ?_
            refine sg_iast hx hb F.2.1 hB.1 dX14_fault_114 (by exact en8) hy.1 (m_ltN en9 (by omega)) (m_ltM en9 (by decide)) (fun H locs hs1 => ?_)
            have hBn := sgB_w hB hs1 (fun _ => rfl) (fun _ => rfl) (Nat.le_of_eq (sgPot_I (Or.inl (by rw [show sgT _ _ = _ from (by exact en8)]; decide))))
            clear hB; have hB := hBn; clear hBn
            have hI114 := inv_PIc (t := 100) hB hI105 (by exact en8) (by unfold iCn; omega)
            refine lv_iload hx hb dX14_fault_115 (lv_at hl 0 rfl) ?_
            exact sg_iret F hB hrt dX14_fault_117 (by decide) (by decide) (⟨⟨_, rfl⟩, hI114⟩)
          · refine lv_iconst (v := 2) hx hb dX14_fault_59 (by decide) ?_
            refine lv_goto (tgt := 64) hx hb dX14_fault_60 (by decide) ?_
            refine pf_X14_61 F hB dX14_fault_64 (inv_A h) (fun H locs hBn => ?_)
            clear hB; have hB := hBn; clear hBn
            have hI64 := inv_PIc (t := 20) hB h (inv_A h) (by unfold iCn; omega)
            refine lv_aload_n hx hb dX14_fault_67 rfl (lv_at hl 1 rfl) ?_
            refine gf_X14_61 F hB dX14_fault_68 (inv_A hI64) ?_
            rw [sgI_PI, if_pos ⟨rfl, rfl⟩]
            refine lv_if_le (tgt := 76) hx hb dX14_fault_71 (by decide) (fun c71 => (by first | exact absurd c71 (by decide) | exact (c71 (by decide)).elim)) (fun c71 => ?_)
            refine lv_iconst (v := 0) hx hb dX14_fault_74 (by decide) ?_
            exact sg_iret F hB hrt dX14_fault_75 (by decide) (by decide) (⟨⟨_, rfl⟩, hI64⟩)
end MM43
