theorem dL_law_28 : decode cL_law 28 = .ok (.iload 5, 2) := by decide +kernel
theorem dL_law_30 : decode cL_law 30 = .ok (.aload_n 0, 1) := by decide +kernel
theorem dL_law_31 : decode cL_law 31 = .ok (.arraylength, 1) := by decide +kernel
theorem dL_law_3120 : decode cL_law 3120 = .ok (.goto (-3092), 3) := by decide +kernel
theorem dL_law_3124 : decode cL_law 3124 = .ok (.ireturn, 1) := by decide +kernel
theorem dL_law_32 : decode cL_law 32 = .ok (.bipush 6, 2) := by decide +kernel
theorem dL_law_34 : decode cL_law 34 = .ok (.isub, 1) := by decide +kernel
theorem dL_law_35 : decode cL_law 35 = .ok (.if_icmp .gt 3088, 3) := by decide +kernel
theorem dL_law_39 : decode cL_law 39 = .ok (.iload 5, 2) := by decide +kernel
theorem dL_law_41 : decode cL_law 41 = .ok (.iaload, 1) := by decide +kernel
theorem dL_law_42 : decode cL_law 42 = .ok (.bipush 63, 2) := by decide +kernel
theorem dL_law_44 : decode cL_law 44 = .ok (.iand, 1) := by decide +kernel
theorem dL_law_45 : decode cL_law 45 = .ok (.tableswitch 3072 0 52 #[227, 349, 457, 537, 593, 649, 705, 761, 817, 873, 929, 973, 1041, 1097, 1165, 1221, 1277, 1333, 1389, 1402, 1415, 1428, 1522, 1578, 1634, 1702, 1758, 1826, 1882, 1945, 2001, 2057, 2125, 2219, 2232, 2245, 2301, 2314, 2358, 2402, 2446, 2459, 2527, 2607, 2675, 2688, 2744, 2802, 2858, 2914, 2980, 3045, 3059], 227) := by decide +kernel
theorem dL_law_38 : decode cL_law 38 = .ok (.aload_n 0, 1) := by decide +kernel
theorem dL_law_3117 : decode cL_law 3117 = .ok (.iinc 5 6, 3) := by decide +kernel
theorem dL_law_3123 : decode cL_law 3123 = .ok (.iconst 1, 1) := by decide +kernel
/-- the law's last rows -/
theorem law_last {p : Program} {l : Launch} {e : Env} {s : State} {m : MethodId} {below : List Frame} {meth : Method} {c : Code} {b : Nat} {xs : Nat → Int32} {D : va_G} {cy : Nat → ClassId} {eda ca : Nat} {ia : Nat → Nat} {L : Nat} (hx : p.tables.exec = Jvm.exec) (hb : c.code = cL_law) (hr : meth.sig.returnType = ret) (hlocks : meth.locks = false) {H : Heap} {locs : List Loc} {ls : Array Slot} (hS : va_S (fun q => s.heap.size ≤ q) s.heap H locs) : W p l e room_1 s m #[Value.ref b] below meth c H locs 1000 10000 (lw_Z below #[Value.ref b] s) (F0 m 3123 ls []) := by
  refine va_forget (fun q hq => hS.2.2 q hq) ?_
  refine W.widen (k := 600006) (n := 7302032) (Nat.le_of_ble_eq_true rfl) (Nat.le_of_ble_eq_true rfl) ?_
  refine lv_iconst (v := 1) hx hb dL_law_3123 (by decide) ?_
  exact lw_ret (d0 := s.drawn) (Drawn.sameBut.refl s.drawn lw_cs) hx hb hr hlocks dL_law_3124
theorem law_end {p : Program} {l : Launch} {e : Env} {s : State} {m : MethodId} {below : List Frame} {meth : Method} {c : Code} {b : Nat} {xs : Nat → Int32} {D : va_G} {cy : Nat → ClassId} {eda ca : Nat} {ia : Nat → Nat} (C0 : LawAt p s m meth c b xs D cy eda ca ia) (hr : meth.sig.returnType = ret) (hlocks : meth.locks = false) (xo mo oa od : Nat) : LawEnd p l e s m below meth c b xo mo oa od := by
  obtain ⟨hx, hb, hml, hown, hts, hX, hbl, hK, hN, hT, hJS⟩ := id C0
  have hbA : ¬ (fun q => s.heap.size ≤ q) b := Nat.not_le.mpr hbl
  intro H locs ls hS hl
  refine lv_iinc (v := 6) (lv' := [(5, .int 6), (4, .ref od), (3, .ref oa), (2, .ref mo), (1, .ref xo), (0, .ref b)]) hx hb dL_law_3117 hl (k := 0) rfl (by decide) (by decide) rfl (fun ls hl => ?_)
  refine lv_goto (tgt := 28) hx hb dL_law_3120 (by decide) ?_
  refine lv_iload hx hb dL_law_28 (lv_at hl 0 rfl) ?_
  refine lv_aload_n hx hb dL_law_30 rfl (lv_at hl 5 rfl) ?_
  refine va_slen hx hb hX hbl hbA hS dL_law_31 ?_
  refine lv_bipush (v := 6) hx hb dL_law_32 (by decide) ?_
  refine lv_isub hx hb dL_law_34 ?_
  refine lv_topi (fun y ey => ?_)
  obtain rfl : y = 0 := ey.trans (by decide)
  refine lv_icmp_gt (tgt := 3123) hx hb dL_law_35 (by decide) (fun _ => ?_) (fun c => absurd (by decide) c)
  exact law_last (L := 6) (xs := xs) (D := D) (cy := cy) (eda := eda) (ca := ca) (ia := ia) hx hb hr hlocks hS
set_option maxRecDepth 100000 in
set_option maxHeartbeats 8000000 in
theorem law_sw {p : Program} {e : Env} {s : State} {m : MethodId} {below : List Frame} {meth : Method} {c : Code} {l : Launch} (hfl : l.stackTraces = false) {b : Nat} {xs : Nat → Int32} {D : va_G} {cy : Nat → ClassId} {eda ca : Nat} {ia : Nat → Nat} (C0 : LawAt p s m meth c b xs D cy eda ca ia) {am : Nat → Nat} {ad : Nat → Nat} {rw_ : Nat → Nat → Option Nat} {w : va_W} (F : FrC cy ad rw_ w) {oa od : Nat} (hE : LawEnd p l e s m below meth c b (ad 0) (am 0) oa od) : ∀ j : Nat, j < 64 → xs 0 &&& 63 = nI j → LGoal p l e s m below meth c b D cy am eda w (ad 0) oa od 38 := by
  obtain ⟨hx, hb, hml, hown, hts, hX, hbl, hK, hN, hT, hJS⟩ := id C0
  have hbA : ¬ (fun q => s.heap.size ≤ q) b := Nat.not_le.mpr hbl
  intro j hj ej H locs ls hP hD hS hl
  refine lv_aload_n hx hb dL_law_38 rfl (lv_at hl 5 rfl) ?_
  refine lv_iload hx hb dL_law_39 (lv_at hl 0 rfl) ?_
  refine va_sld hx hb hX hbl hbA hS (by unfold vp_in; decide) dL_law_41 ?_
  refine lv_topi (fun y ey => ?_)
  obtain rfl : y = xs 0 := ey.trans (congrArg xs (by decide))
  refine lv_bipush (v := 63) hx hb dL_law_42 (by decide) ?_
  refine lv_iand hx hb dL_law_44 ?_
  refine lv_topi (fun y ey => ?_)
  obtain rfl : y = nI j := ey.trans ej
  by_cases h0 : j = 0
  · subst h0
    refine lv_tableIn (off := 227) (tgt := 272) hx hb dL_law_45 (by decide) (by decide) rfl (by decide) ?_
    exact law_op0 hfl C0 F hE H locs ls hP hD hS hl
  by_cases h1 : j = 1
  · subst h1
    refine lv_tableIn (off := 349) (tgt := 394) hx hb dL_law_45 (by decide) (by decide) rfl (by decide) ?_
    exact law_op1 hfl C0 F hE H locs ls hP hD hS hl
  by_cases h2 : j = 2
  · subst h2
    refine lv_tableIn (off := 457) (tgt := 502) hx hb dL_law_45 (by decide) (by decide) rfl (by decide) ?_
    exact law_op2 hfl C0 F hE H locs ls hP hD hS hl
  by_cases h3 : j = 3
  · subst h3
    refine lv_tableIn (off := 537) (tgt := 582) hx hb dL_law_45 (by decide) (by decide) rfl (by decide) ?_
    exact law_op3 hfl C0 F hE H locs ls hP hD hS hl
  by_cases h4 : j = 4
  · subst h4
    refine lv_tableIn (off := 593) (tgt := 638) hx hb dL_law_45 (by decide) (by decide) rfl (by decide) ?_
    exact law_op4 hfl C0 F hE H locs ls hP hD hS hl
  by_cases h5 : j = 5
  · subst h5
    refine lv_tableIn (off := 649) (tgt := 694) hx hb dL_law_45 (by decide) (by decide) rfl (by decide) ?_
    exact law_op5 hfl C0 F hE H locs ls hP hD hS hl
  by_cases h6 : j = 6
  · subst h6
    refine lv_tableIn (off := 705) (tgt := 750) hx hb dL_law_45 (by decide) (by decide) rfl (by decide) ?_
    exact law_op6 hfl C0 F hE H locs ls hP hD hS hl
  by_cases h7 : j = 7
  · subst h7
    refine lv_tableIn (off := 761) (tgt := 806) hx hb dL_law_45 (by decide) (by decide) rfl (by decide) ?_
    exact law_op7 hfl C0 F hE H locs ls hP hD hS hl
  by_cases h8 : j = 8
  · subst h8
    refine lv_tableIn (off := 817) (tgt := 862) hx hb dL_law_45 (by decide) (by decide) rfl (by decide) ?_
    exact law_op8 hfl C0 F hE H locs ls hP hD hS hl
  by_cases h9 : j = 9
  · subst h9
    refine lv_tableIn (off := 873) (tgt := 918) hx hb dL_law_45 (by decide) (by decide) rfl (by decide) ?_
    exact law_op9 hfl C0 F hE H locs ls hP hD hS hl
  by_cases h10 : j = 10
  · subst h10
    refine lv_tableIn (off := 929) (tgt := 974) hx hb dL_law_45 (by decide) (by decide) rfl (by decide) ?_
    exact law_op10 hfl C0 F hE H locs ls hP hD hS hl
  by_cases h11 : j = 11
  · subst h11
    refine lv_tableIn (off := 973) (tgt := 1018) hx hb dL_law_45 (by decide) (by decide) rfl (by decide) ?_
    exact law_op11 hfl C0 F hE H locs ls hP hD hS hl
  by_cases h12 : j = 12
  · subst h12
    refine lv_tableIn (off := 1041) (tgt := 1086) hx hb dL_law_45 (by decide) (by decide) rfl (by decide) ?_
    exact law_op12 hfl C0 F hE H locs ls hP hD hS hl
  by_cases h13 : j = 13
  · subst h13
    refine lv_tableIn (off := 1097) (tgt := 1142) hx hb dL_law_45 (by decide) (by decide) rfl (by decide) ?_
    exact law_op13 hfl C0 F hE H locs ls hP hD hS hl
  by_cases h14 : j = 14
  · subst h14
    refine lv_tableIn (off := 1165) (tgt := 1210) hx hb dL_law_45 (by decide) (by decide) rfl (by decide) ?_
    exact law_op14 hfl C0 F hE H locs ls hP hD hS hl
  by_cases h15 : j = 15
  · subst h15
    refine lv_tableIn (off := 1221) (tgt := 1266) hx hb dL_law_45 (by decide) (by decide) rfl (by decide) ?_
    exact law_op15 hfl C0 F hE H locs ls hP hD hS hl
  by_cases h16 : j = 16
  · subst h16
    refine lv_tableIn (off := 1277) (tgt := 1322) hx hb dL_law_45 (by decide) (by decide) rfl (by decide) ?_
    exact law_op16 hfl C0 F hE H locs ls hP hD hS hl
  by_cases h17 : j = 17
  · subst h17
    refine lv_tableIn (off := 1333) (tgt := 1378) hx hb dL_law_45 (by decide) (by decide) rfl (by decide) ?_
    exact law_op17 hfl C0 F hE H locs ls hP hD hS hl
  by_cases h18 : j = 18
  · subst h18
    refine lv_tableIn (off := 1389) (tgt := 1434) hx hb dL_law_45 (by decide) (by decide) rfl (by decide) ?_
    exact law_op18 hfl C0 F hE H locs ls hP hD hS hl
  by_cases h19 : j = 19
  · subst h19
    refine lv_tableIn (off := 1402) (tgt := 1447) hx hb dL_law_45 (by decide) (by decide) rfl (by decide) ?_
    exact law_op19 hfl C0 F hE H locs ls hP hD hS hl
  by_cases h20 : j = 20
  · subst h20
    refine lv_tableIn (off := 1415) (tgt := 1460) hx hb dL_law_45 (by decide) (by decide) rfl (by decide) ?_
    exact law_op20 hfl C0 F hE H locs ls hP hD hS hl
  by_cases h21 : j = 21
  · subst h21
    refine lv_tableIn (off := 1428) (tgt := 1473) hx hb dL_law_45 (by decide) (by decide) rfl (by decide) ?_
    exact law_op21 hfl C0 F hE H locs ls hP hD hS hl
  by_cases h22 : j = 22
  · subst h22
    refine lv_tableIn (off := 1522) (tgt := 1567) hx hb dL_law_45 (by decide) (by decide) rfl (by decide) ?_
    exact law_op22 hfl C0 F hE H locs ls hP hD hS hl
  by_cases h23 : j = 23
  · subst h23
    refine lv_tableIn (off := 1578) (tgt := 1623) hx hb dL_law_45 (by decide) (by decide) rfl (by decide) ?_
    exact law_op23 hfl C0 F hE H locs ls hP hD hS hl
  by_cases h24 : j = 24
  · subst h24
    refine lv_tableIn (off := 1634) (tgt := 1679) hx hb dL_law_45 (by decide) (by decide) rfl (by decide) ?_
    exact law_op24 hfl C0 F hE H locs ls hP hD hS hl
  by_cases h25 : j = 25
  · subst h25
    refine lv_tableIn (off := 1702) (tgt := 1747) hx hb dL_law_45 (by decide) (by decide) rfl (by decide) ?_
    exact law_op25 hfl C0 F hE H locs ls hP hD hS hl
  by_cases h26 : j = 26
  · subst h26
    refine lv_tableIn (off := 1758) (tgt := 1803) hx hb dL_law_45 (by decide) (by decide) rfl (by decide) ?_
    exact law_op26 hfl C0 F hE H locs ls hP hD hS hl
  by_cases h27 : j = 27
  · subst h27
    refine lv_tableIn (off := 1826) (tgt := 1871) hx hb dL_law_45 (by decide) (by decide) rfl (by decide) ?_
    exact law_op27 hfl C0 F hE H locs ls hP hD hS hl
  by_cases h28 : j = 28
  · subst h28
    refine lv_tableIn (off := 1882) (tgt := 1927) hx hb dL_law_45 (by decide) (by decide) rfl (by decide) ?_
    exact law_op28 hfl C0 F hE H locs ls hP hD hS hl
  by_cases h29 : j = 29
  · subst h29
    refine lv_tableIn (off := 1945) (tgt := 1990) hx hb dL_law_45 (by decide) (by decide) rfl (by decide) ?_
    exact law_op29 hfl C0 F hE H locs ls hP hD hS hl
  by_cases h30 : j = 30
  · subst h30
    refine lv_tableIn (off := 2001) (tgt := 2046) hx hb dL_law_45 (by decide) (by decide) rfl (by decide) ?_
    exact law_op30 hfl C0 F hE H locs ls hP hD hS hl
  by_cases h31 : j = 31
  · subst h31
    refine lv_tableIn (off := 2057) (tgt := 2102) hx hb dL_law_45 (by decide) (by decide) rfl (by decide) ?_
    exact law_op31 hfl C0 F hE H locs ls hP hD hS hl
  by_cases h32 : j = 32
  · subst h32
    refine lv_tableIn (off := 2125) (tgt := 2170) hx hb dL_law_45 (by decide) (by decide) rfl (by decide) ?_
    exact law_op32 hfl C0 F hE H locs ls hP hD hS hl
  by_cases h33 : j = 33
  · subst h33
    refine lv_tableIn (off := 2219) (tgt := 2264) hx hb dL_law_45 (by decide) (by decide) rfl (by decide) ?_
    exact law_op33 hfl C0 F hE H locs ls hP hD hS hl
  by_cases h34 : j = 34
  · subst h34
    refine lv_tableIn (off := 2232) (tgt := 2277) hx hb dL_law_45 (by decide) (by decide) rfl (by decide) ?_
    exact law_op34 hfl C0 F hE H locs ls hP hD hS hl
  by_cases h35 : j = 35
  · subst h35
    refine lv_tableIn (off := 2245) (tgt := 2290) hx hb dL_law_45 (by decide) (by decide) rfl (by decide) ?_
    exact law_op35 hfl C0 F hE H locs ls hP hD hS hl
  by_cases h36 : j = 36
  · subst h36
    refine lv_tableIn (off := 2301) (tgt := 2346) hx hb dL_law_45 (by decide) (by decide) rfl (by decide) ?_
    exact law_op36 hfl C0 F hE H locs ls hP hD hS hl
  by_cases h37 : j = 37
  · subst h37
    refine lv_tableIn (off := 2314) (tgt := 2359) hx hb dL_law_45 (by decide) (by decide) rfl (by decide) ?_
    exact law_op37 hfl C0 F hE H locs ls hP hD hS hl
  by_cases h38 : j = 38
  · subst h38
    refine lv_tableIn (off := 2358) (tgt := 2403) hx hb dL_law_45 (by decide) (by decide) rfl (by decide) ?_
    exact law_op38 hfl C0 F hE H locs ls hP hD hS hl
  by_cases h39 : j = 39
  · subst h39
    refine lv_tableIn (off := 2402) (tgt := 2447) hx hb dL_law_45 (by decide) (by decide) rfl (by decide) ?_
    exact law_op39 hfl C0 F hE H locs ls hP hD hS hl
  by_cases h40 : j = 40
  · subst h40
    refine lv_tableIn (off := 2446) (tgt := 2491) hx hb dL_law_45 (by decide) (by decide) rfl (by decide) ?_
    exact law_op40 hfl C0 F hE H locs ls hP hD hS hl
  by_cases h41 : j = 41
  · subst h41
    refine lv_tableIn (off := 2459) (tgt := 2504) hx hb dL_law_45 (by decide) (by decide) rfl (by decide) ?_
    exact law_op41 hfl C0 F hE H locs ls hP hD hS hl
  by_cases h42 : j = 42
  · subst h42
    refine lv_tableIn (off := 2527) (tgt := 2572) hx hb dL_law_45 (by decide) (by decide) rfl (by decide) ?_
    exact law_op42 hfl C0 F hE H locs ls hP hD hS hl
  by_cases h43 : j = 43
  · subst h43
    refine lv_tableIn (off := 2607) (tgt := 2652) hx hb dL_law_45 (by decide) (by decide) rfl (by decide) ?_
    exact law_op43 hfl C0 F hE H locs ls hP hD hS hl
  by_cases h44 : j = 44
  · subst h44
    refine lv_tableIn (off := 2675) (tgt := 2720) hx hb dL_law_45 (by decide) (by decide) rfl (by decide) ?_
    exact law_op44 hfl C0 F hE H locs ls hP hD hS hl
  by_cases h45 : j = 45
  · subst h45
    refine lv_tableIn (off := 2688) (tgt := 2733) hx hb dL_law_45 (by decide) (by decide) rfl (by decide) ?_
    exact law_op45 hfl C0 F hE H locs ls hP hD hS hl
  by_cases h46 : j = 46
  · subst h46
    refine lv_tableIn (off := 2744) (tgt := 2789) hx hb dL_law_45 (by decide) (by decide) rfl (by decide) ?_
    exact law_op46 hfl C0 F hE H locs ls hP hD hS hl
  by_cases h47 : j = 47
  · subst h47
    refine lv_tableIn (off := 2802) (tgt := 2847) hx hb dL_law_45 (by decide) (by decide) rfl (by decide) ?_
    exact law_op47 hfl C0 F hE H locs ls hP hD hS hl
  by_cases h48 : j = 48
  · subst h48
    refine lv_tableIn (off := 2858) (tgt := 2903) hx hb dL_law_45 (by decide) (by decide) rfl (by decide) ?_
    exact law_op48 hfl C0 F hE H locs ls hP hD hS hl
  by_cases h49 : j = 49
  · subst h49
    refine lv_tableIn (off := 2914) (tgt := 2959) hx hb dL_law_45 (by decide) (by decide) rfl (by decide) ?_
    exact law_op49 hfl C0 F hE H locs ls hP hD hS hl
  by_cases h50 : j = 50
  · subst h50
    refine lv_tableIn (off := 2980) (tgt := 3025) hx hb dL_law_45 (by decide) (by decide) rfl (by decide) ?_
    exact law_op50 hfl C0 F hE H locs ls hP hD hS hl
  by_cases h51 : j = 51
  · subst h51
    refine lv_tableIn (off := 3045) (tgt := 3090) hx hb dL_law_45 (by decide) (by decide) rfl (by decide) ?_
    exact law_op51 hfl C0 F hE H locs ls hP hD hS hl
  by_cases h52 : j = 52
  · subst h52
    refine lv_tableIn (off := 3059) (tgt := 3104) hx hb dL_law_45 (by decide) (by decide) rfl (by decide) ?_
    exact law_op52 hfl C0 F hE H locs ls hP hD hS hl
  refine lv_tableOut (tgt := 3117) hx hb dL_law_45 (Or.inr ?_) (by decide) ?_
  · rw [nI_toInt (by omega)]
    omega
  · refine W.widen (k := 1000) (n := 10000) (Nat.le_of_ble_eq_true rfl) (Nat.le_of_ble_eq_true rfl) ?_
    exact hE H locs ls hS hl
