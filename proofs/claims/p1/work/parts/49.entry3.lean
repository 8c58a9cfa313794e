theorem dL_law_0 : decode cL_law 0 = .ok (.new 8, 3) := by decide +kernel
theorem dL_law_11 : decode cL_law 11 = .ok (.dup, 1) := by decide +kernel
theorem dL_law_12 : decode cL_law 12 = .ok (.invokespecial 166, 3) := by decide +kernel
theorem dL_law_15 : decode cL_law 15 = .ok (.astore_n 2, 1) := by decide +kernel
theorem dL_law_16 : decode cL_law 16 = .ok (.iconst 1, 1) := by decide +kernel
theorem dL_law_17 : decode cL_law 17 = .ok (.newarray .long, 2) := by decide +kernel
theorem dL_law_19 : decode cL_law 19 = .ok (.astore_n 3, 1) := by decide +kernel
theorem dL_law_20 : decode cL_law 20 = .ok (.iconst 1, 1) := by decide +kernel
theorem dL_law_21 : decode cL_law 21 = .ok (.newarray .double, 2) := by decide +kernel
theorem dL_law_23 : decode cL_law 23 = .ok (.astore 4, 2) := by decide +kernel
theorem dL_law_25 : decode cL_law 25 = .ok (.iconst 0, 1) := by decide +kernel
theorem dL_law_26 : decode cL_law 26 = .ok (.istore 5, 2) := by decide +kernel
theorem dL_law_3 : decode cL_law 3 = .ok (.dup, 1) := by decide +kernel
theorem dL_law_4 : decode cL_law 4 = .ok (.invokespecial 163, 3) := by decide +kernel
theorem dL_law_7 : decode cL_law 7 = .ok (.astore_n 1, 1) := by decide +kernel
theorem dL_law_8 : decode cL_law 8 = .ok (.new 164, 3) := by decide +kernel
set_option maxRecDepth 20000 in
theorem ggL_law_X14_init : GoodIn wsL_law wsX14_init := goodIn_r _ [112, 113, 12, 13, 114, 115, 116, 117, 118, 119, 120, 121, 122, 16, 123, 124, 125, 126, 127, 128, 129, 130, 131, 132, 133, 134, 135, 136, 137, 138, 139, 140, 141, 142, 143, 144, 145, 146, 147, 148, 149, 150, 151, 152, 153, 154, 57, 155, 156, 157, 158, 159, 160, 161, 162, 163, 164, 165, 166, 167, 168, 169, 170, 171, 172, 173, 174, 175, 176, 177, 178, 179, 180, 181, 182, 183, 184, 185, 186, 187, 188, 189, 190, 191, 192, 193, 194, 195, 196, 197, 198, 199, 200, 201, 202, 203, 204, 205, 206, 207, 208, 209, 210, 211, 212, 213, 214, 215, 1587, 1588, 1589, 1495, 1496, 1497, 1498, 1499, 1500, 1501, 1502, 1503, 1504, 1505, 1506, 1507, 1508, 1509, 1510, 1511, 1512, 1513, 1590, 1591, 1592, 1593, 1594, 1595, 1596, 1597, 1598, 1599, 1600, 1601, 1602, 1603, 1604, 1605] (by decide +kernel) (by decide +kernel)
set_option maxRecDepth 20000 in
theorem gL_law_X14_init : GoodIn wsL_law (wsX14_init) := ggL_law_X14_init
set_option maxRecDepth 20000 in
theorem ggL_law_X9_init : GoodIn wsL_law wsX9_init := goodIn_r _ [10, 11, 12, 13, 14, 15, 16, 17, 18, 19, 20, 21, 22, 23, 24, 25, 26, 27, 28, 29, 30, 31, 32, 33, 34, 35, 36, 37, 38, 39, 40, 41, 42, 43, 44, 45, 46, 47, 48, 49, 50, 51, 52, 53, 54, 55, 56, 57, 58, 59, 60, 61, 62, 63, 64, 65, 66, 67, 68, 69, 70, 71, 72, 73, 74, 75, 76, 77, 78, 79, 80, 81, 82, 83, 84, 85, 86, 87, 88, 89, 90, 91, 92, 93, 94, 95, 96, 97, 98, 99, 100, 101, 102, 103, 104, 105, 106, 107, 108, 109, 1482, 1483, 1484, 1485, 1486, 1487, 1488, 1489, 1490, 1491, 1492, 1493, 1494, 1514, 1515, 1516, 1517, 1518, 1519, 1520, 1521, 1522, 1523, 1524, 1525, 1526, 1527, 1528, 1529, 1530, 1531, 1532, 1533, 1534, 1535, 1536, 1537, 1538, 1539, 1540, 1541, 1542, 1543, 1544, 1545, 1546, 1547, 1548, 1549, 1550, 1551, 1552, 1553, 1554, 1555, 1556, 1557, 1558, 1559, 1560, 1561, 1562, 1563, 1564, 1565, 1566, 1567, 1568, 1569, 1570, 1571, 1572, 1573, 1574, 1575, 1576, 1577, 1578, 1579, 1580, 1581, 1582, 1583, 1584, 1585, 1586] (by decide +kernel) (by decide +kernel)
set_option maxRecDepth 20000 in
theorem gL_law_X9_init : GoodIn wsL_law (wsX9_init) := ggL_law_X9_init
theorem df_hub9 : ∀ j, j < 13 → defaultValue (tyX9 j) = vp_V [.null, .int 0, .null, .null, .int 0, .null, .int 0, .int 0, .null, .null, .null, .null, .null] j := by decide +kernel
theorem df_mdl14 : ∀ j, j < 19 → defaultValue (tyX14 j) = vp_V [.int 0, .null, .null, .null, .null, .null, .null, .int 0, .null, .int 0, .int 0, .int 0, .null, .long 0, .int 0, .int 0, .int 0, .int 0, .long 0] j := by decide +kernel
set_option maxRecDepth 100000 in
set_option maxHeartbeats 8000000 in
/-- from the entry, for every script of at most 6 ints, the law comes to its end with true -/
theorem whole_start {p : Program} {e : Env} {s : State} {m : MethodId} {below : List Frame} {meth : Method} {c : Code} (l : Launch) (hflags : l.flags = flags0) {b L : Nat} {xs : Nat → Int32} (hL : L ≤ 6) (C0 : lw_At p s m meth c b L xs) : W p l e room_1 s m #[Value.ref b] below meth c s.heap [] 0 0 (lw_Z below #[Value.ref b] s) (entryFrame m ([Value.ref b] : List Value).toArray 9) := by
  obtain ⟨hx, hb, hr, hml, hown, hts, hX, hbl, hlocks, hgv⟩ := id C0
  have hfl : l.stackTraces = false := by unfold Launch.stackTraces; rw [hflags]; decide +kernel
  have hn : ∀ w ∈ flN, w.before #[Value.ref b] s = true := flat_of_before _ hgv
  obtain ⟨D, cy, hK⟩ := ent_K hts
  have hN : NL s := ent_N hK hts
  have hT : ST s := ent_T hts hn
  obtain ⟨eda, ca, ia, hJS⟩ := ent_J hts hn
  have htl : ∀ w ∈ wsL_law ++ exW, w.before #[Value.ref b] s = true := fun w h => hts w ((List.mem_append.mp h).elim (wsL_law_in w) (exW_in w))
  have hown : s.vm.findClass RL = some m.cls := hown
  have hA : ∀ q : Nat, s.heap.size ≤ q → (fun q => s.heap.size ≤ q) q := fun _ h => h
  have hbA : ¬ (fun q => s.heap.size ≤ q) b := Nat.not_le.mpr hbl
  have hS : va_S (fun q => s.heap.size ≤ q) s.heap s.heap [] := va_S.rf
  have hP : va_P D vwCl [] s.heap := fun k q h => by simp at h
  have hD : va_D (fun q => s.heap.size ≤ q) [] := ⟨fun i j p q h => by simp at h, fun k q h => by simp at h⟩
  have hl := lv_entry ([.ref b]) (n := 9) (Nat.le_of_ble_eq_true rfl)
  rw [lg_entry_eq]
  generalize (lg_sl ([.ref b]) ++ List.replicate (9 - (lg_sl ([.ref b])).length) Slot.unset).toArray = ls at hl ⊢
  have hl : lv_has ls 9 [(0, .ref b)] := hl
  refine va_new (ci := 14) (fs := [.null, .int 0, .null, .null, .int 0, .null, .int 0, .int 0, .null, .null, .null, .null, .null]) (C := RX9) (T := TX9) (N := 13) hx hb htl (fun w h => List.mem_append_left _ (inlX9 w h)) tyX9 tyX9_ok hown (hts (.classLink RL 8 RX9) (mem_t (i := 43) (by decide +kernel))) (hts (.instantiable RX9 13) (mem_t (i := 44) (by decide +kernel))) (hts (.initialized RX9) (mem_t (i := 1) (by decide +kernel))) hK hP hD hS hA rfl df_hub9 (Nat.le_of_ble_eq_true rfl) (Nat.le_of_ble_eq_true rfl) dL_law_0 (fun q1 H hP hD hS => ?_)
  have hP : va_P D vwCl [(q1, .inr (14, [.null, .int 0, .null, .null, .int 0, .null, .int 0, .int 0, .null, .null, .null, .null, .null]))] H := hP
  have hD : va_D (fun q => s.heap.size ≤ q) [(q1, .inr (14, [.null, .int 0, .null, .null, .int 0, .null, .int 0, .int 0, .null, .null, .null, .null, .null]))] := hD
  refine lv_dup hx hb dL_law_3 rfl ?_
  refine me_callI (wr := []) (wc := [(q1, .inr (14, [.null, .int 0, .null, .null, .int 0, .null, .int 0, .int 0, .null, .null, .null, .null, .null]))]) (As := []) (rest := [.ref q1]) ⟨hx, hb, hml, hown, htl⟩ (m_Hub_init l D cy q1 _) (cwI 0 htl (goodL gL_law_X9_init) rfl rfl rfl (hts (.initialized RX9) (mem_t (i := 1) (by decide +kernel))) (hts (.methodLink RL 163 yX9_init) (mem_t (i := 45) (by decide +kernel))) (hts (.instanceMethod yX9_init) (mem_t (i := 46) (by decide +kernel))) rfl (by decide +kernel) ⟨by decide, by decide⟩) hK hN hP hD hS hA rfl hl.1 rfl (Nat.le_of_ble_eq_true rfl) dL_law_4 ⟨Nat.le_of_ble_eq_true rfl, Nat.le_of_ble_eq_true rfl⟩ (fun H locs hB hJ hS => ?_)
  obtain ⟨w, ad, rw_, F, e0, hP1, hD1⟩ := hB
  subst e0
  obtain ⟨hP, hD⟩ := hJ _ hP1 hD1
  have hP : va_P D vwCl w H := hP
  have hD : va_D (fun q => s.heap.size ≤ q) w := hD
  refine lv_astore_n (lv' := [(1, .ref (ad 0)), (0, .ref b)]) hx hb dL_law_7 rfl hl (by decide) rfl (fun ls hl => ?_)
  refine va_new (ci := 19) (fs := [.int 0, .null, .null, .null, .null, .null, .null, .int 0, .null, .int 0, .int 0, .int 0, .null, .long 0, .int 0, .int 0, .int 0, .int 0, .long 0]) (C := RX14) (T := TX14) (N := 19) hx hb htl (fun w h => List.mem_append_left _ (inlX14 w h)) tyX14 tyX14_ok hown (hts (.classLink RL 164 RX14) (mem_t (i := 1291) (by decide +kernel))) (hts (.instantiable RX14 19) (mem_t (i := 1292) (by decide +kernel))) (hts (.initialized RX14) (mem_t (i := 11) (by decide +kernel))) hK hP hD hS hA rfl df_mdl14 (Nat.le_of_ble_eq_true rfl) (Nat.le_of_ble_eq_true rfl) dL_law_8 (fun q2 H hP hD hS => ?_)
  have hP : va_P D vwCl (w ++ [(q2, .inr (19, [.int 0, .null, .null, .null, .null, .null, .null, .int 0, .null, .int 0, .int 0, .int 0, .null, .long 0, .int 0, .int 0, .int 0, .int 0, .long 0]))]) H := hP
  have hD : va_D (fun q => s.heap.size ≤ q) (w ++ [(q2, .inr (19, [.int 0, .null, .null, .null, .null, .null, .null, .int 0, .null, .int 0, .int 0, .int 0, .null, .long 0, .int 0, .int 0, .int 0, .int 0, .long 0]))]) := hD
  refine lv_dup hx hb dL_law_11 rfl ?_
  refine mj_callI (wr := w) (wc := [(q2, .inr (19, [.int 0, .null, .null, .null, .null, .null, .null, .int 0, .null, .int 0, .int 0, .int 0, .null, .long 0, .int 0, .int 0, .int 0, .int 0, .long 0]))]) (As := []) (rest := [.ref q2]) ⟨hx, hb, hml, hown, htl⟩ (m_mdl_init l D cy q2 _) (cwI 0 htl (goodL gL_law_X14_init) rfl rfl rfl (hts (.initialized RX14) (mem_t (i := 11) (by decide +kernel))) (hts (.methodLink RL 166 yX14_init) (mem_t (i := 1293) (by decide +kernel))) (hts (.instanceMethod yX14_init) (mem_t (i := 1294) (by decide +kernel))) rfl (by decide +kernel) ⟨by decide, by decide⟩) hK hN hP hD hS hA hJS rfl hl.1 rfl (Nat.le_of_ble_eq_true rfl) dL_law_12 ⟨Nat.le_of_ble_eq_true rfl, Nat.le_of_ble_eq_true rfl⟩ (fun H locs hB hJ hS => ?_)
  obtain ⟨r1, r2, r3, r4, r5, r6, r7, r8, r9, r10, r11, r12, r13, hP1, hD1⟩ := hB
  obtain ⟨hP, hD⟩ := hJ _ hP1 hD1
  have hP : va_P D vwCl (w ++ [(q2, .inr (19, [.int 0, .ref r1, .ref r4, .ref r5, .ref r6, .ref r7, .ref r8, .int 0, .ref r9, .int 0, .int (-1), .int 100, .ref r10, .long 0, .int 0, .int 0, .int 0, .int 0, .long 0])), (r1, .inr (4, [.int 1, .ref r2, .int 1])), (r2, .inl (cy 10, 10, .inr (.inr (.inr (.inr (va_up (fun _ => none) 0 (some r3))))))), (r3, .inr (15, [.int 104, .int 4, .int 0, .int 1, .int 0, .int 0, .int 99, .int (-1), .int 0, .int 0, .int (-1), .int 0, .int 0, .ref r11, .ref r12, .ref r13])), (r4, .inl (cy 9, 12, .inr (.inr (.inr (.inr (fun _ => none)))))), (r5, .inr (4, [.int 0, .ref eda, .int 0])), (r6, .inr (4, [.int 0, .ref eda, .int 0])), (r7, .inr (4, [.int 0, .ref eda, .int 0])), (r8, .inl (cy 0, 0, .inl (fun _ => 0))), (r9, .inr (4, [.int 0, .ref eda, .int 0])), (r10, .inl (cy 0, 16, .inl (fun _ => 0))), (r11, .inl (cy 8, 4, .inr (.inr (.inr (.inr (fun _ => none)))))), (r12, .inl (cy 1, 4, .inl (fun _ => 0))), (r13, .inl (cy 0, 4, .inl (fun _ => 0)))]) H := hP
  have hD : va_D (fun q => s.heap.size ≤ q) (w ++ [(q2, .inr (19, [.int 0, .ref r1, .ref r4, .ref r5, .ref r6, .ref r7, .ref r8, .int 0, .ref r9, .int 0, .int (-1), .int 100, .ref r10, .long 0, .int 0, .int 0, .int 0, .int 0, .long 0])), (r1, .inr (4, [.int 1, .ref r2, .int 1])), (r2, .inl (cy 10, 10, .inr (.inr (.inr (.inr (va_up (fun _ => none) 0 (some r3))))))), (r3, .inr (15, [.int 104, .int 4, .int 0, .int 1, .int 0, .int 0, .int 99, .int (-1), .int 0, .int 0, .int (-1), .int 0, .int 0, .ref r11, .ref r12, .ref r13])), (r4, .inl (cy 9, 12, .inr (.inr (.inr (.inr (fun _ => none)))))), (r5, .inr (4, [.int 0, .ref eda, .int 0])), (r6, .inr (4, [.int 0, .ref eda, .int 0])), (r7, .inr (4, [.int 0, .ref eda, .int 0])), (r8, .inl (cy 0, 0, .inl (fun _ => 0))), (r9, .inr (4, [.int 0, .ref eda, .int 0])), (r10, .inl (cy 0, 16, .inl (fun _ => 0))), (r11, .inl (cy 8, 4, .inr (.inr (.inr (.inr (fun _ => none)))))), (r12, .inl (cy 1, 4, .inl (fun _ => 0))), (r13, .inl (cy 0, 4, .inl (fun _ => 0)))]) := hD
  refine lv_astore_n (lv' := [(2, .ref q2), (1, .ref (ad 0)), (0, .ref b)]) hx hb dL_law_15 rfl hl (by decide) rfl (fun ls hl => ?_)
  refine lv_iconst (v := 1) hx hb dL_law_16 (by decide) ?_
  refine my_newa 2 (atype := .long) (ty := .long) (k := 2) (a0 := (1, .inr (.inl (fun _ => 0)))) (N' := 1) hx hb (hts (.arrayClass .long) (mem_t (i := 2220) (by decide +kernel))) rfl rfl (fun C z => by cases z) hK hP hD hS hA (fun _ => rfl) (by decide) (by decide) (Nat.le_of_ble_eq_true rfl) (Nat.le_of_ble_eq_true rfl) (Nat.le_of_ble_eq_true rfl) dL_law_17 (fun oa H hP hD hS => ?_)
  refine lv_astore_n (lv' := [(3, .ref oa), (2, .ref q2), (1, .ref (ad 0)), (0, .ref b)]) hx hb dL_law_19 rfl hl (by decide) rfl (fun ls hl => ?_)
  refine lv_iconst (v := 1) hx hb dL_law_20 (by decide) ?_
  refine my_newa 3 (atype := .double) (ty := .double) (k := 3) (a0 := (1, .inr (.inr (.inr (.inl (fun _ => 0)))))) (N' := 1) hx hb (hts (.arrayClass .double) (mem_t (i := 2221) (by decide +kernel))) rfl rfl (fun C z => by cases z) hK hP hD hS hA (fun _ => rfl) (by decide) (by decide) (Nat.le_of_ble_eq_true rfl) (Nat.le_of_ble_eq_true rfl) (Nat.le_of_ble_eq_true rfl) dL_law_21 (fun od H hP hD hS => ?_)
  refine lv_astore (lv' := [(4, .ref od), (3, .ref oa), (2, .ref q2), (1, .ref (ad 0)), (0, .ref b)]) hx hb dL_law_23 hl (by decide) rfl (fun ls hl => ?_)
  refine lv_iconst (v := 0) hx hb dL_law_25 (by decide) ?_
  refine lv_istore (lv' := [(5, .int 0), (4, .ref od), (3, .ref oa), (2, .ref q2), (1, .ref (ad 0)), (0, .ref b)]) hx hb dL_law_26 hl (by decide) rfl (fun ls hl => ?_)
  refine lv_iload hx hb dL_law_28 (lv_at hl 0 rfl) ?_
  refine lv_aload_n hx hb dL_law_30 rfl (lv_at hl 5 rfl) ?_
  refine va_slen hx hb hX hbl hbA hS dL_law_31 ?_
  refine lv_bipush (v := 6) hx hb dL_law_32 (by decide) ?_
  refine lv_isub hx hb dL_law_34 ?_
  refine lv_topi (fun y ey => ?_)
  rcases Nat.lt_or_ge L 6 with h6 | h6
  · have hy : (0 : Int32) > y := by
      rw [ey]
      rcases (show L = 0 ∨ L = 1 ∨ L = 2 ∨ L = 3 ∨ L = 4 ∨ L = 5 by omega) with rfl | rfl | rfl | rfl | rfl | rfl <;> decide
    refine lv_icmp_gt (tgt := 3123) hx hb dL_law_35 (by decide) (fun _ => ?_) (fun z => absurd hy z)
    refine W.widen (k := 1000) (n := 10000) (Nat.le_of_ble_eq_true rfl) (Nat.le_of_ble_eq_true rfl) ?_
    exact law_last (L := L) (xs := xs) (D := D) (cy := cy) (eda := eda) (ca := ca) (ia := ia) hx hb hr hlocks hS
  · have h6 : L = 6 := by omega
    subst h6
    obtain rfl : y = 0 := ey.trans (by decide)
    refine lv_icmp_gt (tgt := 3123) hx hb dL_law_35 (by decide) (fun z => absurd z (by decide)) (fun _ => ?_)
    obtain ⟨am, ham⟩ : ∃ am : Nat → Nat, am = fun n => [q2, r1, r2, r3, r4, r5, r6, r7, r8, r9, r10, r11, r12, r13].getD n 0 := ⟨_, rfl⟩
    have hM : WM cy am eda 0 = ([(q2, .inr (19, [.int 0, .ref r1, .ref r4, .ref r5, .ref r6, .ref r7, .ref r8, .int 0, .ref r9, .int 0, .int (-1), .int 100, .ref r10, .long 0, .int 0, .int 0, .int 0, .int 0, .long 0])), (r1, .inr (4, [.int 1, .ref r2, .int 1])), (r2, .inl (cy 10, 10, .inr (.inr (.inr (.inr (va_up (fun _ => none) 0 (some r3))))))), (r3, .inr (15, [.int 104, .int 4, .int 0, .int 1, .int 0, .int 0, .int 99, .int (-1), .int 0, .int 0, .int (-1), .int 0, .int 0, .ref r11, .ref r12, .ref r13])), (r4, .inl (cy 9, 12, .inr (.inr (.inr (.inr (fun _ => none)))))), (r5, .inr (4, [.int 0, .ref eda, .int 0])), (r6, .inr (4, [.int 0, .ref eda, .int 0])), (r7, .inr (4, [.int 0, .ref eda, .int 0])), (r8, .inl (cy 0, 0, .inl (fun _ => 0))), (r9, .inr (4, [.int 0, .ref eda, .int 0])), (r10, .inl (cy 0, 16, .inl (fun _ => 0))), (r11, .inl (cy 8, 4, .inr (.inr (.inr (.inr (fun _ => none)))))), (r12, .inl (cy 1, 4, .inl (fun _ => 0))), (r13, .inl (cy 0, 4, .inl (fun _ => 0)))] : va_W) := by rw [ham]; rfl
    have hm0 : am 0 = q2 := by rw [ham]; rfl
    have hP := va_P.left hP
    have hD := va_D.left hD
    rw [← hM] at hP hD
    have hP : va_P D vwCl ((w ++ WM cy am eda 0) ++ [OCL cy oa]) H := hP
    have hD : va_D (fun q => s.heap.size ≤ q) ((w ++ WM cy am eda 0) ++ [OCL cy oa]) := hD
    have hp : ((w ++ WM cy am eda 0) ++ [OCL cy oa]).Perm (WM cy am eda 0 ++ (OCL cy oa :: w)) := by
      have h1 : (w ++ (WM cy am eda 0 ++ [OCL cy oa])).Perm ((WM cy am eda 0 ++ [OCL cy oa]) ++ w) := List.perm_append_comm
      rw [List.append_assoc]
      refine h1.trans ?_
      rw [List.append_assoc]
      exact List.Perm.refl _
    have hP := hP.mem (fun q hq => hp.mem_iff.mpr hq)
    have hD := hD.perm hp
    rw [← hm0] at hl
    have C1 : LawAt p s m meth c b xs D cy eda ca ia := ⟨hx, hb, hml, hown, htl, hX, hbl, hK, hN, hT, hJS⟩
    obtain ⟨j, hj, ej⟩ := my_and63 (xs 0)
    refine W.widen (k := 500) (n := 5000) (Nat.le_of_ble_eq_true rfl) (Nat.le_of_ble_eq_true rfl) ?_
    exact law_sw hfl C1 F (law_end C1 hr hlocks (ad 0) (am 0) oa od) j hj ej H _ ls hP hD hS hl
