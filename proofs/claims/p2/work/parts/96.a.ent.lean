theorem mem_t {i : Nat} {w : Cond} (h : tables_1[i]? = some w) : w ∈ lw_tbl := List.mem_append_right _ (List.mem_of_getElem? h)
theorem my_arrP {args : Array Value} {s : State} {ty : FieldType} (hp : ∀ C : String, ty ≠ .object C) (h : (Cond.arrayClass ty).before args s = true) : ∃ cA : ClassId, ArrOfT s cA ty ∧ va_RA s cA ty := by
  obtain ⟨cA, kA, comp, h1, h2, h3⟩ := Cond.arrayClass_spec (args := args) (first := s) (o := none) (s := s) (idx := []) h
  refine ⟨cA, fun n z => ⟨fun k h => (by cases h), kA, h2, comp, h3⟩, ?_⟩
  cases ty with
  | object C => exact absurd rfl (hp C)
  | _ => exact h1
theorem my_arrO {args : Array Value} {s : State} {C : String} (h : (Cond.arrayOver (.object C)).before args s = true) : ∃ cA : ClassId, ArrOfT s cA (.object C) ∧ va_RA s cA (.object C) := by
  obtain ⟨comp, cA, kA, h1, -, h2, h3, h4⟩ := Cond.arrayOver_spec (args := args) (first := s) (o := none) (s := s) (idx := []) h
  exact ⟨cA, fun n z => ⟨fun k h => (by cases h), kA, h2, comp, h3⟩, kA, comp, h2, h3, h1, h4⟩
theorem my_str {args : Array Value} {s : State} {own tx : String} {k : Nat} (h1 : (Cond.stringRef own k tx).before args s = true) (h2 : (Cond.exactly (Term.string own k) "java/lang/String").before args s = true) : ∃ sa : Nat, vk_R own k tx sa s := by
  obtain ⟨a, c, cell, kk, e1, -⟩ := Cond.exactly_spec (args := args) (first := s) (o := none) (s := s) (idx := []) (t := Term.string own k) (cls := "java/lang/String") h2
  exact ⟨a, vk_R.of h1 e1⟩
theorem my_self {s : State} {C : String} {c : ClassId} (h : s.vm.findClass C = some c) : va_Nw (.castable C C) s := by
  unfold va_Nw
  simp [Cond.before, Cond.holds, Cond.value, h, va_asg]
set_option maxRecDepth 100000 in
set_option maxHeartbeats 4000000 in
theorem ent_K {args : Array Value} {s : State} (hts : ∀ w ∈ lw_tbl, w.before args s = true) : ∃ (D : va_G) (cy : Nat → ClassId), va_K D vwCl (tyL cy) s := by
  obtain ⟨c0, i0, hk0⟩ := u_known (C := RJ0) (T := TJ0) (N := 2) (n := 4) hts lwi_wsJ00 (hts _ (mem_t (i := 783) (by decide +kernel)))
  obtain ⟨c1, i1, hk1⟩ := u_known (C := RJ6) (T := TJ6) (N := 1) (n := 1) hts lwi_wsJ60 (hts _ (mem_t (i := 1796) (by decide +kernel)))
  obtain ⟨c2, i2, hk2⟩ := u_known (C := RJx00060) (T := TJx00060) (N := 6) (n := 6) hts lwi_wsJx000600 (hts _ (mem_t (i := 765) (by decide +kernel)))
  obtain ⟨c3, i3, hk3⟩ := u_known (C := RJx35411) (T := TJx35411) (N := 4) (n := 4) hts lwi_wsJx354110 (hts _ (mem_t (i := 1605) (by decide +kernel)))
  obtain ⟨c4, i4, hk4⟩ := u_known (C := RJx4a65c) (T := TJx4a65c) (N := 3) (n := 3) hts lwi_wsJx4a65c0 (hts _ (mem_t (i := 1298) (by decide +kernel)))
  obtain ⟨c5, i5, hk5⟩ := u_known (C := RX0) (T := TX0) (N := 4) (n := 4) hts lwi_wsX00 (hts _ (mem_t (i := 56) (by decide +kernel)))
  obtain ⟨c6, i6, hk6⟩ := u_known (C := RX1) (T := TX1) (N := 20) (n := 20) hts lwi_wsX10 (hts _ (mem_t (i := 164) (by decide +kernel)))
  obtain ⟨c7, i7, hk7⟩ := u_known (C := RX2) (T := TX2) (N := 9) (n := 9) hts lwi_wsX20 (hts _ (mem_t (i := 186) (by decide +kernel)))
  obtain ⟨c8, i8, hk8⟩ := u_known (C := RX3) (T := TX3) (N := 10) (n := 10) hts lwi_wsX30 (hts _ (mem_t (i := 105) (by decide +kernel)))
  obtain ⟨c9, i9, hk9⟩ := u_known (C := RX4) (T := TX4) (N := 2) (n := 2) hts lwi_wsX40 (hts _ (mem_t (i := 170) (by decide +kernel)))
  obtain ⟨c10, i10, hk10⟩ := u_known (C := RX5) (T := TX5) (N := 14) (n := 14) hts lwi_wsX50 (hts _ (mem_t (i := 303) (by decide +kernel)))
  obtain ⟨c11, i11, hk11⟩ := u_known (C := RX6) (T := TX6) (N := 3) (n := 3) hts lwi_wsX60 (hts _ (mem_t (i := 149) (by decide +kernel)))
  obtain ⟨c12, i12, hk12⟩ := u_known (C := RX7) (T := TX7) (N := 6) (n := 6) hts lwi_wsX70 (hts _ (mem_t (i := 310) (by decide +kernel)))
  obtain ⟨c13, i13, hk13⟩ := u_known (C := RX8) (T := TX8) (N := 5) (n := 5) hts lwi_wsX80 (hts _ (mem_t (i := 78) (by decide +kernel)))
  obtain ⟨c14, i14, hk14⟩ := u_known (C := RX9) (T := TX9) (N := 13) (n := 13) hts lwi_wsX90 (hts _ (mem_t (i := 44) (by decide +kernel)))
  obtain ⟨c15, i15, hk15⟩ := u_known (C := RX10) (T := TX10) (N := 16) (n := 16) hts lwi_wsX100 (hts _ (mem_t (i := 1329) (by decide +kernel)))
  obtain ⟨c16, i16, hk16⟩ := u_known (C := RX11) (T := TX11) (N := 5) (n := 5) hts lwi_wsX110 (hts _ (mem_t (i := 1569) (by decide +kernel)))
  obtain ⟨c17, i17, hk17⟩ := u_known (C := RX12) (T := TX12) (N := 10) (n := 10) hts lwi_wsX120 (hts _ (mem_t (i := 1839) (by decide +kernel)))
  obtain ⟨c18, i18, hk18⟩ := u_known (C := RX13) (T := TX13) (N := 5) (n := 5) hts lwi_wsX130 (hts _ (mem_t (i := 1928) (by decide +kernel)))
  obtain ⟨c19, i19, hk19⟩ := u_known (C := RX14) (T := TX14) (N := 19) (n := 19) hts lwi_wsX140 (hts _ (mem_t (i := 1292) (by decide +kernel)))
  obtain ⟨a0, ha0⟩ := my_arrP (ty := .int) (fun C z => by cases z) (hts _ (mem_t (i := 76) (by decide +kernel)))
  obtain ⟨a1, ha1⟩ := my_arrP (ty := .char) (fun C z => by cases z) (hts _ (mem_t (i := 147) (by decide +kernel)))
  obtain ⟨a2, ha2⟩ := my_arrP (ty := .long) (fun C z => by cases z) (hts _ (mem_t (i := 2220) (by decide +kernel)))
  obtain ⟨a3, ha3⟩ := my_arrP (ty := .double) (fun C z => by cases z) (hts _ (mem_t (i := 2221) (by decide +kernel)))
  obtain ⟨a4, ha4⟩ := my_arrO (C := "Hubcascade$Device") (hts _ (mem_t (i := 52) (by decide +kernel)))
  obtain ⟨a5, ha5⟩ := my_arrO (C := "Hubcascade$Endpoint") (hts _ (mem_t (i := 185) (by decide +kernel)))
  obtain ⟨a6, ha6⟩ := my_arrO (C := "Hubcascade$Pipe") (hts _ (mem_t (i := 54) (by decide +kernel)))
  obtain ⟨a7, ha7⟩ := my_arrO (C := "Hubcascade$Transfer") (hts _ (mem_t (i := 309) (by decide +kernel)))
  obtain ⟨a8, ha8⟩ := my_arrO (C := "HubcascadeModel$End") (hts _ (mem_t (i := 1335) (by decide +kernel)))
  obtain ⟨a9, ha9⟩ := my_arrO (C := "HubcascadeModel$Pipe") (hts _ (mem_t (i := 1327) (by decide +kernel)))
  obtain ⟨a10, ha10⟩ := my_arrO (C := "java/lang/Object") (hts _ (mem_t (i := 1457) (by decide +kernel)))
  obtain ⟨a11, ha11⟩ := my_arrP (ty := .boolean) (fun C z => by cases z) (hts _ (mem_t (i := 1695) (by decide +kernel)))
  refine ⟨(fun k => [c0, c1, c2, c3, c4, c5, c6, c7, c8, c9, c10, c11, c12, c13, c14, c15, c16, c17, c18, c19].getD k 0, fun k => [i0, i1, i2, i3, i4, i5, i6, i7, i8, i9, i10, i11, i12, i13, i14, i15, i16, i17, i18, i19].getD k (fun _ => 0)), fun k => [a0, a1, a2, a3, a4, a5, a6, a7, a8, a9, a10, a11].getD k 0, ?_, ?_⟩
  · intro k q hq
    match k, hq with
    | 0, hq => cases hq; exact hk0
    | 1, hq => cases hq; exact hk1
    | 2, hq => cases hq; exact hk2
    | 3, hq => cases hq; exact hk3
    | 4, hq => cases hq; exact hk4
    | 5, hq => cases hq; exact hk5
    | 6, hq => cases hq; exact hk6
    | 7, hq => cases hq; exact hk7
    | 8, hq => cases hq; exact hk8
    | 9, hq => cases hq; exact hk9
    | 10, hq => cases hq; exact hk10
    | 11, hq => cases hq; exact hk11
    | 12, hq => cases hq; exact hk12
    | 13, hq => cases hq; exact hk13
    | 14, hq => cases hq; exact hk14
    | 15, hq => cases hq; exact hk15
    | 16, hq => cases hq; exact hk16
    | 17, hq => cases hq; exact hk17
    | 18, hq => cases hq; exact hk18
    | 19, hq => cases hq; exact hk19
    | k + 20, hq => simp [vwCl] at hq
  · intro k q hq
    match k, hq with
    | 0, hq => cases hq; exact ha0
    | 1, hq => cases hq; exact ha1
    | 2, hq => cases hq; exact ha2
    | 3, hq => cases hq; exact ha3
    | 4, hq => cases hq; exact ha4
    | 5, hq => cases hq; exact ha5
    | 6, hq => cases hq; exact ha6
    | 7, hq => cases hq; exact ha7
    | 8, hq => cases hq; exact ha8
    | 9, hq => cases hq; exact ha9
    | 10, hq => cases hq; exact ha10
    | 11, hq => cases hq; exact ha11
    | k + 12, hq => simp [tyL] at hq
set_option maxRecDepth 100000 in
set_option maxHeartbeats 4000000 in
theorem nest_in : ∀ w ∈ nestL, w ∈ tables_1 := by
  have h : nestL = [64, 66, 84, 86, 88, 90, 92, 115, 117, 119, 121, 123, 125, 154, 155, 156, 176, 178, 195, 196, 197, 198, 199, 200, 201, 202, 204, 205, 206, 208, 210, 231, 233, 234, 235, 236, 237, 238, 240, 242, 243, 245, 247, 249, 251, 253, 254, 256, 257, 259, 261, 316, 317, 318, 319, 320, 321, 322, 323, 324, 325, 326, 327, 328, 343, 345, 347, 349, 351, 353, 355, 357, 359, 361, 362, 366, 1313, 1337, 1339, 1341, 1343, 1345, 1347, 1349, 1351, 1352, 1353, 1355, 1356, 1357, 1359, 1361, 1363, 1577, 1579, 1580, 1582, 1584, 1847, 1849, 1851, 1853, 1855, 1856, 1857, 1858, 1860, 1862, 1938, 1940, 1941, 1942, 1943, 57, 79, 106, 150, 165, 171, 187, 192, 194, 304, 311, 440, 452, 468, 507, 511, 519, 523, 527, 531, 535, 553, 561, 565, 577, 581, 585, 590, 594, 827, 1035, 1053, 1058, 1102, 1137, 1181].filterMap (fun i => tables_1[i]?) := by decide +kernel
  intro w hw
  rw [h] at hw
  obtain ⟨i, -, hi⟩ := List.mem_filterMap.mp hw
  exact List.mem_of_getElem? hi
theorem ent_N {args : Array Value} {s : State} {D : va_G} {cy : Nat → ClassId} (hK : va_K D vwCl (tyL cy) s) (hts : ∀ w ∈ lw_tbl, w.before args s = true) : NL s := by
  refine ⟨fun w hw => va_Nw.of (nest_tabs (nestL_ok w hw)) (hts w (List.mem_append_right _ (nest_in w hw))), fun C hC => ?_, fun q hq => ?_⟩
  · simp only [aoL, List.mem_cons, List.not_mem_nil, or_false] at hC
    rcases hC with rfl | rfl | rfl | rfl | rfl | rfl | rfl
    · exact va_AO.of (hts _ (mem_t (i := 52) (by decide +kernel)))
    · exact va_AO.of (hts _ (mem_t (i := 185) (by decide +kernel)))
    · exact va_AO.of (hts _ (mem_t (i := 54) (by decide +kernel)))
    · exact va_AO.of (hts _ (mem_t (i := 309) (by decide +kernel)))
    · exact va_AO.of (hts _ (mem_t (i := 1335) (by decide +kernel)))
    · exact va_AO.of (hts _ (mem_t (i := 1327) (by decide +kernel)))
    · exact va_AO.of (hts _ (mem_t (i := 1457) (by decide +kernel)))
  · simp only [castL, List.mem_cons, List.not_mem_nil, or_false] at hq
    rcases hq with rfl | rfl | rfl | rfl | rfl | rfl | rfl
    · exact my_self (hK.1 15 _ rfl).2.1
    · exact va_Nw.of rfl (hts _ (mem_t (i := 2239) (by decide +kernel)))
    · exact va_Nw.of rfl (hts _ (mem_t (i := 2230) (by decide +kernel)))
    · exact va_Nw.of rfl (hts _ (mem_t (i := 2256) (by decide +kernel)))
    · exact my_self (hK.1 18 _ rfl).2.1
    · exact va_Nw.of rfl (hts _ (mem_t (i := 2247) (by decide +kernel)))
    · exact my_self (hK.1 1 _ rfl).2.1
abbrev flN : List Cond := flatC (Jvm.Cond.and given_1 narrow_1)
set_option maxRecDepth 100000 in
set_option maxHeartbeats 4000000 in
theorem ent_T {args : Array Value} {s : State} {A : Nat → Prop} (hts : ∀ w ∈ lw_tbl, w.before args s = true) (hn : ∀ w ∈ flN, w.before args s = true) (hA : ∀ a : Nat, a < s.heap.size → ¬ A a) : vi_ST A s := by
  refine ⟨⟨?_, ?_⟩, fun q hq => ?_, fun E hE => ?_, fun E hE => ?_, fun E hE F hF hne => ?_⟩
  · exact vx_Zqof (hts _ (mem_t (i := 699) (by decide +kernel))) (hts _ (mem_t (i := 20) (by decide +kernel))) (hn _ (List.mem_of_getElem? (i := 4) (by decide +kernel))) hA
  · exact vx_Zqof (hts _ (mem_t (i := 701) (by decide +kernel))) (hts _ (mem_t (i := 20) (by decide +kernel))) (hn _ (List.mem_of_getElem? (i := 5) (by decide +kernel))) hA
  · simp only [vStr, List.mem_cons, List.not_mem_nil, or_false] at hq
    rcases hq with rfl | rfl | rfl | rfl | rfl | rfl | rfl | rfl | rfl | rfl | rfl | rfl | rfl | rfl | rfl | rfl | rfl | rfl | rfl | rfl | rfl | rfl | rfl | rfl | rfl | rfl | rfl | rfl | rfl | rfl | rfl | rfl | rfl | rfl | rfl | rfl | rfl | rfl | rfl | rfl | rfl | rfl | rfl
    · exact my_str (hts _ (mem_t (i := 717) (by decide +kernel))) (hn _ (List.mem_of_getElem? (i := 320) (by decide +kernel)))
    · exact my_str (hts _ (mem_t (i := 744) (by decide +kernel))) (hn _ (List.mem_of_getElem? (i := 350) (by decide +kernel)))
    · exact my_str (hts _ (mem_t (i := 754) (by decide +kernel))) (hn _ (List.mem_of_getElem? (i := 370) (by decide +kernel)))
    · exact my_str (hts _ (mem_t (i := 810) (by decide +kernel))) (hn _ (List.mem_of_getElem? (i := 412) (by decide +kernel)))
    · exact my_str (hts _ (mem_t (i := 820) (by decide +kernel))) (hn _ (List.mem_of_getElem? (i := 444) (by decide +kernel)))
    · exact my_str (hts _ (mem_t (i := 838) (by decide +kernel))) (hn _ (List.mem_of_getElem? (i := 480) (by decide +kernel)))
    · exact my_str (hts _ (mem_t (i := 846) (by decide +kernel))) (hn _ (List.mem_of_getElem? (i := 496) (by decide +kernel)))
    · exact my_str (hts _ (mem_t (i := 847) (by decide +kernel))) (hn _ (List.mem_of_getElem? (i := 525) (by decide +kernel)))
    · exact my_str (hts _ (mem_t (i := 863) (by decide +kernel))) (hn _ (List.mem_of_getElem? (i := 575) (by decide +kernel)))
    · exact my_str (hts _ (mem_t (i := 899) (by decide +kernel))) (hn _ (List.mem_of_getElem? (i := 596) (by decide +kernel)))
    · exact my_str (hts _ (mem_t (i := 928) (by decide +kernel))) (hn _ (List.mem_of_getElem? (i := 615) (by decide +kernel)))
    · exact my_str (hts _ (mem_t (i := 962) (by decide +kernel))) (hn _ (List.mem_of_getElem? (i := 647) (by decide +kernel)))
    · exact my_str (hts _ (mem_t (i := 963) (by decide +kernel))) (hn _ (List.mem_of_getElem? (i := 676) (by decide +kernel)))
    · exact my_str (hts _ (mem_t (i := 978) (by decide +kernel))) (hn _ (List.mem_of_getElem? (i := 699) (by decide +kernel)))
    · exact my_str (hts _ (mem_t (i := 990) (by decide +kernel))) (hn _ (List.mem_of_getElem? (i := 715) (by decide +kernel)))
    · exact my_str (hts _ (mem_t (i := 998) (by decide +kernel))) (hn _ (List.mem_of_getElem? (i := 741) (by decide +kernel)))
    · exact my_str (hts _ (mem_t (i := 1006) (by decide +kernel))) (hn _ (List.mem_of_getElem? (i := 761) (by decide +kernel)))
    · exact my_str (hts _ (mem_t (i := 1014) (by decide +kernel))) (hn _ (List.mem_of_getElem? (i := 780) (by decide +kernel)))
    · exact my_str (hts _ (mem_t (i := 1015) (by decide +kernel))) (hn _ (List.mem_of_getElem? (i := 794) (by decide +kernel)))
    · exact my_str (hts _ (mem_t (i := 1033) (by decide +kernel))) (hn _ (List.mem_of_getElem? (i := 836) (by decide +kernel)))
    · exact my_str (hts _ (mem_t (i := 1034) (by decide +kernel))) (hn _ (List.mem_of_getElem? (i := 864) (by decide +kernel)))
    · exact my_str (hts _ (mem_t (i := 1048) (by decide +kernel))) (hn _ (List.mem_of_getElem? (i := 896) (by decide +kernel)))
    · exact my_str (hts _ (mem_t (i := 1057) (by decide +kernel))) (hn _ (List.mem_of_getElem? (i := 917) (by decide +kernel)))
    · exact my_str (hts _ (mem_t (i := 1092) (by decide +kernel))) (hn _ (List.mem_of_getElem? (i := 962) (by decide +kernel)))
    · exact my_str (hts _ (mem_t (i := 1100) (by decide +kernel))) (hn _ (List.mem_of_getElem? (i := 979) (by decide +kernel)))
    · exact my_str (hts _ (mem_t (i := 1101) (by decide +kernel))) (hn _ (List.mem_of_getElem? (i := 1025) (by decide +kernel)))
    · exact my_str (hts _ (mem_t (i := 1114) (by decide +kernel))) (hn _ (List.mem_of_getElem? (i := 1045) (by decide +kernel)))
    · exact my_str (hts _ (mem_t (i := 1115) (by decide +kernel))) (hn _ (List.mem_of_getElem? (i := 1077) (by decide +kernel)))
    · exact my_str (hts _ (mem_t (i := 1145) (by decide +kernel))) (hn _ (List.mem_of_getElem? (i := 1104) (by decide +kernel)))
    · exact my_str (hts _ (mem_t (i := 1153) (by decide +kernel))) (hn _ (List.mem_of_getElem? (i := 1128) (by decide +kernel)))
    · exact my_str (hts _ (mem_t (i := 1164) (by decide +kernel))) (hn _ (List.mem_of_getElem? (i := 1161) (by decide +kernel)))
    · exact my_str (hts _ (mem_t (i := 1172) (by decide +kernel))) (hn _ (List.mem_of_getElem? (i := 1178) (by decide +kernel)))
    · exact my_str (hts _ (mem_t (i := 1180) (by decide +kernel))) (hn _ (List.mem_of_getElem? (i := 1200) (by decide +kernel)))
    · exact my_str (hts _ (mem_t (i := 1192) (by decide +kernel))) (hn _ (List.mem_of_getElem? (i := 1221) (by decide +kernel)))
    · exact my_str (hts _ (mem_t (i := 1244) (by decide +kernel))) (hn _ (List.mem_of_getElem? (i := 1292) (by decide +kernel)))
    · exact my_str (hts _ (mem_t (i := 1259) (by decide +kernel))) (hn _ (List.mem_of_getElem? (i := 1320) (by decide +kernel)))
    · exact my_str (hts _ (mem_t (i := 1290) (by decide +kernel))) (hn _ (List.mem_of_getElem? (i := 1341) (by decide +kernel)))
    · exact my_str (hts _ (mem_t (i := 806) (by decide +kernel))) (hn _ (List.mem_of_getElem? (i := 394) (by decide +kernel)))
    · exact my_str (hts _ (mem_t (i := 862) (by decide +kernel))) (hn _ (List.mem_of_getElem? (i := 549) (by decide +kernel)))
    · exact my_str (hts _ (mem_t (i := 1026) (by decide +kernel))) (hn _ (List.mem_of_getElem? (i := 816) (by decide +kernel)))
    · exact my_str (hts _ (mem_t (i := 1211) (by decide +kernel))) (hn _ (List.mem_of_getElem? (i := 1243) (by decide +kernel)))
    · exact my_str (hts _ (mem_t (i := 1077) (by decide +kernel))) (hn _ (List.mem_of_getElem? (i := 938) (by decide +kernel)))
    · exact my_str (hts _ (mem_t (i := 1222) (by decide +kernel))) (hn _ (List.mem_of_getElem? (i := 1268) (by decide +kernel)))
  · simp only [excL, List.mem_cons, List.not_mem_nil, or_false] at hE
    rcases hE with rfl | rfl | rfl | rfl | rfl | rfl
    · exact va_Nw.of rfl (hts _ (mem_t (i := 799) (by decide +kernel)))
    · exact va_Nw.of rfl (hts _ (mem_t (i := 674) (by decide +kernel)))
    · exact va_Nw.of rfl (hts _ (mem_t (i := 747) (by decide +kernel)))
    · exact va_Nw.of rfl (hts _ (mem_t (i := 813) (by decide +kernel)))
    · exact va_Nw.of rfl (hts _ (mem_t (i := 921) (by decide +kernel)))
    · exact va_Nw.of rfl (hts _ (mem_t (i := 1275) (by decide +kernel)))
  · simp only [supL, List.mem_cons, List.not_mem_nil, or_false] at hE
    rcases hE with rfl | rfl | rfl
    · exact va_Nw.of rfl (hts _ (mem_t (i := 676) (by decide +kernel)))
    · exact va_Nw.of rfl (hts _ (mem_t (i := 678) (by decide +kernel)))
    · exact va_Nw.of rfl (hts _ (mem_t (i := 680) (by decide +kernel)))
  · simp only [excL, List.mem_cons, List.not_mem_nil, or_false] at hE hF
    rcases hE with rfl | rfl | rfl | rfl | rfl | rfl <;> rcases hF with rfl | rfl | rfl | rfl | rfl | rfl <;> first | exact absurd rfl hne | exact va_Nc.of (hn _ (by decide +kernel))
