theorem my_arrP {args : Array Value} {s : State} {ty : FieldType} (hp : ∀ C : String, ty ≠ .object C) (h : (Cond.arrayClass ty).before args s = true) : ∃ cA : ClassId, ArrOfT s cA ty ∧ va_RA s cA ty := by
  obtain ⟨cA, kA, comp, h1, h2, h3⟩ := Cond.arrayClass_spec (args := args) (first := s) (o := none) (s := s) (idx := []) h
  refine ⟨cA, fun n z => ⟨fun k h => (by cases h), kA, h2, comp, h3⟩, ?_⟩
  cases ty with
  | object C => exact absurd rfl (hp C)
  | _ => exact h1
theorem my_arrO {args : Array Value} {s : State} {C : String} (h : (Cond.arrayOver (.object C)).before args s = true) : ∃ cA : ClassId, ArrOfT s cA (.object C) ∧ va_RA s cA (.object C) := by
  obtain ⟨comp, cA, kA, h1, -, h2, h3, h4⟩ := Cond.arrayOver_spec (args := args) (first := s) (o := none) (s := s) (idx := []) h
  exact ⟨cA, fun n z => ⟨fun k h => (by cases h), kA, h2, comp, h3⟩, kA, comp, h2, h3, h1, h4⟩
theorem my_str {args : Array Value} {s : State} {own tx : String} {k : Nat} (h1 : (Cond.stringRef own k tx).before args s = true) (h2 : (Cond.exactly (Term.string own k) "java/lang/String").before args s = true) : ∃ sa : Nat, vk_R own k tx sa s := by
  obtain ⟨a, c, cell, kk, e1, -⟩ := Cond.exactly_spec (args := args) (first := s) (o := none) (s := s) (idx := []) (t := Term.string own k) (cls := "java/lang/String") h2
  exact ⟨a, vk_R.of h1 e1⟩
theorem my_self {s : State} {C : String} {c : ClassId} (h : s.vm.findClass C = some c) : va_Nw (.castable C C) s := by
  unfold va_Nw
  simp [Cond.before, Cond.holds, Cond.value, h, va_asg]
set_option maxRecDepth 100000 in
set_option maxHeartbeats 4000000 in
theorem ent_K {args : Array Value} {s : State} (hts : ∀ w ∈ lw_tbl, w.before args s = true) : ∃ (D : va_G) (cy : Nat → ClassId), va_K D vwCl (tyL cy) s := by
  obtain ⟨c0, i0, hk0⟩ := u_known (C := RJ0) (T := TJ0) (N := 2) (n := 4) hts lwi_wsJ00 (hts _ (mem_p (k := 4) (j := 63) rfl))
  obtain ⟨c1, i1, hk1⟩ := u_known (C := RJ6) (T := TJ6) (N := 1) (n := 1) hts lwi_wsJ60 (hts _ (mem_p (k := 8) (j := 112) rfl))
  obtain ⟨c2, i2, hk2⟩ := u_known (C := RJx00060) (T := TJx00060) (N := 6) (n := 6) hts lwi_wsJx000600 (hts _ (mem_p (k := 4) (j := 45) rfl))
  obtain ⟨c3, i3, hk3⟩ := u_known (C := RJx35411) (T := TJx35411) (N := 4) (n := 4) hts lwi_wsJx354110 (hts _ (mem_p (k := 7) (j := 161) rfl))
  obtain ⟨c4, i4, hk4⟩ := u_known (C := RJx4a65c) (T := TJx4a65c) (N := 3) (n := 3) hts lwi_wsJx4a65c0 (hts _ (mem_p (k := 6) (j := 98) rfl))
  obtain ⟨c5, i5, hk5⟩ := u_known (C := RX0) (T := TX0) (N := 4) (n := 4) hts lwi_wsX00 (hts _ (mem_p (k := 1) (j := 56) rfl))
  obtain ⟨c6, i6, hk6⟩ := u_known (C := RX1) (T := TX1) (N := 20) (n := 20) hts lwi_wsX10 (hts _ (mem_p (k := 1) (j := 164) rfl))
  obtain ⟨c7, i7, hk7⟩ := u_known (C := RX2) (T := TX2) (N := 9) (n := 9) hts lwi_wsX20 (hts _ (mem_p (k := 1) (j := 186) rfl))
  obtain ⟨c8, i8, hk8⟩ := u_known (C := RX3) (T := TX3) (N := 10) (n := 10) hts lwi_wsX30 (hts _ (mem_p (k := 1) (j := 105) rfl))
  obtain ⟨c9, i9, hk9⟩ := u_known (C := RX4) (T := TX4) (N := 2) (n := 2) hts lwi_wsX40 (hts _ (mem_p (k := 1) (j := 170) rfl))
  obtain ⟨c10, i10, hk10⟩ := u_known (C := RX5) (T := TX5) (N := 14) (n := 14) hts lwi_wsX50 (hts _ (mem_p (k := 2) (j := 63) rfl))
  obtain ⟨c11, i11, hk11⟩ := u_known (C := RX6) (T := TX6) (N := 3) (n := 3) hts lwi_wsX60 (hts _ (mem_p (k := 1) (j := 149) rfl))
  obtain ⟨c12, i12, hk12⟩ := u_known (C := RX7) (T := TX7) (N := 6) (n := 6) hts lwi_wsX70 (hts _ (mem_p (k := 2) (j := 70) rfl))
  obtain ⟨c13, i13, hk13⟩ := u_known (C := RX8) (T := TX8) (N := 5) (n := 5) hts lwi_wsX80 (hts _ (mem_p (k := 1) (j := 78) rfl))
  obtain ⟨c14, i14, hk14⟩ := u_known (C := RX9) (T := TX9) (N := 13) (n := 13) hts lwi_wsX90 (hts _ (mem_p (k := 1) (j := 44) rfl))
  obtain ⟨c15, i15, hk15⟩ := u_known (C := RX10) (T := TX10) (N := 16) (n := 16) hts lwi_wsX100 (hts _ (mem_p (k := 6) (j := 129) rfl))
  obtain ⟨c16, i16, hk16⟩ := u_known (C := RX11) (T := TX11) (N := 5) (n := 5) hts lwi_wsX110 (hts _ (mem_p (k := 7) (j := 125) rfl))
  obtain ⟨c17, i17, hk17⟩ := u_known (C := RX12) (T := TX12) (N := 10) (n := 10) hts lwi_wsX120 (hts _ (mem_p (k := 8) (j := 155) rfl))
  obtain ⟨c18, i18, hk18⟩ := u_known (C := RX13) (T := TX13) (N := 5) (n := 5) hts lwi_wsX130 (hts _ (mem_p (k := 9) (j := 4) rfl))
  obtain ⟨c19, i19, hk19⟩ := u_known (C := RX14) (T := TX14) (N := 19) (n := 19) hts lwi_wsX140 (hts _ (mem_p (k := 6) (j := 92) rfl))
  obtain ⟨a0, ha0⟩ := my_arrP (ty := .int) (fun C z => by cases z) (hts _ (mem_p (k := 1) (j := 76) rfl))
  obtain ⟨a1, ha1⟩ := my_arrP (ty := .char) (fun C z => by cases z) (hts _ (mem_p (k := 1) (j := 147) rfl))
  obtain ⟨a2, ha2⟩ := my_arrP (ty := .long) (fun C z => by cases z) (hts _ (mem_p (k := 10) (j := 56) rfl))
  obtain ⟨a3, ha3⟩ := my_arrP (ty := .double) (fun C z => by cases z) (hts _ (mem_p (k := 10) (j := 57) rfl))
  obtain ⟨a4, ha4⟩ := my_arrO (C := "Hubcascade$Device") (hts _ (mem_p (k := 1) (j := 52) rfl))
  obtain ⟨a5, ha5⟩ := my_arrO (C := "Hubcascade$Endpoint") (hts _ (mem_p (k := 1) (j := 185) rfl))
  obtain ⟨a6, ha6⟩ := my_arrO (C := "Hubcascade$Pipe") (hts _ (mem_p (k := 1) (j := 54) rfl))
  obtain ⟨a7, ha7⟩ := my_arrO (C := "Hubcascade$Transfer") (hts _ (mem_p (k := 2) (j := 69) rfl))
  obtain ⟨a8, ha8⟩ := my_arrO (C := "HubcascadeModel$End") (hts _ (mem_p (k := 6) (j := 135) rfl))
  obtain ⟨a9, ha9⟩ := my_arrO (C := "HubcascadeModel$Pipe") (hts _ (mem_p (k := 6) (j := 127) rfl))
  obtain ⟨a10, ha10⟩ := my_arrO (C := "java/lang/Object") (hts _ (mem_p (k := 7) (j := 17) rfl))
  obtain ⟨a11, ha11⟩ := my_arrP (ty := .boolean) (fun C z => by cases z) (hts _ (mem_p (k := 8) (j := 11) rfl))
  refine ⟨(fun k => [c0, c1, c2, c3, c4, c5, c6, c7, c8, c9, c10, c11, c12, c13, c14, c15, c16, c17, c18, c19].getD k 0, fun k => [i0, i1, i2, i3, i4, i5, i6, i7, i8, i9, i10, i11, i12, i13, i14, i15, i16, i17, i18, i19].getD k (fun _ => 0)), fun k => [a0, a1, a2, a3, a4, a5, a6, a7, a8, a9, a10, a11].getD k 0, ?_, ?_⟩
  · intro k q hq
    match k, hq with
    | 0, hq => cases hq; exact hk0
    | 1, hq => cases hq; exact hk1
    | 2, hq => cases hq; exact hk2
    | 3, hq => cases hq; exact hk3
    | 4, hq => cases hq; exact hk4
    | 5, hq => cases hq; exact hk5
    | 6, hq => cases hq; exact hk6
    | 7, hq => cases hq; exact hk7
    | 8, hq => cases hq; exact hk8
    | 9, hq => cases hq; exact hk9
    | 10, hq => cases hq; exact hk10
    | 11, hq => cases hq; exact hk11
    | 12, hq => cases hq; exact hk12
    | 13, hq => cases hq; exact hk13
    | 14, hq => cases hq; exact hk14
    | 15, hq => cases hq; exact hk15
    | 16, hq => cases hq; exact hk16
    | 17, hq => cases hq; exact hk17
    | 18, hq => cases hq; exact hk18
    | 19, hq => cases hq; exact hk19
    | k + 20, hq => simp [vwCl] at hq
  · intro k q hq
    match k, hq with
    | 0, hq => cases hq; exact ha0
    | 1, hq => cases hq; exact ha1
    | 2, hq => cases hq; exact ha2
    | 3, hq => cases hq; exact ha3
    | 4, hq => cases hq; exact ha4
    | 5, hq => cases hq; exact ha5
    | 6, hq => cases hq; exact ha6
    | 7, hq => cases hq; exact ha7
    | 8, hq => cases hq; exact ha8
    | 9, hq => cases hq; exact ha9
    | 10, hq => cases hq; exact ha10
    | 11, hq => cases hq; exact ha11
    | k + 12, hq => simp [tyL] at hq
set_option maxRecDepth 100000 in
set_option maxHeartbeats 4000000 in
theorem nest_in : ∀ w ∈ nestL, w ∈ lw_tbl := lw_by [(1, 64), (1, 66), (1, 84), (1, 86), (1, 88), (1, 90), (1, 92), (1, 115), (1, 117), (1, 119), (1, 121), (1, 123), (1, 125), (1, 154), (1, 155), (1, 156), (1, 176), (1, 178), (1, 195), (1, 196), (1, 197), (1, 198), (1, 199), (1, 200), (1, 201), (1, 202), (1, 204), (1, 205), (1, 206), (1, 208), (1, 210), (1, 231), (1, 233), (1, 234), (1, 235), (1, 236), (1, 237), (1, 238), (2, 0), (2, 2), (2, 3), (2, 5), (2, 7), (2, 9), (2, 11), (2, 13), (2, 14), (2, 16), (2, 17), (2, 19), (2, 21), (2, 76), (2, 77), (2, 78), (2, 79), (2, 80), (2, 81), (2, 82), (2, 83), (2, 84), (2, 85), (2, 86), (2, 87), (2, 88), (2, 103), (2, 105), (2, 107), (2, 109), (2, 111), (2, 113), (2, 115), (2, 117), (2, 119), (2, 121), (2, 122), (2, 126), (6, 113), (6, 137), (6, 139), (6, 141), (6, 143), (6, 145), (6, 147), (6, 149), (6, 151), (6, 152), (6, 153), (6, 155), (6, 156), (6, 157), (6, 159), (6, 161), (6, 163), (7, 133), (7, 135), (7, 136), (7, 138), (7, 140), (8, 163), (8, 165), (8, 167), (8, 169), (8, 171), (8, 172), (8, 173), (8, 174), (8, 176), (8, 178), (9, 14), (9, 16), (9, 17), (9, 18), (9, 19), (1, 57), (1, 79), (1, 106), (1, 150), (1, 165), (1, 171), (1, 187), (1, 192), (1, 194), (2, 64), (2, 71), (2, 200), (2, 212), (2, 228), (3, 27), (3, 31), (3, 39), (3, 43), (3, 47), (3, 51), (3, 55), (3, 73), (3, 81), (3, 85), (3, 97), (3, 101), (3, 105), (3, 110), (3, 114), (4, 107), (5, 75), (5, 93), (5, 98), (5, 142), (5, 177), (5, 221)] rfl
theorem ent_N {args : Array Value} {s : State} {D : va_G} {cy : Nat → ClassId} (hK : va_K D vwCl (tyL cy) s) (hts : ∀ w ∈ lw_tbl, w.before args s = true) : NL s := by
  refine ⟨fun w hw => va_Nw.of (nest_tabs (nestL_ok w hw)) (hts w (nest_in w hw)), fun C hC => ?_, fun q hq => ?_⟩
  · simp only [aoL, List.mem_cons, List.not_mem_nil, or_false] at hC
    rcases hC with rfl | rfl | rfl | rfl | rfl | rfl | rfl
    · exact va_AO.of (hts _ (mem_p (k := 1) (j := 52) rfl))
    · exact va_AO.of (hts _ (mem_p (k := 1) (j := 185) rfl))
    · exact va_AO.of (hts _ (mem_p (k := 1) (j := 54) rfl))
    · exact va_AO.of (hts _ (mem_p (k := 2) (j := 69) rfl))
    · exact va_AO.of (hts _ (mem_p (k := 6) (j := 135) rfl))
    · exact va_AO.of (hts _ (mem_p (k := 6) (j := 127) rfl))
    · exact va_AO.of (hts _ (mem_p (k := 7) (j := 17) rfl))
  · simp only [castL, List.mem_cons, List.not_mem_nil, or_false] at hq
    rcases hq with rfl | rfl | rfl | rfl | rfl | rfl | rfl
    · exact my_self (hK.1 15 _ rfl).2.1
    · exact va_Nw.of rfl (hts _ (mem_p (k := 10) (j := 75) rfl))
    · exact va_Nw.of rfl (hts _ (mem_p (k := 10) (j := 66) rfl))
    · exact va_Nw.of rfl (hts _ (mem_p (k := 10) (j := 92) rfl))
    · exact my_self (hK.1 18 _ rfl).2.1
    · exact va_Nw.of rfl (hts _ (mem_p (k := 10) (j := 83) rfl))
    · exact my_self (hK.1 1 _ rfl).2.1
abbrev flN : List Cond := flatC (Jvm.Cond.and given_1 narrow_1)
set_option maxRecDepth 100000 in
set_option maxHeartbeats 4000000 in
theorem ent_T {args : Array Value} {s : State} {A : Nat → Prop} (hts : ∀ w ∈ lw_tbl, w.before args s = true) (hn : ∀ w ∈ flN, w.before args s = true) (hA : ∀ a : Nat, a < s.heap.size → ¬ A a) : vi_ST A s := by
  refine ⟨⟨?_, ?_⟩, fun q hq => ?_, fun E hE => ?_, fun E hE => ?_, fun E hE F hF hne => ?_⟩
  · exact vx_Zqof (hts _ (mem_p (k := 3) (j := 219) rfl)) (hts _ (mem_p (k := 1) (j := 20) rfl)) (hn _ (List.mem_of_getElem? (i := 4) (by decide +kernel))) hA
  · exact vx_Zqof (hts _ (mem_p (k := 3) (j := 221) rfl)) (hts _ (mem_p (k := 1) (j := 20) rfl)) (hn _ (List.mem_of_getElem? (i := 5) (by decide +kernel))) hA
  · simp only [vStr, List.mem_cons, List.not_mem_nil, or_false] at hq
    rcases hq with rfl | rfl | rfl | rfl | rfl | rfl | rfl | rfl | rfl | rfl | rfl | rfl | rfl | rfl | rfl | rfl | rfl | rfl | rfl | rfl | rfl | rfl | rfl | rfl | rfl | rfl | rfl | rfl | rfl | rfl | rfl | rfl | rfl | rfl | rfl | rfl | rfl | rfl | rfl | rfl | rfl | rfl | rfl
    · exact my_str (hts _ (mem_p (k := 3) (j := 237) rfl)) (hn _ (List.mem_of_getElem? (i := 320) (by decide +kernel)))
    · exact my_str (hts _ (mem_p (k := 4) (j := 24) rfl)) (hn _ (List.mem_of_getElem? (i := 350) (by decide +kernel)))
    · exact my_str (hts _ (mem_p (k := 4) (j := 34) rfl)) (hn _ (List.mem_of_getElem? (i := 370) (by decide +kernel)))
    · exact my_str (hts _ (mem_p (k := 4) (j := 90) rfl)) (hn _ (List.mem_of_getElem? (i := 412) (by decide +kernel)))
    · exact my_str (hts _ (mem_p (k := 4) (j := 100) rfl)) (hn _ (List.mem_of_getElem? (i := 444) (by decide +kernel)))
    · exact my_str (hts _ (mem_p (k := 4) (j := 118) rfl)) (hn _ (List.mem_of_getElem? (i := 480) (by decide +kernel)))
    · exact my_str (hts _ (mem_p (k := 4) (j := 126) rfl)) (hn _ (List.mem_of_getElem? (i := 496) (by decide +kernel)))
    · exact my_str (hts _ (mem_p (k := 4) (j := 127) rfl)) (hn _ (List.mem_of_getElem? (i := 525) (by decide +kernel)))
    · exact my_str (hts _ (mem_p (k := 4) (j := 143) rfl)) (hn _ (List.mem_of_getElem? (i := 575) (by decide +kernel)))
    · exact my_str (hts _ (mem_p (k := 4) (j := 179) rfl)) (hn _ (List.mem_of_getElem? (i := 596) (by decide +kernel)))
    · exact my_str (hts _ (mem_p (k := 4) (j := 208) rfl)) (hn _ (List.mem_of_getElem? (i := 615) (by decide +kernel)))
    · exact my_str (hts _ (mem_p (k := 5) (j := 2) rfl)) (hn _ (List.mem_of_getElem? (i := 647) (by decide +kernel)))
    · exact my_str (hts _ (mem_p (k := 5) (j := 3) rfl)) (hn _ (List.mem_of_getElem? (i := 676) (by decide +kernel)))
    · exact my_str (hts _ (mem_p (k := 5) (j := 18) rfl)) (hn _ (List.mem_of_getElem? (i := 699) (by decide +kernel)))
    · exact my_str (hts _ (mem_p (k := 5) (j := 30) rfl)) (hn _ (List.mem_of_getElem? (i := 715) (by decide +kernel)))
    · exact my_str (hts _ (mem_p (k := 5) (j := 38) rfl)) (hn _ (List.mem_of_getElem? (i := 741) (by decide +kernel)))
    · exact my_str (hts _ (mem_p (k := 5) (j := 46) rfl)) (hn _ (List.mem_of_getElem? (i := 761) (by decide +kernel)))
    · exact my_str (hts _ (mem_p (k := 5) (j := 54) rfl)) (hn _ (List.mem_of_getElem? (i := 780) (by decide +kernel)))
    · exact my_str (hts _ (mem_p (k := 5) (j := 55) rfl)) (hn _ (List.mem_of_getElem? (i := 794) (by decide +kernel)))
    · exact my_str (hts _ (mem_p (k := 5) (j := 73) rfl)) (hn _ (List.mem_of_getElem? (i := 836) (by decide +kernel)))
    · exact my_str (hts _ (mem_p (k := 5) (j := 74) rfl)) (hn _ (List.mem_of_getElem? (i := 864) (by decide +kernel)))
    · exact my_str (hts _ (mem_p (k := 5) (j := 88) rfl)) (hn _ (List.mem_of_getElem? (i := 896) (by decide +kernel)))
    · exact my_str (hts _ (mem_p (k := 5) (j := 97) rfl)) (hn _ (List.mem_of_getElem? (i := 917) (by decide +kernel)))
    · exact my_str (hts _ (mem_p (k := 5) (j := 132) rfl)) (hn _ (List.mem_of_getElem? (i := 962) (by decide +kernel)))
    · exact my_str (hts _ (mem_p (k := 5) (j := 140) rfl)) (hn _ (List.mem_of_getElem? (i := 979) (by decide +kernel)))
    · exact my_str (hts _ (mem_p (k := 5) (j := 141) rfl)) (hn _ (List.mem_of_getElem? (i := 1025) (by decide +kernel)))
    · exact my_str (hts _ (mem_p (k := 5) (j := 154) rfl)) (hn _ (List.mem_of_getElem? (i := 1045) (by decide +kernel)))
    · exact my_str (hts _ (mem_p (k := 5) (j := 155) rfl)) (hn _ (List.mem_of_getElem? (i := 1077) (by decide +kernel)))
    · exact my_str (hts _ (mem_p (k := 5) (j := 185) rfl)) (hn _ (List.mem_of_getElem? (i := 1104) (by decide +kernel)))
    · exact my_str (hts _ (mem_p (k := 5) (j := 193) rfl)) (hn _ (List.mem_of_getElem? (i := 1128) (by decide +kernel)))
    · exact my_str (hts _ (mem_p (k := 5) (j := 204) rfl)) (hn _ (List.mem_of_getElem? (i := 1161) (by decide +kernel)))
    · exact my_str (hts _ (mem_p (k := 5) (j := 212) rfl)) (hn _ (List.mem_of_getElem? (i := 1178) (by decide +kernel)))
    · exact my_str (hts _ (mem_p (k := 5) (j := 220) rfl)) (hn _ (List.mem_of_getElem? (i := 1200) (by decide +kernel)))
    · exact my_str (hts _ (mem_p (k := 5) (j := 232) rfl)) (hn _ (List.mem_of_getElem? (i := 1221) (by decide +kernel)))
    · exact my_str (hts _ (mem_p (k := 6) (j := 44) rfl)) (hn _ (List.mem_of_getElem? (i := 1292) (by decide +kernel)))
    · exact my_str (hts _ (mem_p (k := 6) (j := 59) rfl)) (hn _ (List.mem_of_getElem? (i := 1320) (by decide +kernel)))
    · exact my_str (hts _ (mem_p (k := 6) (j := 90) rfl)) (hn _ (List.mem_of_getElem? (i := 1341) (by decide +kernel)))
    · exact my_str (hts _ (mem_p (k := 4) (j := 86) rfl)) (hn _ (List.mem_of_getElem? (i := 394) (by decide +kernel)))
    · exact my_str (hts _ (mem_p (k := 4) (j := 142) rfl)) (hn _ (List.mem_of_getElem? (i := 549) (by decide +kernel)))
    · exact my_str (hts _ (mem_p (k := 5) (j := 66) rfl)) (hn _ (List.mem_of_getElem? (i := 816) (by decide +kernel)))
    · exact my_str (hts _ (mem_p (k := 6) (j := 11) rfl)) (hn _ (List.mem_of_getElem? (i := 1243) (by decide +kernel)))
    · exact my_str (hts _ (mem_p (k := 5) (j := 117) rfl)) (hn _ (List.mem_of_getElem? (i := 938) (by decide +kernel)))
    · exact my_str (hts _ (mem_p (k := 6) (j := 22) rfl)) (hn _ (List.mem_of_getElem? (i := 1268) (by decide +kernel)))
  · simp only [excL, List.mem_cons, List.not_mem_nil, or_false] at hE
    rcases hE with rfl | rfl | rfl | rfl | rfl | rfl
    · exact va_Nw.of rfl (hts _ (mem_p (k := 4) (j := 79) rfl))
    · exact va_Nw.of rfl (hts _ (mem_p (k := 3) (j := 194) rfl))
    · exact va_Nw.of rfl (hts _ (mem_p (k := 4) (j := 27) rfl))
    · exact va_Nw.of rfl (hts _ (mem_p (k := 4) (j := 93) rfl))
    · exact va_Nw.of rfl (hts _ (mem_p (k := 4) (j := 201) rfl))
    · exact va_Nw.of rfl (hts _ (mem_p (k := 6) (j := 75) rfl))
  · simp only [supL, List.mem_cons, List.not_mem_nil, or_false] at hE
    rcases hE with rfl | rfl | rfl
    · exact va_Nw.of rfl (hts _ (mem_p (k := 3) (j := 196) rfl))
    · exact va_Nw.of rfl (hts _ (mem_p (k := 3) (j := 198) rfl))
    · exact va_Nw.of rfl (hts _ (mem_p (k := 3) (j := 200) rfl))
  · simp only [excL, List.mem_cons, List.not_mem_nil, or_false] at hE hF
    rcases hE with rfl | rfl | rfl | rfl | rfl | rfl <;> rcases hF with rfl | rfl | rfl | rfl | rfl | rfl <;> first | exact absurd rfl hne | exact va_Nc.of (hn _ (by decide +kernel))
