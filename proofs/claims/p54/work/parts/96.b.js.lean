theorem my_eqi {args : Array Value} {s : State} {t : Term} {z : Int32} (h : (Cond.eq t (.int z)).before args s = true) : t.eval args s none [] s = some (.int z) := by
  cases hv : t.eval args s none [] s with
  | none => simp [Cond.before, Cond.holds, Cond.value, hv] at h
  | some w =>
    have hz : (Term.int z).eval args s none [] s = some (.int z) := rfl
    simp only [Cond.before, Cond.holds, Cond.value, hv, hz] at h
    cases w <;> simp_all
theorem my_OFof {args : Array Value} {s : State} {o n d : String} {v : Value} {t : Term} {a : Nat} {A : Nat → Prop} (hev : t.eval args s none [] s = some (.ref a)) (hv : (Term.field t o n d).eval args s none [] s = some v) (hA : ∀ a : Nat, a < s.heap.size → ¬ A a) : va_OF o n d v a A s s.heap := by
  cases hfo : s.fieldFound? o n d with
  | none =>
    rw [va_fe hev] at hv
    simp [State.fieldOf?, State.fieldNamed?, hfo] at hv
  | some x =>
    obtain ⟨cf, k, fi, f⟩ := x
    obtain ⟨g1, cell, g2, g3, -, -, g6⟩ := Term.field_spec hfo hev hv
    exact ⟨cf, k, fi, f, cell, hfo, g1, g2, g3, g6, hA _ (Array.getElem?_eq_some_iff.mp g2).1⟩
set_option maxRecDepth 100000 in
set_option maxHeartbeats 4000000 in
theorem ent_L {args : Array Value} {s : State} {A : Nat → Prop} (hts : ∀ w ∈ lw_tbl, w.before args s = true) (hn : ∀ w ∈ flN, w.before args s = true) (hA : ∀ a : Nat, a < s.heap.size → ¬ A a) : ∃ sa ba : Nat, ∀ ia : Nat → Nat, ia 257 = sa → ia 258 = ba → js_L ia A s s.heap := by
  have x0 : (Cond.exactly (Term.string "HubcascadeModel" 327) "java/lang/String").before args s = true := hn _ (List.mem_of_getElem? (i := 1364) (by decide +kernel))
  obtain ⟨sa, c0, cell, kk, e0, -⟩ := Cond.exactly_spec (args := args) (first := s) (o := none) (s := s) (idx := []) (t := Term.string "HubcascadeModel" 327) (cls := "java/lang/String") x0
  have e1 := my_eqi (z := 0) (t := Term.field (Term.string "HubcascadeModel" 327) "java/lang/String" "coder" "B") (hn _ (List.mem_of_getElem? (i := 1365) (by decide +kernel)))
  have e2 := my_eqi (z := 7) (t := .length (Term.field (Term.string "HubcascadeModel" 327) "java/lang/String" "value" "[B")) (hn _ (List.mem_of_getElem? (i := 1367) (by decide +kernel)))
  have b0 := my_eqi (z := 99) (t := .elem (Term.field (Term.string "HubcascadeModel" 327) "java/lang/String" "value" "[B") (.int 0)) (hn _ (List.mem_of_getElem? (i := 1368) (by decide +kernel)))
  have b1 := my_eqi (z := 100) (t := .elem (Term.field (Term.string "HubcascadeModel" 327) "java/lang/String" "value" "[B") (.int 1)) (hn _ (List.mem_of_getElem? (i := 1369) (by decide +kernel)))
  have b2 := my_eqi (z := 97) (t := .elem (Term.field (Term.string "HubcascadeModel" 327) "java/lang/String" "value" "[B") (.int 2)) (hn _ (List.mem_of_getElem? (i := 1370) (by decide +kernel)))
  have b3 := my_eqi (z := 110) (t := .elem (Term.field (Term.string "HubcascadeModel" 327) "java/lang/String" "value" "[B") (.int 3)) (hn _ (List.mem_of_getElem? (i := 1371) (by decide +kernel)))
  have b4 := my_eqi (z := 115) (t := .elem (Term.field (Term.string "HubcascadeModel" 327) "java/lang/String" "value" "[B") (.int 4)) (hn _ (List.mem_of_getElem? (i := 1372) (by decide +kernel)))
  have b5 := my_eqi (z := 98) (t := .elem (Term.field (Term.string "HubcascadeModel" 327) "java/lang/String" "value" "[B") (.int 5)) (hn _ (List.mem_of_getElem? (i := 1373) (by decide +kernel)))
  have b6 := my_eqi (z := 116) (t := .elem (Term.field (Term.string "HubcascadeModel" 327) "java/lang/String" "value" "[B") (.int 6)) (hn _ (List.mem_of_getElem? (i := 1374) (by decide +kernel)))
  obtain ⟨ba, e3, hT⟩ := va_Tof (tm := (Term.field (Term.string "HubcascadeModel" 327) "java/lang/String" "value" "[B")) (ty := .byte) (N := 7) (f := fun j => .int (js_b j)) (A := A) (by decide) (hn _ (List.mem_of_getElem? (i := 1366) (by decide +kernel))) e2 (fun j hj => match j, hj with | 0, _ => b0 | 1, _ => b1 | 2, _ => b2 | 3, _ => b3 | 4, _ => b4 | 5, _ => b5 | 6, _ => b6 | j + 7, hj => absurd hj (by omega)) hA
  have e4 := va_eqi (z := 1) (C := "java/lang/String") (n := "COMPACT_STRINGS") (d := "Z") (hn _ (List.mem_of_getElem? (i := 15) (by decide +kernel)))
  refine ⟨sa, ba, fun ia h7 h8 => ?_⟩
  subst h7 h8
  exact ⟨vk_R.of (hts _ (mem_p (k := 9) (j := 73) rfl)) e0, va_Oof x0 e0 hA, fun i _ => my_OFof e0 e3 hA, fun i _ => my_OFof e0 e1 hA, hT, va_Zof (hts _ (mem_p (k := 9) (j := 87) rfl)) (hts _ (mem_p (k := 1) (j := 27) rfl)) e4 hA⟩
set_option maxRecDepth 100000 in
set_option maxHeartbeats 4000000 in
theorem ent_J {args : Array Value} {s : State} {A : Nat → Prop} (hts : ∀ w ∈ lw_tbl, w.before args s = true) (hn : ∀ w ∈ flN, w.before args s = true) (hA : ∀ a : Nat, a < s.heap.size → ¬ A a) : ∃ (eda ca : Nat) (ia : Nat → Nat), JS eda ca ia A s s.heap := by
  have e0 := my_eqi (z := 0) (t := .length (Term.static "java/util/ArrayList" "DEFAULTCAPACITY_EMPTY_ELEMENTDATA" "[Ljava/lang/Object;")) (hn _ (List.mem_of_getElem? (i := 9) (by decide +kernel)))
  have e1 := my_eqi (z := 256) (t := .length (Term.static "java/lang/Integer$IntegerCache" "cache" "[Ljava/lang/Integer;")) (hn _ (List.mem_of_getElem? (i := 13) (by decide +kernel)))
  obtain ⟨eda, h1, hT1⟩ := va_Tof (tm := (Term.static "java/util/ArrayList" "DEFAULTCAPACITY_EMPTY_ELEMENTDATA" "[Ljava/lang/Object;")) (ty := .object "java/lang/Object") (N := 0) (f := fun _ => .null) (A := A) (by decide) (hn _ (List.mem_of_getElem? (i := 7) (by decide +kernel))) e0 (fun j hj => absurd hj (Nat.not_lt_zero j)) hA
  obtain ⟨ia0, hC, hel⟩ := vb_Cof (st := (Term.static "java/lang/Integer$IntegerCache" "cache" "[Ljava/lang/Integer;")) (A := A) rfl e1 (hn _ (List.mem_of_getElem? (i := 14) (by decide +kernel))) hA
  obtain ⟨mi, hM⟩ := va_Mi.of (C := "[Ljava/lang/Object;") (hn _ (List.mem_of_getElem? (i := 319) (by decide +kernel)))
  obtain ⟨sa, ba, hL⟩ := ent_L hts hn hA
  obtain ⟨ia, eia⟩ : ∃ ia : Nat → Nat, ia = fun k => if k < 256 then ia0 k else if k = 256 then mi else if k = 257 then sa else ba := ⟨_, rfl⟩
  have hia : ∀ k, k < 256 → ia k = ia0 k := fun k hk => by rw [eia]; exact if_pos hk
  have h6 : ia 256 = mi := by rw [eia]; rfl
  have h7 : ia 257 = sa := by rw [eia]; rfl
  have h8 : ia 258 = ba := by rw [eia]; rfl
  obtain ⟨ca, h2, hT2⟩ := va_Tof (tm := (Term.static "java/lang/Integer$IntegerCache" "cache" "[Ljava/lang/Integer;")) (ty := .object "java/lang/Integer") (N := 256) (f := fun k => .ref (ia k)) (A := A) (by decide) (hn _ (List.mem_of_getElem? (i := 12) (by decide +kernel))) e1 (fun j hj => by rw [hia j hj]; exact hel j hj) hA
  have e2 := va_eqi (z := 127) (C := "java/lang/Integer$IntegerCache") (n := "high") (d := "I") (hn _ (List.mem_of_getElem? (i := 10) (by decide +kernel)))
  refine ⟨eda, ca, ia, va_Zof (hts _ (mem_p (k := 6) (j := 110) rfl)) (hts _ (mem_p (k := 1) (j := 14) rfl)) h1 hA, hT1, va_Zof (hts _ (mem_p (k := 8) (j := 108) rfl)) (hts _ (mem_p (k := 1) (j := 36) rfl)) e2 hA, va_Zof (hts _ (mem_p (k := 8) (j := 110) rfl)) (hts _ (mem_p (k := 1) (j := 36) rfl)) h2 hA, hT2, fun k hk => by rw [hia k hk]; exact hC.1 k hk, ?_, ?_, va_Dc.of (hts _ (mem_p (k := 10) (j := 89) rfl)), fun k hk => by rw [hia k hk]; exact hC.2 k hk, by rw [h6]; exact hM, ?_, va_Oof (hn _ (List.mem_of_getElem? (i := 8) (by decide +kernel))) h1 hA, hL ia h7 h8⟩
  · exact va_Fw.of (hts _ (mem_p (k := 7) (j := 182) rfl)) (hts _ (mem_p (k := 7) (j := 181) rfl)) (hts _ (mem_p (k := 7) (j := 187) rfl)) (hts _ (mem_p (k := 7) (j := 185) rfl)) (hts _ (mem_p (k := 7) (j := 183) rfl))
  · exact va_Fw.of (hts _ (mem_p (k := 7) (j := 192) rfl)) (hts _ (mem_p (k := 7) (j := 191) rfl)) (hts _ (mem_p (k := 7) (j := 196) rfl)) (hts _ (mem_p (k := 7) (j := 194) rfl)) (hts _ (mem_p (k := 7) (j := 183) rfl))
  · exact va_Fw.of (hts _ (mem_p (k := 9) (j := 62) rfl)) (hts _ (mem_p (k := 9) (j := 61) rfl)) (hts _ (mem_p (k := 9) (j := 67) rfl)) (hts _ (mem_p (k := 9) (j := 65) rfl)) (hts _ (mem_p (k := 9) (j := 63) rfl))
