theorem my_eqi {args : Array Value} {s : State} {t : Term} {z : Int32} (h : (Cond.eq t (.int z)).before args s = true) : t.eval args s none [] s = some (.int z) := by
  cases hv : t.eval args s none [] s with
  | none => simp [Cond.before, Cond.holds, Cond.value, hv] at h
  | some w =>
    have hz : (Term.int z).eval args s none [] s = some (.int z) := rfl
    simp only [Cond.before, Cond.holds, Cond.value, hv, hz] at h
    cases w <;> simp_all
theorem my_and63 (x : Int32) : ∃ j, j < 64 ∧ x &&& 63 = nI j := by
  have e : x = nI x.toBitVec.toNat := by
    apply Int32.toBitVec_inj.1
    show x.toBitVec = BitVec.ofNat 32 x.toBitVec.toNat
    simp
  refine ⟨x.toBitVec.toNat % 64, Nat.mod_lt _ (by omega), ?_⟩
  have h : nI x.toBitVec.toNat &&& nI 63 = nI (x.toBitVec.toNat &&& 63) := by
    apply Int32.toBitVec_inj.1
    show BitVec.ofNat 32 x.toBitVec.toNat &&& BitVec.ofNat 32 63 = BitVec.ofNat 32 (x.toBitVec.toNat &&& 63)
    apply BitVec.eq_of_getLsbD_eq
    intro i hi
    simp [hi]
  rw [show (63 : Nat) = 2 ^ 6 - 1 from rfl, Nat.and_two_pow_sub_one_eq_mod] at h
  rw [← e] at h
  exact h
set_option maxRecDepth 100000 in
set_option maxHeartbeats 4000000 in
theorem ent_J {args : Array Value} {s : State} (hts : ∀ w ∈ lw_tbl, w.before args s = true) (hn : ∀ w ∈ flN, w.before args s = true) : ∃ (eda ca : Nat) (ia : Nat → Nat), JS eda ca ia (fun q => s.heap.size ≤ q) s s.heap := by
  have hA : ∀ a : Nat, a < s.heap.size → ¬ (fun q => s.heap.size ≤ q) a := fun a h => Nat.not_le.mpr h
  have e0 := my_eqi (z := 0) (t := .length (Term.static "java/util/ArrayList" "DEFAULTCAPACITY_EMPTY_ELEMENTDATA" "[Ljava/lang/Object;")) (hn _ (List.mem_of_getElem? (i := 9) (by decide +kernel)))
  have e1 := my_eqi (z := 256) (t := .length (Term.static "java/lang/Integer$IntegerCache" "cache" "[Ljava/lang/Integer;")) (hn _ (List.mem_of_getElem? (i := 13) (by decide +kernel)))
  obtain ⟨eda, h1, hT1⟩ := va_Tof (tm := (Term.static "java/util/ArrayList" "DEFAULTCAPACITY_EMPTY_ELEMENTDATA" "[Ljava/lang/Object;")) (ty := .object "java/lang/Object") (N := 0) (f := fun _ => .null) (A := fun q => s.heap.size ≤ q) (by decide) (hn _ (List.mem_of_getElem? (i := 7) (by decide +kernel))) e0 (fun j hj => absurd hj (Nat.not_lt_zero j)) hA
  obtain ⟨ia, hC, hel⟩ := vb_Cof (st := (Term.static "java/lang/Integer$IntegerCache" "cache" "[Ljava/lang/Integer;")) (A := fun q => s.heap.size ≤ q) rfl e1 (hn _ (List.mem_of_getElem? (i := 14) (by decide +kernel))) hA
  obtain ⟨ca, h2, hT2⟩ := va_Tof (tm := (Term.static "java/lang/Integer$IntegerCache" "cache" "[Ljava/lang/Integer;")) (ty := .object "java/lang/Integer") (N := 256) (f := fun k => .ref (ia k)) (A := fun q => s.heap.size ≤ q) (by decide) (hn _ (List.mem_of_getElem? (i := 12) (by decide +kernel))) e1 hel hA
  have e2 := va_eqi (z := 127) (C := "java/lang/Integer$IntegerCache") (n := "high") (d := "I") (hn _ (List.mem_of_getElem? (i := 10) (by decide +kernel)))
  refine ⟨eda, ca, ia, va_Zof (hts _ (mem_t (i := 1310) (by decide +kernel))) (hts _ (mem_t (i := 14) (by decide +kernel))) h1 hA, hT1, va_Zof (hts _ (mem_t (i := 1792) (by decide +kernel))) (hts _ (mem_t (i := 36) (by decide +kernel))) e2 hA, va_Zof (hts _ (mem_t (i := 1794) (by decide +kernel))) (hts _ (mem_t (i := 36) (by decide +kernel))) h2 hA, hT2, hC.1, ?_, ?_⟩
  · exact va_Fw.of (hts _ (mem_t (i := 1626) (by decide +kernel))) (hts _ (mem_t (i := 1625) (by decide +kernel))) (hts _ (mem_t (i := 1631) (by decide +kernel))) (hts _ (mem_t (i := 1629) (by decide +kernel))) (hts _ (mem_t (i := 1627) (by decide +kernel)))
  · exact va_Fw.of (hts _ (mem_t (i := 1636) (by decide +kernel))) (hts _ (mem_t (i := 1635) (by decide +kernel))) (hts _ (mem_t (i := 1640) (by decide +kernel))) (hts _ (mem_t (i := 1638) (by decide +kernel))) (hts _ (mem_t (i := 1627) (by decide +kernel)))
theorem exW_in : ∀ w ∈ exW, w ∈ lw_tbl := by
  intro w hw
  simp only [exW, List.mem_cons, List.not_mem_nil, or_false] at hw
  rcases hw with rfl | rfl | rfl | rfl | rfl | rfl
  · exact (mem_t (i := 660) (by decide +kernel))
  · exact (mem_t (i := 661) (by decide +kernel))
  · exact (mem_t (i := 764) (by decide +kernel))
  · exact (mem_t (i := 788) (by decide +kernel))
  · exact (mem_t (i := 910) (by decide +kernel))
  · exact (mem_t (i := 1263) (by decide +kernel))
