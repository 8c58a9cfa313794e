section MYJ
/-- what the lists of the JDK need beyond the world: their statics, the small Integers, the iterator's interface -/
def JS (eda ca : Nat) (ia : Nat → Nat) (A : Nat → Prop) (U : State) (H : Heap) : Prop := va_Z "java/util/ArrayList" "DEFAULTCAPACITY_EMPTY_ELEMENTDATA" "[Ljava/lang/Object;" (.ref eda) A U H ∧ va_T (.object "java/lang/Object") eda 0 (fun _ => .null) A U H ∧ va_Z "java/lang/Integer$IntegerCache" "high" "I" (.int 127) A U H ∧ va_Z "java/lang/Integer$IntegerCache" "cache" "[Ljava/lang/Integer;" (.ref ca) A U H ∧ va_T (.object "java/lang/Integer") ca 256 (fun k => .ref (ia k)) A U H ∧ (∀ k : Nat, k < 256 → va_O "java/lang/Integer" (ia k) A U H) ∧ va_Fw "java/util/ArrayList$Itr" ⟨"java/util/Iterator", "hasNext", "()Z"⟩ yJx35411_hasNext_aae02 U ∧ va_Fw "java/util/ArrayList$Itr" ⟨"java/util/Iterator", "next", "()Ljava/lang/Object;"⟩ yJx35411_next_0502b U
theorem js_at {s : State} {H : Heap} {eda ca : Nat} {ia : Nat → Nat} {A B : Nat → Prop} (h : JS eda ca ia A s s.heap) (hq : ∀ q : Nat, q < s.heap.size → ¬ A q → H[q]? = s.heap[q]?) (hB : ∀ q, B q → A q) {U : State} (hU : U.heap = H) (hW : s.WarmedH U.vm) : JS eda ca ia B U U.heap := by
  subst hU
  obtain ⟨h1, h2, h3, h4, h5, h6, h7, h8⟩ := h
  exact ⟨va_Z.moved hW.alike ((h1.kept hq).narrow hB), va_T.moved hW.alike ((h2.kept hq).narrow hB), va_Z.moved hW.alike ((h3.kept hq).narrow hB), va_Z.moved hW.alike ((h4.kept hq).narrow hB), va_T.moved hW.alike ((h5.kept hq).narrow hB), fun k hk => va_O.moved hW.alike (((h6 k hk).kept hq).narrow hB), va_Fw.moved (by decide) hW.alike h7, va_Fw.moved (by decide) hW.alike h8⟩
theorem js_blind {U : State} {eda ca : Nat} {ia : Nat → Nat} {A : Nat → Prop} (g : JFrame) (mk : MethodId) (a : Array Value) (h : JS eda ca ia A U U.heap) : JS eda ca ia A (U.calling g mk a) (U.calling g mk a).heap := by
  obtain ⟨h1, h2, h3, h4, h5, h6, h7, h8⟩ := h
  have hv := Vm.Alike.refl U.vm
  exact ⟨va_Z.moved (u := U) (U := U.calling g mk a) hv h1, va_T.moved (u := U) (U := U.calling g mk a) hv h2, va_Z.moved (u := U) (U := U.calling g mk a) hv h3, va_Z.moved (u := U) (U := U.calling g mk a) hv h4, va_T.moved (u := U) (U := U.calling g mk a) hv h5, fun k hk => va_O.moved (u := U) (U := U.calling g mk a) hv (h6 k hk), va_Fw.moved (u := U) (U := U.calling g mk a) (by decide) hv h7, va_Fw.moved (u := U) (U := U.calling g mk a) (by decide) hv h8⟩
end MYJ
