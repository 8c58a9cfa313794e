section MYJ
/-- the text of the faults' kinds: its cell, its bytes -/
def js_b (j : Nat) : Int32 := match j with
  | 0 => 99
  | 1 => 100
  | 2 => 97
  | 3 => 110
  | 4 => 115
  | 5 => 98
  | _ => 116
def js_L (ia : Nat → Nat) (A : Nat → Prop) (U : State) (H : Heap) : Prop := vk_R "HubcascadeModel" 327 "cdansbt" (ia 257) U ∧ va_O "java/lang/String" (ia 257) A U H ∧ va_Ef 1 "java/lang/String" "value" "[B" (fun _ => .ref (ia 258)) (fun _ => ia 257) A U H ∧ va_Ef 1 "java/lang/String" "coder" "B" (fun _ => .int 0) (fun _ => ia 257) A U H ∧ va_T .byte (ia 258) 7 (fun j => .int (js_b j)) A U H ∧ va_Z "java/lang/String" "COMPACT_STRINGS" "Z" (.int 1) A U H
theorem js_L_at {s : State} {H : Heap} {ia : Nat → Nat} {A B : Nat → Prop} (h : js_L ia A s s.heap) (hq : ∀ q : Nat, q < s.heap.size → ¬ A q → H[q]? = s.heap[q]?) (hB : ∀ q, B q → A q) {U : State} (hW : s.WarmedH U.vm) : js_L ia B U H := by
  obtain ⟨h1, h2, h3, h4, h5, h6⟩ := h
  exact ⟨vk_R.warm hW h1, va_O.moved hW.alike ((h2.kept hq).narrow hB), va_Ef.moved hW.alike ((h3.kept hq).narrow hB), va_Ef.moved hW.alike ((h4.kept hq).narrow hB), va_T.moved hW.alike ((h5.kept hq).narrow hB), va_Z.moved hW.alike ((h6.kept hq).narrow hB)⟩
theorem js_L_bl {U : State} {ia : Nat → Nat} {A : Nat → Prop} (g : JFrame) (mk : MethodId) (a : Array Value) (h : js_L ia A U U.heap) : js_L ia A (U.calling g mk a) (U.calling g mk a).heap := by
  obtain ⟨h1, h2, h3, h4, h5, h6⟩ := h
  have hv := Vm.Alike.refl U.vm
  exact ⟨vk_R.same (u := U) (U := U.calling g mk a) rfl h1, va_O.moved (u := U) (U := U.calling g mk a) hv h2, va_Ef.moved (u := U) (U := U.calling g mk a) hv h3, va_Ef.moved (u := U) (U := U.calling g mk a) hv h4, va_T.moved (u := U) (U := U.calling g mk a) hv h5, va_Z.moved (u := U) (U := U.calling g mk a) hv h6⟩
/-- what the lists of the JDK need beyond the world: their statics, the small Integers, the iterator's interface -/
def JS (eda ca : Nat) (ia : Nat → Nat) (A : Nat → Prop) (U : State) (H : Heap) : Prop := va_Z "java/util/ArrayList" "DEFAULTCAPACITY_EMPTY_ELEMENTDATA" "[Ljava/lang/Object;" (.ref eda) A U H ∧ va_T (.object "java/lang/Object") eda 0 (fun _ => .null) A U H ∧ va_Z "java/lang/Integer$IntegerCache" "high" "I" (.int 127) A U H ∧ va_Z "java/lang/Integer$IntegerCache" "cache" "[Ljava/lang/Integer;" (.ref ca) A U H ∧ va_T (.object "java/lang/Integer") ca 256 (fun k => .ref (ia k)) A U H ∧ (∀ k : Nat, k < 256 → va_O "java/lang/Integer" (ia k) A U H) ∧ va_Fw "java/util/ArrayList$Itr" ⟨"java/util/Iterator", "hasNext", "()Z"⟩ yJx35411_hasNext_aae02 U ∧ va_Fw "java/util/ArrayList$Itr" ⟨"java/util/Iterator", "next", "()Ljava/lang/Object;"⟩ yJx35411_next_0502b U ∧ va_Dc U ∧ va_Ef 256 "java/lang/Integer" "value" "I" (fun k => .int (vb_c k)) ia A U H ∧ va_Mi "[Ljava/lang/Object;" (ia 256) U ∧ va_Fw "java/util/ArrayList" ⟨"java/util/Collection", "toArray", "()[Ljava/lang/Object;"⟩ yJx4a65c_toArray_d5877 U ∧ va_O "[Ljava/lang/Object;" eda A U H ∧ js_L ia A U H
theorem js_at {s : State} {H : Heap} {eda ca : Nat} {ia : Nat → Nat} {A B : Nat → Prop} (h : JS eda ca ia A s s.heap) (hq : ∀ q : Nat, q < s.heap.size → ¬ A q → H[q]? = s.heap[q]?) (hB : ∀ q, B q → A q) {U : State} (hU : U.heap = H) (hW : s.WarmedH U.vm) : JS eda ca ia B U U.heap := by
  subst hU
  obtain ⟨h1, h2, h3, h4, h5, h6, h7, h8, h9, h11, h10, h12, h13, h14⟩ := h
  exact ⟨va_Z.moved hW.alike ((h1.kept hq).narrow hB), va_T.moved hW.alike ((h2.kept hq).narrow hB), va_Z.moved hW.alike ((h3.kept hq).narrow hB), va_Z.moved hW.alike ((h4.kept hq).narrow hB), va_T.moved hW.alike ((h5.kept hq).narrow hB), fun k hk => va_O.moved hW.alike (((h6 k hk).kept hq).narrow hB), va_Fw.moved (by decide) hW.alike h7, va_Fw.moved (by decide) hW.alike h8, va_Dc.moved hW.alike h9, va_Ef.moved hW.alike ((h11.kept hq).narrow hB), va_Mi.moved hW.alike h10, va_Fw.moved (by decide) hW.alike h12, va_O.moved hW.alike ((h13.kept hq).narrow hB), js_L_at h14 hq hB hW⟩
theorem js_blind {U : State} {eda ca : Nat} {ia : Nat → Nat} {A : Nat → Prop} (g : JFrame) (mk : MethodId) (a : Array Value) (h : JS eda ca ia A U U.heap) : JS eda ca ia A (U.calling g mk a) (U.calling g mk a).heap := by
  obtain ⟨h1, h2, h3, h4, h5, h6, h7, h8, h9, h11, h10, h12, h13, h14⟩ := h
  have hv := Vm.Alike.refl U.vm
  exact ⟨va_Z.moved (u := U) (U := U.calling g mk a) hv h1, va_T.moved (u := U) (U := U.calling g mk a) hv h2, va_Z.moved (u := U) (U := U.calling g mk a) hv h3, va_Z.moved (u := U) (U := U.calling g mk a) hv h4, va_T.moved (u := U) (U := U.calling g mk a) hv h5, fun k hk => va_O.moved (u := U) (U := U.calling g mk a) hv (h6 k hk), va_Fw.moved (u := U) (U := U.calling g mk a) (by decide) hv h7, va_Fw.moved (u := U) (U := U.calling g mk a) (by decide) hv h8, va_Dc.moved (u := U) (U := U.calling g mk a) hv h9, va_Ef.moved (u := U) (U := U.calling g mk a) hv h11, va_Mi.moved (u := U) (U := U.calling g mk a) hv h10, va_Fw.moved (u := U) (U := U.calling g mk a) (by decide) hv h12, va_O.moved (u := U) (U := U.calling g mk a) hv h13, js_L_bl g mk a h14⟩
end MYJ
