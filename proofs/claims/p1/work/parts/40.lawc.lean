/-- a char out of an int -/
def c16 (x : Int32) : Int32 := (x.toUInt32 % 65536).toInt32
theorem c16_val (x : Int32) : (c16 x).toUInt32 = x.toUInt32 % 65536 := by unfold c16; simp
theorem c16_n (x : Int32) : narrow .char (.int (c16 x)) = .int (c16 x) := by
  show Value.int (c16 x).toUInt32.toUInt16.toUInt32.toInt32 = .int (c16 x)
  rw [c16_val]
  congr 1
  unfold c16
  congr 1
  apply UInt32.toNat_inj.mp
  simp
theorem c16_f (x : Int32) : fits .char (.int (c16 x)) = true := by
  have h : (c16 x).toInt = ((x.toUInt32.toNat % 65536 : Nat) : Int) := by
    have h1 : (c16 x).toUInt32.toNat = x.toUInt32.toNat % 65536 := by rw [c16_val]; rfl
    have h4 : (c16 x).toBitVec.toNat = x.toUInt32.toNat % 65536 := h1
    have h3 : (c16 x).toBitVec.toInt = ((c16 x).toBitVec.toNat : Int) := BitVec.toInt_eq_toNat_of_lt (by rw [h4]; omega)
    rw [← h4, ← h3]
    rfl
  simp only [fits, Bool.and_eq_true, decide_eq_true_eq, Int32.le_iff_toInt_le, h]
  have e0 : (0 : Int32).toInt = 0 := by decide
  have e1 : (65535 : Int32).toInt = 65535 := by decide
  rw [e0, e1]
  omega
theorem my_cmp (x : Int64) : lg_cmp x x = 0 := by
  unfold lg_cmp
  simp
theorem my_d1 {A : Nat → Prop} {a : Nat} {e : va_E} (h : A a) : va_D A [(a, e)] := ⟨fun i j p q hi hj _ => by
    have h1 := (List.getElem?_eq_some_iff.mp hi).1
    have h2 := (List.getElem?_eq_some_iff.mp hj).1
    simp at h1 h2
    omega, fun k q hk => by
    match k, hk with
    | 0, hk => cases hk; exact h
    | k + 1, hk => simp at hk⟩
/-- what holds in the law behind its start: the machine, the words, the script of six ints, the classes -/
def LawAt (p : Program) (s : State) (m : MethodId) (meth : Method) (c : Code) (b : Nat) (xs : Nat → Int32) (D : va_G) (cy : Nat → ClassId) (eda ca : Nat) (ia : Nat → Nat) : Prop :=
  p.tables.exec = Jvm.exec ∧ c.code = cL_law ∧ c.maxLocals = 9 ∧ s.vm.findClass RL = some m.cls ∧ (∀ w ∈ wsL_law ++ exW, w.before #[Value.ref b] s = true) ∧ va_X b 6 xs s s.heap ∧ b < s.heap.size ∧ va_K D vwCl (tyL cy) s ∧ NL s ∧ ST s ∧ JS eda ca ia (fun q => s.heap.size ≤ q) s s.heap
/-- the locals of the law in its loop -/
abbrev lvL (b xo mo oa od : Nat) : List (Nat × Value) := [(5, .int 0), (4, .ref od), (3, .ref oa), (2, .ref mo), (1, .ref xo), (0, .ref b)]
/-- the end of the law's only turn -/
def LawEnd (p : Program) (l : Launch) (e : Env) (s : State) (m : MethodId) (below : List Frame) (meth : Method) (c : Code) (b xo mo oa od : Nat) : Prop := ∀ (H : Heap) (locs : List Loc) (ls : Array Slot), va_S (fun q => s.heap.size ≤ q) s.heap H locs → lv_has ls 9 (lvL b xo mo oa od) → W p l e room_1 s m #[Value.ref b] below meth c H locs 1000 10000 (lw_Z below #[Value.ref b] s) (F0 m 3117 ls [])
abbrev OCL (cy : Nat → ClassId) (oa : Nat) : Nat × va_E := (oa, .inl (cy 2, 1, .inr (.inl (fun _ => 0))))
/-- one turn of the law from the place pc, over the two fresh objects -/
def LGoal (p : Program) (l : Launch) (e : Env) (s : State) (m : MethodId) (below : List Frame) (meth : Method) (c : Code) (b : Nat) (D : va_G) (cy : Nat → ClassId) (am : Nat → Nat) (eda : Nat) (w : va_W) (xo oa od : Nat) (pc : Nat) : Prop := ∀ (H : Heap) (locs : List Loc) (ls : Array Slot), va_P D vwCl (WM cy am eda 0 ++ (OCL cy oa :: w)) H → va_D (fun q => s.heap.size ≤ q) (WM cy am eda 0 ++ (OCL cy oa :: w)) → va_S (fun q => s.heap.size ≤ q) s.heap H locs → lv_has ls 9 (lvL b xo (am 0) oa od) → W p l e room_1 s m #[Value.ref b] below meth c H locs 500 5000 (lw_Z below #[Value.ref b] s) (F0 m pc ls [])
theorem my_nlt4 {z : Int32} (h : ¬ z < 4) : 4 ≤ z := by
  rw [Int32.lt_iff_toInt_lt] at h
  rw [Int32.le_iff_toInt_le]
  omega

theorem gl_frame : GoodIn wsL_law (wsV RL 284 RX14 yX14_frame wsFR) := goodIn_of _ (by decide +kernel)
