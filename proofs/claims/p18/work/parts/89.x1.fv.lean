section VFV
/-! the class's five, exactly -/
section MYL
variable {p : Program} {l : Launch} {e : Env} {R : Room} {s : State} {m : MethodId} {args : Array Value} {below : List Frame} {meth : Method} {c : Code} {cells slots : Nat} {Q : State → Prop}
variable {D : va_G} {w : va_W} {A0 : Nat → Prop} {H0 : Heap}
/-- a loop that only reads: its counter goes from i0 to N -/
theorem ro_loop (N i0 : Nat) (LV : Nat → List (Nat × Value)) {h nL : Nat}
    (step : ∀ i : Nat, i0 ≤ i → i ≤ N → (i < N → ∀ (H : Heap) (locs : List Loc) (ls : Array Slot), va_P D vwCl w H → va_S A0 H0 H locs → lv_has ls nL (LV (i + 1)) → W p l e R s m args below meth c H locs cells slots Q (F0 m h ls [])) → ∀ (H : Heap) (locs : List Loc) (ls : Array Slot), va_P D vwCl w H → va_S A0 H0 H locs → lv_has ls nL (LV i) → W p l e R s m args below meth c H locs cells slots Q (F0 m h ls []))
    (hi0 : i0 ≤ N) {H : Heap} {locs : List Loc} {ls : Array Slot} (hP : va_P D vwCl w H) (hS : va_S A0 H0 H locs) (hl : lv_has ls nL (LV i0)) : W p l e R s m args below meth c H locs cells slots Q (F0 m h ls []) := by
  suffices K : ∀ (n i : Nat), N - i = n → i0 ≤ i → i ≤ N → ∀ (H : Heap) (locs : List Loc) (ls : Array Slot), va_P D vwCl w H → va_S A0 H0 H locs → lv_has ls nL (LV i) → W p l e R s m args below meth c H locs cells slots Q (F0 m h ls []) from K _ i0 rfl (Nat.le_refl _) hi0 H locs ls hP hS hl
  intro n
  induction n with
  | zero =>
    intro i h1 h2 h3 H locs ls hP hS hl
    exact step i h2 h3 (fun z => absurd z (by omega)) H locs ls hP hS hl
  | succ n ih =>
    intro i h1 h2 h3 H locs ls hP hS hl
    exact step i h2 h3 (fun z => ih (i + 1) (by omega) (by omega) z) H locs ls hP hS hl
end MYL
theorem my_exit {i N : Nat} {c : Int32} (hc : c = nI N) (hN : N < 2 ^ 31) (hi : i ≤ N) (h : c ≤ nI i) : i = N := by
  subst hc
  rcases Nat.lt_or_ge i N with q | q
  · exact absurd h (nI_ge q hN)
  · omega
theorem my_cont {i N : Nat} {c : Int32} (hc : c = nI N) (hN : N < 2 ^ 31) (hi : i ≤ N) (h : ¬ c ≤ nI i) : i < N := by
  subst hc
  rcases Nat.lt_or_ge i N with q | q
  · exact q
  · exact absurd (nI_le q (by omega)) h
def ck5 (c b : Int32) : Int32 := if (c >>> ((4 : Int32) &&& 31)) &&& 1 = b then (c <<< ((1 : Int32) &&& 31)) &&& 31 else ((c <<< ((1 : Int32) &&& 31)) &&& 31) ^^^ 5
def ck5s (b : Int32) : Nat → Int32
  | 0 => 31
  | k + 1 => ck5 (ck5s b k) ((b >>> (nI k &&& 31)) &&& 1)
theorem dX9_five_0 : decode cX9_five 0 = .ok (.iload_n 1, 1) := by decide +kernel
theorem dX9_five_1 : decode cX9_five 1 = .ok (.iconst 0, 1) := by decide +kernel
theorem dX9_five_2 : decode cX9_five 2 = .ok (.sipush 2047, 3) := by decide +kernel
theorem dX9_five_5 : decode cX9_five 5 = .ok (.invokestatic 88, 3) := by decide +kernel
theorem dX9_five_8 : decode cX9_five 8 = .ok (.ifCond .ne 14, 3) := by decide +kernel
theorem dX9_five_14 : decode cX9_five 14 = .ok (.dup, 1) := by decide +kernel
theorem dX9_five_15 : decode cX9_five 15 = .ok (.ldc_w 258, 3) := by decide +kernel
theorem dX9_five_22 : decode cX9_five 22 = .ok (.bipush 31, 2) := by decide +kernel
theorem dX9_five_24 : decode cX9_five 24 = .ok (.istore_n 2, 1) := by decide +kernel
theorem dX9_five_25 : decode cX9_five 25 = .ok (.iconst 0, 1) := by decide +kernel
theorem dX9_five_26 : decode cX9_five 26 = .ok (.istore_n 3, 1) := by decide +kernel
theorem dX9_five_27 : decode cX9_five 27 = .ok (.iload_n 3, 1) := by decide +kernel
theorem dX9_five_28 : decode cX9_five 28 = .ok (.bipush 11, 2) := by decide +kernel
theorem dX9_five_30 : decode cX9_five 30 = .ok (.if_icmp .ge 21, 3) := by decide +kernel
theorem dX9_five_33 : decode cX9_five 33 = .ok (.iload_n 2, 1) := by decide +kernel
theorem dX9_five_34 : decode cX9_five 34 = .ok (.iload_n 1, 1) := by decide +kernel
theorem dX9_five_35 : decode cX9_five 35 = .ok (.iload_n 3, 1) := by decide +kernel
theorem dX9_five_36 : decode cX9_five 36 = .ok (.ishr, 1) := by decide +kernel
theorem dX9_five_37 : decode cX9_five 37 = .ok (.iconst 1, 1) := by decide +kernel
theorem dX9_five_38 : decode cX9_five 38 = .ok (.iand, 1) := by decide +kernel
theorem dX9_five_39 : decode cX9_five 39 = .ok (.iconst 4, 1) := by decide +kernel
theorem dX9_five_40 : decode cX9_five 40 = .ok (.iconst 5, 1) := by decide +kernel
theorem dX9_five_41 : decode cX9_five 41 = .ok (.invokestatic 260, 3) := by decide +kernel
theorem dX9_five_44 : decode cX9_five 44 = .ok (.istore_n 2, 1) := by decide +kernel
theorem dX9_five_45 : decode cX9_five 45 = .ok (.iinc 3 1, 3) := by decide +kernel
theorem dX9_five_48 : decode cX9_five 48 = .ok (.goto (-21), 3) := by decide +kernel
theorem dX9_five_51 : decode cX9_five 51 = .ok (.bipush 31, 2) := by decide +kernel
theorem dX9_five_53 : decode cX9_five 53 = .ok (.iload_n 2, 1) := by decide +kernel
theorem dX9_five_54 : decode cX9_five 54 = .ok (.isub, 1) := by decide +kernel
theorem dX9_five_55 : decode cX9_five 55 = .ok (.ireturn, 1) := by decide +kernel
theorem dX9_checkBit_0 : decode cX9_checkBit 0 = .ok (.iload_n 0, 1) := by decide +kernel
theorem dX9_checkBit_1 : decode cX9_checkBit 1 = .ok (.iload_n 2, 1) := by decide +kernel
theorem dX9_checkBit_2 : decode cX9_checkBit 2 = .ok (.ishr, 1) := by decide +kernel
theorem dX9_checkBit_3 : decode cX9_checkBit 3 = .ok (.iconst 1, 1) := by decide +kernel
theorem dX9_checkBit_4 : decode cX9_checkBit 4 = .ok (.iand, 1) := by decide +kernel
theorem dX9_checkBit_5 : decode cX9_checkBit 5 = .ok (.istore 4, 2) := by decide +kernel
theorem dX9_checkBit_7 : decode cX9_checkBit 7 = .ok (.iload_n 0, 1) := by decide +kernel
theorem dX9_checkBit_8 : decode cX9_checkBit 8 = .ok (.iconst 1, 1) := by decide +kernel
theorem dX9_checkBit_9 : decode cX9_checkBit 9 = .ok (.ishl, 1) := by decide +kernel
theorem dX9_checkBit_10 : decode cX9_checkBit 10 = .ok (.iconst 2, 1) := by decide +kernel
theorem dX9_checkBit_11 : decode cX9_checkBit 11 = .ok (.iload_n 2, 1) := by decide +kernel
theorem dX9_checkBit_12 : decode cX9_checkBit 12 = .ok (.ishl, 1) := by decide +kernel
theorem dX9_checkBit_13 : decode cX9_checkBit 13 = .ok (.iconst 1, 1) := by decide +kernel
theorem dX9_checkBit_14 : decode cX9_checkBit 14 = .ok (.isub, 1) := by decide +kernel
theorem dX9_checkBit_15 : decode cX9_checkBit 15 = .ok (.iand, 1) := by decide +kernel
theorem dX9_checkBit_16 : decode cX9_checkBit 16 = .ok (.istore 5, 2) := by decide +kernel
theorem dX9_checkBit_18 : decode cX9_checkBit 18 = .ok (.iload 4, 2) := by decide +kernel
theorem dX9_checkBit_20 : decode cX9_checkBit 20 = .ok (.iload_n 1, 1) := by decide +kernel
theorem dX9_checkBit_21 : decode cX9_checkBit 21 = .ok (.if_icmp .ne 8, 3) := by decide +kernel
theorem dX9_checkBit_24 : decode cX9_checkBit 24 = .ok (.iload 5, 2) := by decide +kernel
theorem dX9_checkBit_26 : decode cX9_checkBit 26 = .ok (.goto 7, 3) := by decide +kernel
theorem dX9_checkBit_29 : decode cX9_checkBit 29 = .ok (.iload 5, 2) := by decide +kernel
theorem dX9_checkBit_31 : decode cX9_checkBit 31 = .ok (.iload_n 3, 1) := by decide +kernel
theorem dX9_checkBit_32 : decode cX9_checkBit 32 = .ok (.ixor, 1) := by decide +kernel
theorem dX9_checkBit_33 : decode cX9_checkBit 33 = .ok (.ireturn, 1) := by decide +kernel
set_option maxRecDepth 100000 in
set_option maxHeartbeats 4000000 in
theorem c_checkBit5 (l : Launch) (D : va_G) (cy : Nat → ClassId) (w : va_W) (a b : Int32) : RO l D cy w yX9_checkBit (Cond.code yX9_checkBit cX9_checkBit 6 (some .int) :: vWall) 0 0 [.int a, .int b, .int 4, .int 5] (some (.int (ck5 a b))) := by
  refine ro_ofW (cc := cX9_checkBit) (maxL := 6) (ret := (some .int)) (lv := [(0, .int a), (1, .int b), (2, .int 4), (3, .int 5)]) (by decide) rfl (Nat.le_of_ble_eq_true rfl) rfl ?_
  intro p e s m below meth c ls hx hb hr hml hown hlocks hname hts hv hl
  have hown : s.vm.findClass RX9 = some m.cls := hown
  obtain ⟨hP, hK, hN⟩ := hv
  have hS : va_S (fun _ => False) s.heap s.heap [] := va_S.rf
  refine lv_iload_n hx hb dX9_checkBit_0 rfl (lv_at hl 0 rfl) ?_
  refine lv_iload_n hx hb dX9_checkBit_1 rfl (lv_at hl 2 rfl) ?_
  refine lv_ishr hx hb dX9_checkBit_2 ?_
  refine lv_topi (fun y ey => ?_)
  obtain rfl : y = a >>> ((4 : Int32) &&& 31) := ey.trans rfl
  refine lv_iconst (v := 1) hx hb dX9_checkBit_3 (by decide) ?_
  refine lv_iand hx hb dX9_checkBit_4 ?_
  refine lv_topi (fun y ey => ?_)
  obtain rfl : y = (a >>> ((4 : Int32) &&& 31)) &&& 1 := ey.trans rfl
  refine lv_istore (lv' := [(4, .int ((a >>> ((4 : Int32) &&& 31)) &&& 1)), (0, .int a), (1, .int b), (2, .int 4), (3, .int 5)]) hx hb dX9_checkBit_5 hl (by decide) rfl (fun ls hl => ?_)
  refine lv_iload_n hx hb dX9_checkBit_7 rfl (lv_at hl 1 rfl) ?_
  refine lv_iconst (v := 1) hx hb dX9_checkBit_8 (by decide) ?_
  refine lv_ishl hx hb dX9_checkBit_9 ?_
  refine lv_topi (fun y ey => ?_)
  obtain rfl : y = a <<< ((1 : Int32) &&& 31) := ey.trans rfl
  refine lv_iconst (v := 2) hx hb dX9_checkBit_10 (by decide) ?_
  refine lv_iload_n hx hb dX9_checkBit_11 rfl (lv_at hl 3 rfl) ?_
  refine lv_ishl hx hb dX9_checkBit_12 ?_
  refine lv_topi (fun y ey => ?_)
  obtain rfl : y = 32 := ey.trans (by decide)
  refine lv_iconst (v := 1) hx hb dX9_checkBit_13 (by decide) ?_
  refine lv_isub hx hb dX9_checkBit_14 ?_
  refine lv_topi (fun y ey => ?_)
  obtain rfl : y = 31 := ey.trans (by decide)
  refine lv_iand hx hb dX9_checkBit_15 ?_
  refine lv_topi (fun y ey => ?_)
  obtain rfl : y = (a <<< ((1 : Int32) &&& 31)) &&& 31 := ey.trans rfl
  refine lv_istore (lv' := [(5, .int ((a <<< ((1 : Int32) &&& 31)) &&& 31)), (4, .int ((a >>> ((4 : Int32) &&& 31)) &&& 1)), (0, .int a), (1, .int b), (2, .int 4), (3, .int 5)]) hx hb dX9_checkBit_16 hl (by decide) rfl (fun ls hl => ?_)
  refine lv_iload hx hb dX9_checkBit_18 (lv_at hl 1 rfl) ?_
  refine lv_iload_n hx hb dX9_checkBit_20 rfl (lv_at hl 3 rfl) ?_
  refine lv_icmp_ne (tgt := 29) hx hb dX9_checkBit_21 (by decide) (fun c21 => ?_) (fun c21 => ?_)
  · refine lv_iload hx hb dX9_checkBit_29 (lv_at hl 0 rfl) ?_
    refine lv_iload_n hx hb dX9_checkBit_31 rfl (lv_at hl 5 rfl) ?_
    refine lv_ixor hx hb dX9_checkBit_32 ?_
    refine lv_topi (fun y ey => ?_)
    obtain rfl : y = ((a <<< ((1 : Int32) &&& 31)) &&& 31) ^^^ 5 := ey.trans rfl
    rw [show (((a <<< ((1 : Int32) &&& 31)) &&& 31) ^^^ 5) = (ck5 a b) from (by unfold ck5; first | rw [if_neg c21] | rw [if_pos c21])]
    exact W.iret hx hb hr (fun t ht hW => ⟨rfl, hS.F ht⟩) hS.2.2 dX9_checkBit_33
  · refine lv_iload hx hb dX9_checkBit_24 (lv_at hl 0 rfl) ?_
    refine lv_goto (tgt := 33) hx hb dX9_checkBit_26 (by decide) ?_
    rw [show ((a <<< ((1 : Int32) &&& 31)) &&& 31) = (ck5 a b) from (by unfold ck5; first | rw [if_neg c21] | rw [if_pos c21])]
    exact W.iret hx hb hr (fun t ht hW => ⟨rfl, hS.F ht⟩) hS.2.2 dX9_checkBit_33


set_option maxRecDepth 100000 in
set_option maxHeartbeats 4000000 in
theorem fk_x (l : Launch) (D : va_G) (cy : Nat → ClassId) (hst : l.stackTraces = false) {ad τ : List Nat} {w : va_W} {x0 : Nat} {b : Int32} (ht : vi_tw vK cy (fun _ => True) ad τ w) (hno : ¬ (0 ≤ b.toInt ∧ b.toInt ≤ 2047)) (sz : Nat) : vx_Met l yX9_five (Cond.code yX9_five cX9_five 4 (some .int) :: vWall) { frames := 6, cells := 1, slots := 6 * 1, locals := 90 } (va_Pc [.ref x0, .int b] (vi_PX D cy w sz)) (fun _ st oc t => (∃ (v : Option Value) (w1 : va_W), oc = .returned v ∧ va_P D vwCl w1 t.heap ∧ vi_tw vK cy (fun _ => True) ad τ w1 ∧ vi_kept τ [] w w1 ∧ False) ∧ va_F (va_A w sz) st t) (vi_Xq D vK cy ad τ [] w sz ["java/lang/IllegalArgumentException"]) 1 (6 * 1) (va_A w sz) := by
  refine th_ofW (cc := cX9_five) (maxL := 4) (ret := (some .int)) (lv := [(0, .ref x0), (1, .int b)]) (by decide) rfl (Nat.le_of_ble_eq_true rfl) rfl ?_
  intro p e s m below meth c ls hx hb hr hml hown hlocks hout hts hpre hl
  obtain ⟨⟨⟨rfl, hP, hD⟩, hK, hN⟩, hT⟩ := hpre
  have hown : s.vm.findClass RX9 = some m.cls := hown
  have S : CallFix p m c cX9_five 4 s [Value.ref x0, .int b].toArray (Cond.code yX9_five cX9_five 4 (some .int) :: vWall) RX9 := ⟨hx, hb, hml, hown, hts⟩
  have hDs := hD.self (sz := s.heap.size)
  have hS : va_S (va_A w s.heap.size) s.heap s.heap [] := va_S.rf
  have e0 : (0 : Int32).toInt = 0 := rfl
  have e9 : (2047 : Int32).toInt = 2047 := rfl
  have hX1 : vi_Xr p l e { frames := 6, cells := 1, slots := 6 * 1, locals := 90 } s m [Value.ref x0, .int b].toArray below meth c (vx_MQ below (fun _ st oc t => (∃ (v : Option Value) (w1 : va_W), oc = .returned v ∧ va_P D vwCl w1 t.heap ∧ vi_tw vK cy (fun _ => True) ad τ w1 ∧ vi_kept τ [] w w1 ∧ False) ∧ va_F (va_A w s.heap.size) st t) (vi_Xq D vK cy ad τ [] w s.heap.size ["java/lang/IllegalArgumentException"]) [Value.ref x0, .int b].toArray s 1 (6 * 1) (va_A w s.heap.size)) vK 4 D cy (vi_kept τ [] w) ad τ (va_A w s.heap.size) s.heap 1 11 := vi_throwSW (WS := _ :: vWall) (text := "not eleven bits") (ik := 92) (is := 258) (ic := 96) (X := "java/lang/IllegalArgumentException") S.1 S.2.1 hst S.2.2.2.2 S.2.2.2.1 (by decide) (by decide) hT (by decide) (List.mem_cons_of_mem _ (vm_4 _ (List.mem_of_getElem? (i := 14) rfl))) (List.mem_cons_of_mem _ (vm_4 _ (List.mem_of_getElem? (i := 15) rfl))) (fun w h => List.mem_cons_of_mem _ (vmx_2 w h)) (by decide +kernel) (by decide +kernel) (by decide) S.2.2.1 (by decide +kernel) (by decide +kernel) (by decide +kernel) (by decide +kernel) (by decide +kernel) hout hlocks (Nat.le_of_ble_eq_true rfl) (Nat.le_of_ble_eq_true rfl) ⟨Nat.le_refl _, Nat.le_refl _⟩ (Nat.le_refl _) (fun _ h => h)
  refine lv_iload_n hx hb dX9_five_0 rfl (lv_at hl 1 rfl) ?_
  refine lv_iconst (v := 0) hx hb dX9_five_1 (by decide) ?_
  refine lv_sipush (v := 2047) hx hb dX9_five_2 (by decide) ?_
  refine ro_callS (A0 := va_A w s.heap.size) (H0 := s.heap) S (c_isWithin_f l D cy w b 0 2047 (by rcases Classical.em (b < 0) with h9 | h9; exact Or.inl h9; exact Or.inr (Int32.lt_iff_toInt_lt.mpr (by have := i_nlt h9; omega)))) (cwS 3 S.2.2.2.2 (vgS (vm_4 _ (List.mem_of_getElem? (i := 21) rfl)) (vm_4 _ (List.mem_of_getElem? (i := 22) rfl)) (vm_4 _ (List.mem_of_getElem? (i := 20) rfl)) (vm_4 _ (List.mem_of_getElem? (i := 12) rfl))) rfl rfl rfl ⟨rfl, by decide, by decide, by decide +kernel⟩ ⟨Nat.le_of_ble_eq_true rfl, Nat.le_of_ble_eq_true rfl⟩) hK hN hP hS rfl hl.1 rfl (Nat.le_of_ble_eq_true rfl) dX9_five_5 ⟨Nat.le_of_ble_eq_true rfl, Nat.le_of_ble_eq_true rfl⟩ (fun H locs hP hS => ?_)
  refine lv_if_ne (tgt := 22) hx hb dX9_five_8 (by decide) (fun h9 => absurd rfl h9) (fun _ => ?_)
  exact hX1 H locs 0 w ls [] hP hDs hS (vi_tw_Z ht vi_kept_rf) (Nat.le_refl _) (Nat.zero_le _) hl.1

set_option maxRecDepth 100000 in
set_option maxHeartbeats 4000000 in
theorem fk_ok (l : Launch) (D : va_G) (cy : Nat → ClassId) (hst : l.stackTraces = false) {ad τ : List Nat} {w : va_W} {x0 : Nat} {b : Int32} (ht : vi_tw vK cy (fun _ => True) ad τ w) (hok : 0 ≤ b.toInt ∧ b.toInt ≤ 2047) (sz : Nat) : vx_Met l yX9_five (Cond.code yX9_five cX9_five 4 (some .int) :: vWall) { frames := 6, cells := 1, slots := 6 * 1, locals := 90 } (va_Pc [.ref x0, .int b] (vi_PX D cy w sz)) (fun _ st oc t => (∃ (v : Option Value) (w1 : va_W), oc = .returned v ∧ va_P D vwCl w1 t.heap ∧ vi_tw vK cy (fun _ => True) ad τ w1 ∧ vi_kept τ [] w w1 ∧ v = some (.int (31 - ck5s b 11))) ∧ va_F (va_A w sz) st t) (vi_Xq D vK cy ad τ [] w sz []) 1 (6 * 1) (va_A w sz) := by
  refine th_ofW (cc := cX9_five) (maxL := 4) (ret := (some .int)) (lv := [(0, .ref x0), (1, .int b)]) (by decide) rfl (Nat.le_of_ble_eq_true rfl) rfl ?_
  intro p e s m below meth c ls hx hb hr hml hown hlocks hout hts hpre hl
  obtain ⟨⟨⟨rfl, hP, hD⟩, hK, hN⟩, hT⟩ := hpre
  have hown : s.vm.findClass RX9 = some m.cls := hown
  have S : CallFix p m c cX9_five 4 s [Value.ref x0, .int b].toArray (Cond.code yX9_five cX9_five 4 (some .int) :: vWall) RX9 := ⟨hx, hb, hml, hown, hts⟩
  have hDs := hD.self (sz := s.heap.size)
  have hS : va_S (va_A w s.heap.size) s.heap s.heap [] := va_S.rf
  have e0 : (0 : Int32).toInt = 0 := rfl
  have e9 : (2047 : Int32).toInt = 2047 := rfl
  refine lv_iload_n hx hb dX9_five_0 rfl (lv_at hl 1 rfl) ?_
  refine lv_iconst (v := 0) hx hb dX9_five_1 (by decide) ?_
  refine lv_sipush (v := 2047) hx hb dX9_five_2 (by decide) ?_
  refine ro_callS (A0 := va_A w s.heap.size) (H0 := s.heap) S (c_isWithin_t l D cy w b 0 2047 (fun h9 => by have := i_lt h9; omega) (fun h9 => by have := i_lt h9; omega)) (cwS 3 S.2.2.2.2 (vgS (vm_4 _ (List.mem_of_getElem? (i := 21) rfl)) (vm_4 _ (List.mem_of_getElem? (i := 22) rfl)) (vm_4 _ (List.mem_of_getElem? (i := 20) rfl)) (vm_4 _ (List.mem_of_getElem? (i := 12) rfl))) rfl rfl rfl ⟨rfl, by decide, by decide, by decide +kernel⟩ ⟨Nat.le_of_ble_eq_true rfl, Nat.le_of_ble_eq_true rfl⟩) hK hN hP hS rfl hl.1 rfl (Nat.le_of_ble_eq_true rfl) dX9_five_5 ⟨Nat.le_of_ble_eq_true rfl, Nat.le_of_ble_eq_true rfl⟩ (fun H locs hP hS => ?_)
  refine lv_if_ne (tgt := 22) hx hb dX9_five_8 (by decide) (fun _ => ?_) (fun h9 => absurd h9 (show ¬ (1 : Int32) = 0 from by decide))
  refine lv_bipush (v := 31) hx hb dX9_five_22 (by decide) ?_
  refine lv_istore_n (lv' := [(2, .int 31), (0, .ref x0), (1, .int b)]) hx hb dX9_five_24 rfl hl (by decide) rfl (fun ls hl => ?_)
  refine lv_iconst (v := 0) hx hb dX9_five_25 (by decide) ?_
  refine lv_istore_n (lv' := [(3, .int 0), (2, .int 31), (0, .ref x0), (1, .int b)]) hx hb dX9_five_26 rfl hl (by decide) rfl (fun ls hl => ?_)
  refine ro_loop (w := w) 11 0 (fun i => [(3, .int (nI i)), (2, .int (ck5s b i)), (0, .ref x0), (1, .int b)]) ?_ (by decide) hP hS (lv_sub hl [0, 1, 2, 3] rfl)
  intro i hi0 hi ih_i H locs ls hP hS hl
  refine lv_iload_n hx hb dX9_five_27 rfl (lv_at hl 0 rfl) ?_
  refine lv_bipush (v := 11) hx hb dX9_five_28 (by decide) ?_
  refine lv_icmp_ge (tgt := 51) hx hb dX9_five_30 (by decide) (fun c30 => ?_) (fun c30 => ?_)
  · obtain rfl : i = 11 := my_exit (N := 11) (by decide) (by decide) hi c30
    refine lv_bipush (v := 31) hx hb dX9_five_51 (by decide) ?_
    refine lv_iload_n hx hb dX9_five_53 rfl (lv_at hl 1 rfl) ?_
    refine lv_isub hx hb dX9_five_54 ?_
    refine lv_topi (fun y ey => ?_)
    obtain rfl : y = 31 - ck5s b 11 := ey.trans rfl
    refine W.widen (k := 1) (n := 6 * 1) (Nat.le_of_ble_eq_true rfl) (Nat.le_of_ble_eq_true rfl) ?_
    exact vx_ret (W.iret hx hb hr (fun t ht9 _ => ⟨⟨_, w, rfl, by rw [ht9]; exact hP, ht, vi_kept_rf, rfl⟩, hS.F ht9⟩) hS.2.2 dX9_five_55 hlocks)
  · have hi : i < 11 := my_cont (N := 11) (by decide) (by decide) hi c30
    refine lv_iload_n hx hb dX9_five_33 rfl (lv_at hl 1 rfl) ?_
    refine lv_iload_n hx hb dX9_five_34 rfl (lv_at hl 3 rfl) ?_
    refine lv_iload_n hx hb dX9_five_35 rfl (lv_at hl 0 rfl) ?_
    refine lv_ishr hx hb dX9_five_36 ?_
    refine lv_topi (fun y ey => ?_)
    obtain rfl : y = b >>> (nI i &&& 31) := ey.trans rfl
    refine lv_iconst (v := 1) hx hb dX9_five_37 (by decide) ?_
    refine lv_iand hx hb dX9_five_38 ?_
    refine lv_topi (fun y ey => ?_)
    obtain rfl : y = (b >>> (nI i &&& 31)) &&& 1 := ey.trans rfl
    refine lv_iconst (v := 4) hx hb dX9_five_39 (by decide) ?_
    refine lv_iconst (v := 5) hx hb dX9_five_40 (by decide) ?_
    refine ro_callS (As := [.int (ck5s b i), .int ((b >>> (nI i &&& 31)) &&& 1), .int 4, .int 5]) (rest := []) (A0 := va_A w s.heap.size) (H0 := s.heap) S (c_checkBit5 l D cy w (ck5s b i) ((b >>> (nI i &&& 31)) &&& 1)) (cwS 4 S.2.2.2.2 (vgS (vm_7 _ (List.mem_of_getElem? (i := 25) rfl)) (vm_7 _ (List.mem_of_getElem? (i := 26) rfl)) (vm_4 _ (List.mem_of_getElem? (i := 20) rfl)) (vm_7 _ (List.mem_of_getElem? (i := 23) rfl))) rfl rfl rfl ⟨rfl, by decide, by decide, by decide +kernel⟩ ⟨Nat.le_of_ble_eq_true rfl, Nat.le_of_ble_eq_true rfl⟩) hK hN hP hS rfl hl.1 rfl (Nat.le_of_ble_eq_true rfl) dX9_five_41 ⟨Nat.le_of_ble_eq_true rfl, Nat.le_of_ble_eq_true rfl⟩ (fun H locs hP hS => ?_)
    refine lv_istore_n (lv' := [(2, .int (ck5 (ck5s b i) ((b >>> (nI i &&& 31)) &&& 1))), (3, .int (nI i)), (0, .ref x0), (1, .int b)]) hx hb dX9_five_44 rfl hl (by decide) rfl (fun ls hl => ?_)
    refine lv_iinc (v := nI (i + 1)) (lv' := [(3, .int (nI (i + 1))), (2, .int (ck5 (ck5s b i) ((b >>> (nI i &&& 31)) &&& 1))), (0, .ref x0), (1, .int b)]) hx hb dX9_five_45 hl (k := 1) rfl (nI_1 _) (by decide) rfl (fun ls hl => ?_)
    refine lv_goto (tgt := 27) hx hb dX9_five_48 (by decide) ?_
    exact ih_i hi _ _ _ hP hS (lv_sub hl [0, 1, 2, 3] rfl)


theorem fv_eq (x : Int32) : ∀ k : Nat, m_fv x k = ck5s x k
  | 0 => rfl
  | k + 1 => by
    have h := fv_eq x k
    show m_chkv (m_fv x k) ((x >>> ((Int32.ofNat k) &&& 31)) &&& 1) 5 5 = ck5 (ck5s x k) ((x >>> (nI k &&& 31)) &&& 1)
    rw [h]
    unfold m_chkv ck5 nI
    have e1 : ((5 : Int32) - 1) = 4 := by decide
    have e2 : ((((1 : Int32) <<< ((5 : Int32) &&& 31))) - 1) = 31 := by decide
    rw [e1, e2]
end VFV
