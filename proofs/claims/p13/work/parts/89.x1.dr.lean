section VDR
/-! the class's driver, exactly -/
theorem dX9_driver_0 : decode cX9_driver 0 = .ok (.iload_n 1, 1) := by decide +kernel
theorem dX9_driver_1 : decode cX9_driver 1 = .ok (.iconst 0, 1) := by decide +kernel
theorem dX9_driver_2 : decode cX9_driver 2 = .ok (.bipush 9, 2) := by decide +kernel
theorem dX9_driver_4 : decode cX9_driver 4 = .ok (.invokestatic 88, 3) := by decide +kernel
theorem dX9_driver_7 : decode cX9_driver 7 = .ok (.ifCond .eq 13, 3) := by decide +kernel
theorem dX9_driver_10 : decode cX9_driver 10 = .ok (.iload_n 2, 1) := by decide +kernel
theorem dX9_driver_11 : decode cX9_driver 11 = .ok (.iconst (-1), 1) := by decide +kernel
theorem dX9_driver_12 : decode cX9_driver 12 = .ok (.bipush 9, 2) := by decide +kernel
theorem dX9_driver_14 : decode cX9_driver 14 = .ok (.invokestatic 88, 3) := by decide +kernel
theorem dX9_driver_17 : decode cX9_driver 17 = .ok (.ifCond .ne 13, 3) := by decide +kernel
theorem dX9_driver_23 : decode cX9_driver 23 = .ok (.dup, 1) := by decide +kernel
theorem dX9_driver_30 : decode cX9_driver 30 = .ok (.aload_n 0, 1) := by decide +kernel
theorem dX9_driver_31 : decode cX9_driver 31 = .ok (.getfield 231, 3) := by decide +kernel
theorem dX9_driver_34 : decode cX9_driver 34 = .ok (.bipush 8, 2) := by decide +kernel
theorem dX9_driver_36 : decode cX9_driver 36 = .ok (.if_icmp .lt 13, 3) := by decide +kernel
theorem dX9_driver_42 : decode cX9_driver 42 = .ok (.dup, 1) := by decide +kernel
theorem dX9_driver_49 : decode cX9_driver 49 = .ok (.aload_n 0, 1) := by decide +kernel
theorem dX9_driver_50 : decode cX9_driver 50 = .ok (.getfield 15, 3) := by decide +kernel
theorem dX9_driver_53 : decode cX9_driver 53 = .ok (.aload_n 0, 1) := by decide +kernel
theorem dX9_driver_54 : decode cX9_driver 54 = .ok (.getfield 231, 3) := by decide +kernel
theorem dX9_driver_57 : decode cX9_driver 57 = .ok (.iload_n 1, 1) := by decide +kernel
theorem dX9_driver_58 : decode cX9_driver 58 = .ok (.iastore, 1) := by decide +kernel
theorem dX9_driver_59 : decode cX9_driver 59 = .ok (.aload_n 0, 1) := by decide +kernel
theorem dX9_driver_60 : decode cX9_driver 60 = .ok (.getfield 19, 3) := by decide +kernel
theorem dX9_driver_63 : decode cX9_driver 63 = .ok (.aload_n 0, 1) := by decide +kernel
theorem dX9_driver_64 : decode cX9_driver 64 = .ok (.getfield 231, 3) := by decide +kernel
theorem dX9_driver_67 : decode cX9_driver 67 = .ok (.iload_n 2, 1) := by decide +kernel
theorem dX9_driver_68 : decode cX9_driver 68 = .ok (.iastore, 1) := by decide +kernel
theorem dX9_driver_69 : decode cX9_driver 69 = .ok (.aload_n 0, 1) := by decide +kernel
theorem dX9_driver_70 : decode cX9_driver 70 = .ok (.dup, 1) := by decide +kernel
theorem dX9_driver_71 : decode cX9_driver 71 = .ok (.getfield 231, 3) := by decide +kernel
theorem dX9_driver_74 : decode cX9_driver 74 = .ok (.iconst 1, 1) := by decide +kernel
theorem dX9_driver_75 : decode cX9_driver 75 = .ok (.iadd, 1) := by decide +kernel
theorem dX9_driver_76 : decode cX9_driver 76 = .ok (.putfield 231, 3) := by decide +kernel
theorem dX9_driver_79 : decode cX9_driver 79 = .ok (.aload_n 0, 1) := by decide +kernel
theorem dX9_driver_80 : decode cX9_driver 80 = .ok (.getfield 231, 3) := by decide +kernel
theorem dX9_driver_83 : decode cX9_driver 83 = .ok (.iconst 1, 1) := by decide +kernel
theorem dX9_driver_84 : decode cX9_driver 84 = .ok (.isub, 1) := by decide +kernel
theorem dX9_driver_85 : decode cX9_driver 85 = .ok (.ireturn, 1) := by decide +kernel
/-- a row of eight ints is written -/
theorem vi_arr8 {cy : Nat → ClassId} {ad τ : List Nat} {w w0 : va_W} {M : List (Nat × Nat × Nat)} {q b : Nat} (ht : vi_tw vK cy (vi_kept τ M w0) ad τ w) (hq : τ[q]? = some 12) (hb : ad[q]? = some b) : ∃ f : Nat → Int32, w[q]? = some (b, .inl (cy 0, 8, .inl f)) ∧ ∀ g : Nat → Int32, vi_tw vK cy (vi_kept τ M w0) ad τ (w.set q (b, .inl (cy 0, 8, .inl g))) := by
  obtain ⟨e, k, h1, h2, h3⟩ := vi_tw_get ht hq hb
  cases (Option.some.inj h2)
  obtain ⟨f, e1, -⟩ := h3
  have e1 : e = .inl (cy 0, 8, .inl f) := e1
  subst e1
  refine ⟨f, h1, fun g => vi_tw_set (k := (1, 0, 8, [av_6])) ht hq h1 rfl ⟨g, rfl, fun a h => by cases h; exact ⟨rfl, fun j _ => ⟨by have := Int32.le_toInt (g j); show (-2147483648 : Int) ≤ _; omega, by have := Int32.toInt_lt (g j); show _ ≤ (2147483647 : Int); omega⟩⟩⟩ (vi_kept_Za w q b (cy 0) 8 f g h1 ht.2.2.2)⟩
set_option maxRecDepth 100000 in
set_option maxHeartbeats 4000000 in
theorem dk_ia (l : Launch) (D : va_G) (cy : Nat → ClassId) (hst : l.stackTraces = false) {ad τ : List Nat} {w : va_W} {x0 : Nat} {a b : Int32} (ht : vi_tw vK cy (fun _ => True) ad τ w) (hno : ¬ ((0 ≤ a.toInt ∧ a.toInt ≤ 9) ∧ (-1 ≤ b.toInt ∧ b.toInt ≤ 9))) (sz : Nat) : vx_Met l yX9_driver (Cond.code yX9_driver cX9_driver 3 (some .int) :: vWall) { frames := 6, cells := 1, slots := 6 * 1, locals := 90 } (va_Pc [.ref x0, .int a, .int b] (vi_PX D cy w sz)) (fun _ st oc t => (∃ (v : Option Value) (w1 : va_W), oc = .returned v ∧ va_P D vwCl w1 t.heap ∧ vi_tw vK cy (fun _ => True) ad τ w1 ∧ vi_kept τ [] w w1 ∧ False) ∧ va_F (va_A w sz) st t) (vi_Xq D vK cy ad τ [] w sz ["java/lang/IllegalArgumentException"]) 1 (6 * 1) (va_A w sz) := by
  refine th_ofW (cc := cX9_driver) (maxL := 3) (ret := (some .int)) (lv := [(0, .ref x0), (1, .int a), (2, .int b)]) (by decide) rfl (Nat.le_of_ble_eq_true rfl) rfl ?_
  intro p e s m below meth c ls hx hb hr hml hown hlocks hout hts hpre hl
  obtain ⟨⟨⟨rfl, hP, hD⟩, hK, hN⟩, hT⟩ := hpre
  have hown : s.vm.findClass RX9 = some m.cls := hown
  have S : CallFix p m c cX9_driver 3 s [Value.ref x0, .int a, .int b].toArray (Cond.code yX9_driver cX9_driver 3 (some .int) :: vWall) RX9 := ⟨hx, hb, hml, hown, hts⟩
  have hDs := hD.self (sz := s.heap.size)
  have hS : va_S (va_A w s.heap.size) s.heap s.heap [] := va_S.rf
  have e0 : (0 : Int32).toInt = 0 := rfl
  have e1 : (-1 : Int32).toInt = -1 := rfl
  have e9 : (9 : Int32).toInt = 9 := rfl
  have e8 : (8 : Int32).toInt = 8 := rfl
  have hX1 : vi_Xr p l e { frames := 6, cells := 1, slots := 6 * 1, locals := 90 } s m [Value.ref x0, .int a, .int b].toArray below meth c (vx_MQ below (fun _ st oc t => (∃ (v : Option Value) (w1 : va_W), oc = .returned v ∧ va_P D vwCl w1 t.heap ∧ vi_tw vK cy (fun _ => True) ad τ w1 ∧ vi_kept τ [] w w1 ∧ False) ∧ va_F (va_A w s.heap.size) st t) (vi_Xq D vK cy ad τ [] w s.heap.size ["java/lang/IllegalArgumentException"]) [Value.ref x0, .int a, .int b].toArray s 1 (6 * 1) (va_A w s.heap.size)) vK 3 D cy (vi_kept τ [] w) ad τ (va_A w s.heap.size) s.heap 1 20 := vi_throwS (WS := _ :: vWall) (text := "no such class or subclass") (ik := 92) (is := 229) (ic := 96) (X := "java/lang/IllegalArgumentException") S.1 S.2.1 hst S.2.2.2.2 S.2.2.2.1 (by decide) (by decide) hT (by decide) (List.mem_cons_of_mem _ (vm_4 _ (List.mem_of_getElem? (i := 14) rfl))) (List.mem_cons_of_mem _ (vm_4 _ (List.mem_of_getElem? (i := 15) rfl))) (fun w h => List.mem_cons_of_mem _ (vmx_2 w h)) (by decide +kernel) (by decide +kernel) (by decide) S.2.2.1 (by decide +kernel) (by decide +kernel) (by decide +kernel) (by decide +kernel) (by decide +kernel) hout hlocks (Nat.le_of_ble_eq_true rfl) (Nat.le_of_ble_eq_true rfl) ⟨Nat.le_refl _, Nat.le_refl _⟩ (Nat.le_refl _) (fun _ h => h)
  refine lv_iload_n hx hb dX9_driver_0 rfl (lv_at hl 1 rfl) ?_
  refine lv_iconst (v := 0) hx hb dX9_driver_1 (by decide) ?_
  refine lv_bipush (v := 9) hx hb dX9_driver_2 (by decide) ?_
  by_cases s1 : 0 ≤ a.toInt ∧ a.toInt ≤ 9
  · skip
    refine ro_callS (A0 := va_A w s.heap.size) (H0 := s.heap) S (c_isWithin_t l D cy w a 0 9 (fun h9 => by have := i_lt h9; omega) (fun h9 => by have := i_lt h9; omega)) (cwS 3 S.2.2.2.2 (vgS (vm_4 _ (List.mem_of_getElem? (i := 21) rfl)) (vm_4 _ (List.mem_of_getElem? (i := 22) rfl)) (vm_4 _ (List.mem_of_getElem? (i := 20) rfl)) (vm_4 _ (List.mem_of_getElem? (i := 12) rfl))) rfl rfl rfl ⟨rfl, by decide, by decide, by decide +kernel⟩ ⟨Nat.le_of_ble_eq_true rfl, Nat.le_of_ble_eq_true rfl⟩) hK hN hP hS rfl hl.1 rfl (Nat.le_of_ble_eq_true rfl) dX9_driver_4 ⟨Nat.le_of_ble_eq_true rfl, Nat.le_of_ble_eq_true rfl⟩ (fun H locs hP hS => ?_)
    refine lv_if_eq (tgt := 20) hx hb dX9_driver_7 (by decide) (fun h9 => absurd h9 (by decide)) (fun _ => ?_)
    refine lv_iload_n hx hb dX9_driver_10 rfl (lv_at hl 2 rfl) ?_
    refine lv_iconst (v := (-1)) hx hb dX9_driver_11 (by decide) ?_
    refine lv_bipush (v := 9) hx hb dX9_driver_12 (by decide) ?_
    have s2 : ¬ (-1 ≤ b.toInt ∧ b.toInt ≤ 9) := fun z => hno ⟨s1, z⟩
    refine ro_callS (A0 := va_A w s.heap.size) (H0 := s.heap) S (c_isWithin_f l D cy w b (-1) 9 (by rcases Classical.em (b < (-1)) with h9 | h9; exact Or.inl h9; exact Or.inr (Int32.lt_iff_toInt_lt.mpr (by have := i_nlt h9; omega)))) (cwS 3 S.2.2.2.2 (vgS (vm_4 _ (List.mem_of_getElem? (i := 21) rfl)) (vm_4 _ (List.mem_of_getElem? (i := 22) rfl)) (vm_4 _ (List.mem_of_getElem? (i := 20) rfl)) (vm_4 _ (List.mem_of_getElem? (i := 12) rfl))) rfl rfl rfl ⟨rfl, by decide, by decide, by decide +kernel⟩ ⟨Nat.le_of_ble_eq_true rfl, Nat.le_of_ble_eq_true rfl⟩) hK hN hP hS rfl hl.1 rfl (Nat.le_of_ble_eq_true rfl) dX9_driver_14 ⟨Nat.le_of_ble_eq_true rfl, Nat.le_of_ble_eq_true rfl⟩ (fun H locs hP hS => ?_)
    refine lv_if_ne (tgt := 30) hx hb dX9_driver_17 (by decide) (fun h9 => absurd rfl h9) (fun _ => ?_)
    exact hX1 H locs 0 w ls [] hP hDs hS (vi_tw_Z ht vi_kept_rf) (Nat.le_refl _) (Nat.zero_le _) hl.1
  · skip
    refine ro_callS (A0 := va_A w s.heap.size) (H0 := s.heap) S (c_isWithin_f l D cy w a 0 9 (by rcases Classical.em (a < 0) with h9 | h9; exact Or.inl h9; exact Or.inr (Int32.lt_iff_toInt_lt.mpr (by have := i_nlt h9; omega)))) (cwS 3 S.2.2.2.2 (vgS (vm_4 _ (List.mem_of_getElem? (i := 21) rfl)) (vm_4 _ (List.mem_of_getElem? (i := 22) rfl)) (vm_4 _ (List.mem_of_getElem? (i := 20) rfl)) (vm_4 _ (List.mem_of_getElem? (i := 12) rfl))) rfl rfl rfl ⟨rfl, by decide, by decide, by decide +kernel⟩ ⟨Nat.le_of_ble_eq_true rfl, Nat.le_of_ble_eq_true rfl⟩) hK hN hP hS rfl hl.1 rfl (Nat.le_of_ble_eq_true rfl) dX9_driver_4 ⟨Nat.le_of_ble_eq_true rfl, Nat.le_of_ble_eq_true rfl⟩ (fun H locs hP hS => ?_)
    refine lv_if_eq (tgt := 20) hx hb dX9_driver_7 (by decide) (fun _ => ?_) (fun h9 => absurd rfl h9)
    exact hX1 H locs 0 w ls [] hP hDs hS (vi_tw_Z ht vi_kept_rf) (Nat.le_refl _) (Nat.zero_le _) hl.1

set_option maxRecDepth 100000 in
set_option maxHeartbeats 4000000 in
theorem dk_is (l : Launch) (D : va_G) (cy : Nat → ClassId) (hst : l.stackTraces = false) {ad τ : List Nat} {w : va_W} {x0 q0 : Nat} {vs : List Value} {dc : Int32} {a b : Int32} (ht : vi_tw vK cy (fun _ => True) ad τ w) (hw0 : w[q0]? = some (x0, .inr (14, vs))) (hv4 : vs[4]? = some (.int dc)) (hok : (0 ≤ a.toInt ∧ a.toInt ≤ 9) ∧ (-1 ≤ b.toInt ∧ b.toInt ≤ 9)) (hd : dc = 8) (sz : Nat) : vx_Met l yX9_driver (Cond.code yX9_driver cX9_driver 3 (some .int) :: vWall) { frames := 6, cells := 1, slots := 6 * 1, locals := 90 } (va_Pc [.ref x0, .int a, .int b] (vi_PX D cy w sz)) (fun _ st oc t => (∃ (v : Option Value) (w1 : va_W), oc = .returned v ∧ va_P D vwCl w1 t.heap ∧ vi_tw vK cy (fun _ => True) ad τ w1 ∧ vi_kept τ [] w w1 ∧ False) ∧ va_F (va_A w sz) st t) (vi_Xq D vK cy ad τ [] w sz ["java/lang/IllegalStateException"]) 1 (6 * 1) (va_A w sz) := by
  refine th_ofW (cc := cX9_driver) (maxL := 3) (ret := (some .int)) (lv := [(0, .ref x0), (1, .int a), (2, .int b)]) (by decide) rfl (Nat.le_of_ble_eq_true rfl) rfl ?_
  intro p e s m below meth c ls hx hb hr hml hown hlocks hout hts hpre hl
  obtain ⟨⟨⟨rfl, hP, hD⟩, hK, hN⟩, hT⟩ := hpre
  have hown : s.vm.findClass RX9 = some m.cls := hown
  have S : CallFix p m c cX9_driver 3 s [Value.ref x0, .int a, .int b].toArray (Cond.code yX9_driver cX9_driver 3 (some .int) :: vWall) RX9 := ⟨hx, hb, hml, hown, hts⟩
  have hDs := hD.self (sz := s.heap.size)
  have hS : va_S (va_A w s.heap.size) s.heap s.heap [] := va_S.rf
  have e0 : (0 : Int32).toInt = 0 := rfl
  have e1 : (-1 : Int32).toInt = -1 := rfl
  have e9 : (9 : Int32).toInt = 9 := rfl
  have e8 : (8 : Int32).toInt = 8 := rfl
  have hX3 : vi_Xr p l e { frames := 6, cells := 1, slots := 6 * 1, locals := 90 } s m [Value.ref x0, .int a, .int b].toArray below meth c (vx_MQ below (fun _ st oc t => (∃ (v : Option Value) (w1 : va_W), oc = .returned v ∧ va_P D vwCl w1 t.heap ∧ vi_tw vK cy (fun _ => True) ad τ w1 ∧ vi_kept τ [] w w1 ∧ False) ∧ va_F (va_A w s.heap.size) st t) (vi_Xq D vK cy ad τ [] w s.heap.size ["java/lang/IllegalStateException"]) [Value.ref x0, .int a, .int b].toArray s 1 (6 * 1) (va_A w s.heap.size)) vK 3 D cy (vi_kept τ [] w) ad τ (va_A w s.heap.size) s.heap 1 39 := vi_throwS (WS := _ :: vWall) (text := "there are 8 drivers") (ik := 101) (is := 234) (ic := 105) (X := "java/lang/IllegalStateException") S.1 S.2.1 hst S.2.2.2.2 S.2.2.2.1 (by decide) (by decide) hT (by decide) (List.mem_cons_of_mem _ (vm_4 _ (List.mem_of_getElem? (i := 16) rfl))) (List.mem_cons_of_mem _ (vm_4 _ (List.mem_of_getElem? (i := 17) rfl))) (fun w h => List.mem_cons_of_mem _ (vmx_3 w h)) (by decide +kernel) (by decide +kernel) (by decide) S.2.2.1 (by decide +kernel) (by decide +kernel) (by decide +kernel) (by decide +kernel) (by decide +kernel) hout hlocks (Nat.le_of_ble_eq_true rfl) (Nat.le_of_ble_eq_true rfl) ⟨Nat.le_refl _, Nat.le_refl _⟩ (Nat.le_refl _) (fun _ h => h)
  refine lv_iload_n hx hb dX9_driver_0 rfl (lv_at hl 1 rfl) ?_
  refine lv_iconst (v := 0) hx hb dX9_driver_1 (by decide) ?_
  refine lv_bipush (v := 9) hx hb dX9_driver_2 (by decide) ?_
  obtain ⟨s1, s2⟩ := hok
  refine ro_callS (A0 := va_A w s.heap.size) (H0 := s.heap) S (c_isWithin_t l D cy w a 0 9 (fun h9 => by have := i_lt h9; omega) (fun h9 => by have := i_lt h9; omega)) (cwS 3 S.2.2.2.2 (vgS (vm_4 _ (List.mem_of_getElem? (i := 21) rfl)) (vm_4 _ (List.mem_of_getElem? (i := 22) rfl)) (vm_4 _ (List.mem_of_getElem? (i := 20) rfl)) (vm_4 _ (List.mem_of_getElem? (i := 12) rfl))) rfl rfl rfl ⟨rfl, by decide, by decide, by decide +kernel⟩ ⟨Nat.le_of_ble_eq_true rfl, Nat.le_of_ble_eq_true rfl⟩) hK hN hP hS rfl hl.1 rfl (Nat.le_of_ble_eq_true rfl) dX9_driver_4 ⟨Nat.le_of_ble_eq_true rfl, Nat.le_of_ble_eq_true rfl⟩ (fun H locs hP hS => ?_)
  refine lv_if_eq (tgt := 20) hx hb dX9_driver_7 (by decide) (fun h9 => absurd h9 (by decide)) (fun _ => ?_)
  refine lv_iload_n hx hb dX9_driver_10 rfl (lv_at hl 2 rfl) ?_
  refine lv_iconst (v := (-1)) hx hb dX9_driver_11 (by decide) ?_
  refine lv_bipush (v := 9) hx hb dX9_driver_12 (by decide) ?_
  refine ro_callS (A0 := va_A w s.heap.size) (H0 := s.heap) S (c_isWithin_t l D cy w b (-1) 9 (fun h9 => by have := i_lt h9; omega) (fun h9 => by have := i_lt h9; omega)) (cwS 3 S.2.2.2.2 (vgS (vm_4 _ (List.mem_of_getElem? (i := 21) rfl)) (vm_4 _ (List.mem_of_getElem? (i := 22) rfl)) (vm_4 _ (List.mem_of_getElem? (i := 20) rfl)) (vm_4 _ (List.mem_of_getElem? (i := 12) rfl))) rfl rfl rfl ⟨rfl, by decide, by decide, by decide +kernel⟩ ⟨Nat.le_of_ble_eq_true rfl, Nat.le_of_ble_eq_true rfl⟩) hK hN hP hS rfl hl.1 rfl (Nat.le_of_ble_eq_true rfl) dX9_driver_14 ⟨Nat.le_of_ble_eq_true rfl, Nat.le_of_ble_eq_true rfl⟩ (fun H locs hP hS => ?_)
  refine lv_if_ne (tgt := 30) hx hb dX9_driver_17 (by decide) (fun _ => ?_) (fun h9 => absurd h9 (show ¬ (1 : Int32) = 0 from by decide))
  refine lv_aload_n hx hb dX9_driver_30 rfl (lv_at hl 0 rfl) ?_
  refine vfg_X9 S hK hN 231 14 4 (by decide) H locs 0 0 w q0 x0 31 vs [] _ ls hP hw0 hv4 dX9_driver_31 ?_
  refine lv_bipush (v := 8) hx hb dX9_driver_34 (by decide) ?_
  refine lv_icmp_lt (tgt := 49) hx hb dX9_driver_36 (by decide) (fun h9 => absurd (hd ▸ h9) (by decide)) (fun _ => ?_)
  exact hX3 H locs 0 w ls [] hP hDs hS (vi_tw_Z ht vi_kept_rf) (Nat.le_refl _) (Nat.zero_le _) hl.1

set_option maxRecDepth 100000 in
set_option maxHeartbeats 4000000 in
theorem dk_ok (l : Launch) (D : va_G) (cy : Nat → ClassId) (hst : l.stackTraces = false) {ad τ : List Nat} {w : va_W} {x0 q0 : Nat} {vs : List Value} {dc : Int32} {a b : Int32} (ht : vi_tw vK cy (fun _ => True) ad τ w) (hr0 : τ[q0]? = some 0) (hw0 : w[q0]? = some (x0, .inr (14, vs))) (hv4 : vs[4]? = some (.int dc)) (hok : (0 ≤ a.toInt ∧ a.toInt ≤ 9) ∧ (-1 ≤ b.toInt ∧ b.toInt ≤ 9)) (hd0 : 0 ≤ dc.toInt) (hd8 : dc.toInt < 8) (sz : Nat) : vx_Met l yX9_driver (Cond.code yX9_driver cX9_driver 3 (some .int) :: vWall) { frames := 6, cells := 1, slots := 6 * 1, locals := 90 } (va_Pc [.ref x0, .int a, .int b] (vi_PX D cy w sz)) (fun _ st oc t => (∃ (v : Option Value) (w1 : va_W), oc = .returned v ∧ va_P D vwCl w1 t.heap ∧ vi_tw vK cy (fun _ => True) ad τ w1 ∧ vi_kept τ [(14, 4, 0)] w w1 ∧ (v = some (.int dc) ∧ w1[q0]? = some (x0, .inr (14, vs.set 4 (.int (dc + 1)))))) ∧ va_F (va_A w sz) st t) (vi_Xq D vK cy ad τ [(14, 4, 0)] w sz []) 1 (6 * 1) (va_A w sz) := by
  refine th_ofW (cc := cX9_driver) (maxL := 3) (ret := (some .int)) (lv := [(0, .ref x0), (1, .int a), (2, .int b)]) (by decide) rfl (Nat.le_of_ble_eq_true rfl) rfl ?_
  intro p e s m below meth c ls hx hb hr hml hown hlocks hout hts hpre hl
  obtain ⟨⟨⟨rfl, hP, hD⟩, hK, hN⟩, hT⟩ := hpre
  have hown : s.vm.findClass RX9 = some m.cls := hown
  have S : CallFix p m c cX9_driver 3 s [Value.ref x0, .int a, .int b].toArray (Cond.code yX9_driver cX9_driver 3 (some .int) :: vWall) RX9 := ⟨hx, hb, hml, hown, hts⟩
  have hDs := hD.self (sz := s.heap.size)
  have hS : va_S (va_A w s.heap.size) s.heap s.heap [] := va_S.rf
  have e0 : (0 : Int32).toInt = 0 := rfl
  have e1 : (-1 : Int32).toInt = -1 := rfl
  have e9 : (9 : Int32).toInt = 9 := rfl
  have e8 : (8 : Int32).toInt = 8 := rfl
  have hadr : ad[q0]? = some x0 := by rw [← ht.1, List.getElem?_map, hw0]; rfl
  obtain ⟨ee, kk, g1, g2, g3⟩ := vi_tw_get ht hr0 hadr
  cases (Option.some.inj g2)
  obtain ⟨vs9, ev, l9, ok9⟩ := g3
  have e10 := Option.some.inj (g1.symm.trans hw0)
  injection e10 with e11 e12
  rw [ev] at e12
  injection e12 with e13
  have e14 : vs = vs9 := (Prod.mk.inj e13).2.symm
  subst e14
  have hlen : vs.length = 13 := l9
  have h2 : vs[2]? = some vs[2] := List.getElem?_eq_getElem (by omega)
  obtain ⟨q1, b1, es1, t1, a1⟩ := vi_nn (a := (3, 12, 0)) rfl rfl (ok9 2 (3, 12, 0) _ rfl h2)
  rw [es1] at h2
  have h3 : vs[3]? = some vs[3] := List.getElem?_eq_getElem (by omega)
  obtain ⟨q2, b2, es2, t2, a2⟩ := vi_nn (a := (3, 12, 0)) rfl rfl (ok9 3 (3, 12, 0) _ rfl h3)
  rw [es2] at h3
  have ht0 : vi_tw vK cy (vi_kept τ [(14, 4, 0)] w) ad τ w := vi_tw_Z ht vi_kept_rf
  obtain ⟨f1, c1, st1⟩ := vi_arr8 ht0 t1 a1
  have n1 : q1 ≠ q0 := fun z => by
    rw [z, hw0] at c1
    exact absurd c1 (by simp)
  refine lv_iload_n hx hb dX9_driver_0 rfl (lv_at hl 1 rfl) ?_
  refine lv_iconst (v := 0) hx hb dX9_driver_1 (by decide) ?_
  refine lv_bipush (v := 9) hx hb dX9_driver_2 (by decide) ?_
  obtain ⟨s1, s2⟩ := hok
  refine ro_callS (A0 := va_A w s.heap.size) (H0 := s.heap) S (c_isWithin_t l D cy w a 0 9 (fun h9 => by have := i_lt h9; omega) (fun h9 => by have := i_lt h9; omega)) (cwS 3 S.2.2.2.2 (vgS (vm_4 _ (List.mem_of_getElem? (i := 21) rfl)) (vm_4 _ (List.mem_of_getElem? (i := 22) rfl)) (vm_4 _ (List.mem_of_getElem? (i := 20) rfl)) (vm_4 _ (List.mem_of_getElem? (i := 12) rfl))) rfl rfl rfl ⟨rfl, by decide, by decide, by decide +kernel⟩ ⟨Nat.le_of_ble_eq_true rfl, Nat.le_of_ble_eq_true rfl⟩) hK hN hP hS rfl hl.1 rfl (Nat.le_of_ble_eq_true rfl) dX9_driver_4 ⟨Nat.le_of_ble_eq_true rfl, Nat.le_of_ble_eq_true rfl⟩ (fun H locs hP hS => ?_)
  refine lv_if_eq (tgt := 20) hx hb dX9_driver_7 (by decide) (fun h9 => absurd h9 (by decide)) (fun _ => ?_)
  refine lv_iload_n hx hb dX9_driver_10 rfl (lv_at hl 2 rfl) ?_
  refine lv_iconst (v := (-1)) hx hb dX9_driver_11 (by decide) ?_
  refine lv_bipush (v := 9) hx hb dX9_driver_12 (by decide) ?_
  refine ro_callS (A0 := va_A w s.heap.size) (H0 := s.heap) S (c_isWithin_t l D cy w b (-1) 9 (fun h9 => by have := i_lt h9; omega) (fun h9 => by have := i_lt h9; omega)) (cwS 3 S.2.2.2.2 (vgS (vm_4 _ (List.mem_of_getElem? (i := 21) rfl)) (vm_4 _ (List.mem_of_getElem? (i := 22) rfl)) (vm_4 _ (List.mem_of_getElem? (i := 20) rfl)) (vm_4 _ (List.mem_of_getElem? (i := 12) rfl))) rfl rfl rfl ⟨rfl, by decide, by decide, by decide +kernel⟩ ⟨Nat.le_of_ble_eq_true rfl, Nat.le_of_ble_eq_true rfl⟩) hK hN hP hS rfl hl.1 rfl (Nat.le_of_ble_eq_true rfl) dX9_driver_14 ⟨Nat.le_of_ble_eq_true rfl, Nat.le_of_ble_eq_true rfl⟩ (fun H locs hP hS => ?_)
  refine lv_if_ne (tgt := 30) hx hb dX9_driver_17 (by decide) (fun _ => ?_) (fun h9 => absurd h9 (show ¬ (1 : Int32) = 0 from by decide))
  refine lv_aload_n hx hb dX9_driver_30 rfl (lv_at hl 0 rfl) ?_
  refine vfg_X9 S hK hN 231 14 4 (by decide) H locs 0 0 w q0 x0 31 vs [] _ ls hP hw0 hv4 dX9_driver_31 ?_
  refine lv_bipush (v := 8) hx hb dX9_driver_34 (by decide) ?_
  refine lv_icmp_lt (tgt := 49) hx hb dX9_driver_36 (by decide) (fun _ => ?_) (fun h9 => absurd (Int32.lt_iff_toInt_lt.mpr (by rw [e8]; exact hd8)) h9)
  refine lv_aload_n hx hb dX9_driver_49 rfl (lv_at hl 0 rfl) ?_
  refine vfg_X9 S hK hN 15 14 2 (by decide) H locs 0 0 w q0 x0 50 vs [] _ ls hP hw0 h2 dX9_driver_50 ?_
  refine lv_aload_n hx hb dX9_driver_53 rfl (lv_at hl 0 rfl) ?_
  refine vfg_X9 S hK hN 231 14 4 (by decide) H locs 0 0 w q0 x0 54 vs [.ref b1] _ ls hP hw0 hv4 dX9_driver_54 ?_
  refine lv_iload_n hx hb dX9_driver_57 rfl (lv_at hl 1 rfl) ?_
  refine va_iast hx hb hK hP hDs hS q1 0 c1 rfl (sg_vpin (by omega) (show dc.toInt < ((8 : Nat) : Int) by omega) (by decide)).1 dX9_driver_58 (fun H locs hP hD1 hS => ?_)
  have ht1 := st1 (upd f1 dc.toNatClampNeg a)
  have hw1 : (w.set q1 (b1, .inl (cy 0, 8, .inl (upd f1 dc.toNatClampNeg a))))[q0]? = some (x0, .inr (14, vs)) := by
    rw [List.getElem?_set_ne n1]
    exact hw0
  generalize w.set q1 (b1, .inl (cy 0, 8, .inl (upd f1 dc.toNatClampNeg a))) = w1 at hP hD1 ht1 hw1
  obtain ⟨f2, c2, st2⟩ := vi_arr8 ht1 t2 a2
  have n2 : q2 ≠ q0 := fun z => by
    rw [z, hw1] at c2
    exact absurd c2 (by simp)
  refine lv_aload_n hx hb dX9_driver_59 rfl (lv_at hl 0 rfl) ?_
  refine vfg_X9 S hK hN 19 14 3 (by decide) H locs 0 0 w1 q0 x0 60 vs [] _ ls hP hw1 h3 dX9_driver_60 ?_
  refine lv_aload_n hx hb dX9_driver_63 rfl (lv_at hl 0 rfl) ?_
  refine vfg_X9 S hK hN 231 14 4 (by decide) H locs 0 0 w1 q0 x0 64 vs [.ref b2] _ ls hP hw1 hv4 dX9_driver_64 ?_
  refine lv_iload_n hx hb dX9_driver_67 rfl (lv_at hl 2 rfl) ?_
  refine va_iast hx hb hK hP hD1 hS q2 0 c2 rfl (sg_vpin (by omega) (show dc.toInt < ((8 : Nat) : Int) by omega) (by decide)).1 dX9_driver_68 (fun H locs hP hD2 hS => ?_)
  have ht2 := st2 (upd f2 dc.toNatClampNeg b)
  have hw2 : (w1.set q2 (b2, .inl (cy 0, 8, .inl (upd f2 dc.toNatClampNeg b))))[q0]? = some (x0, .inr (14, vs)) := by
    rw [List.getElem?_set_ne n2]
    exact hw1
  generalize w1.set q2 (b2, .inl (cy 0, 8, .inl (upd f2 dc.toNatClampNeg b))) = w2 at hP hD2 ht2 hw2
  obtain ⟨ht3, hw3, hk3⟩ := vi_put (v := .int (dc + 1)) ht2 hr0 hw2 rfl (k := 4) rfl (b := (1, 0, 8)) ⟨dc + 1, rfl, by rw [m_add1 (by omega) (by omega)]; show (0 : Int) ≤ _; omega, by rw [m_add1 (by omega) (by omega)]; show _ ≤ (8 : Int); omega⟩ (by decide)
  refine lv_aload_n hx hb dX9_driver_69 rfl (lv_at hl 0 rfl) ?_
  refine lv_dup hx hb dX9_driver_70 rfl ?_
  refine vfg_X9 S hK hN 231 14 4 (by decide) H locs 0 0 w2 q0 x0 71 vs [.ref x0] _ ls hP hw2 hv4 dX9_driver_71 ?_
  refine lv_iconst (v := 1) hx hb dX9_driver_74 (by decide) ?_
  refine lv_iadd hx hb dX9_driver_75 ?_
  refine vfp_X9_231_14_4 (A0 := va_A w s.heap.size) (H0 := s.heap) S hK hN (vTy_ok (ad := ad) (τ := τ) (d := 0) (k := 4) rfl rfl (b := (1, 0, 8)) ⟨dc + 1, rfl, by rw [m_add1 (by omega) (by omega)]; show (0 : Int) ≤ _; omega, by rw [m_add1 (by omega) (by omega)]; show _ ≤ (8 : Int); omega⟩) H locs 0 0 _ q0 x0 76 vs [] ls hP hD2 hS hw2 hk3 dX9_driver_76 (fun H locs hP hD3 hS => ?_)
  have hv5 : (vs.set 4 (.int (dc + 1)))[4]? = some (.int (dc + 1)) := List.getElem?_set_self (by omega)
  refine lv_aload_n hx hb dX9_driver_79 rfl (lv_at hl 0 rfl) ?_
  refine vfg_X9 S hK hN 231 14 4 (by decide) H locs 0 0 _ q0 x0 80 _ [] _ ls hP hw3 hv5 dX9_driver_80 ?_
  refine lv_iconst (v := 1) hx hb dX9_driver_83 (by decide) ?_
  refine lv_isub hx hb dX9_driver_84 ?_
  refine lv_topi (fun y9 ey => ?_)
  obtain rfl : dc = y9 := (ey.trans (Int32.add_sub_cancel dc 1)).symm
  refine W.widen (k := 1) (n := 6 * 1) (Nat.le_of_ble_eq_true rfl) (Nat.le_of_ble_eq_true rfl) ?_
  exact vx_ret (W.iret hx hb hr (fun t ht9 _ => ⟨⟨_, _, rfl, by rw [ht9]; exact hP, vi_tw_Z ht3 True.intro, ht3.2.2.2, rfl, hw3⟩, hS.F ht9⟩) hS.2.2 dX9_driver_85 hlocks)

end VDR
