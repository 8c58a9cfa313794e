theorem dL_law_0 : decode cL_law 0 = .ok (.new 8, 3) := by decide +kernel
theorem dL_law_3 : decode cL_law 3 = .ok (.dup, 1) := by decide +kernel
theorem dL_law_4 : decode cL_law 4 = .ok (.invokespecial 163, 3) := by decide +kernel
theorem dL_law_7 : decode cL_law 7 = .ok (.astore_n 1, 1) := by decide +kernel
theorem dL_law_8 : decode cL_law 8 = .ok (.new 164, 3) := by decide +kernel
theorem dL_law_11 : decode cL_law 11 = .ok (.dup, 1) := by decide +kernel
theorem dL_law_12 : decode cL_law 12 = .ok (.invokespecial 166, 3) := by decide +kernel
theorem dL_law_15 : decode cL_law 15 = .ok (.astore_n 2, 1) := by decide +kernel
theorem dL_law_16 : decode cL_law 16 = .ok (.iconst 1, 1) := by decide +kernel
theorem dL_law_17 : decode cL_law 17 = .ok (.newarray .long, 2) := by decide +kernel
theorem dL_law_19 : decode cL_law 19 = .ok (.astore_n 3, 1) := by decide +kernel
theorem dL_law_20 : decode cL_law 20 = .ok (.iconst 1, 1) := by decide +kernel
theorem dL_law_21 : decode cL_law 21 = .ok (.newarray .double, 2) := by decide +kernel
theorem dL_law_23 : decode cL_law 23 = .ok (.astore 4, 2) := by decide +kernel
theorem dL_law_25 : decode cL_law 25 = .ok (.iconst 0, 1) := by decide +kernel
theorem dL_law_26 : decode cL_law 26 = .ok (.istore 5, 2) := by decide +kernel
theorem dL_law_1870 : decode cL_law 1870 = .ok (.iconst 1, 1) := by decide +kernel
theorem dL_law_1871 : decode cL_law 1871 = .ok (.ireturn, 1) := by decide +kernel
set_option maxRecDepth 20000 in
theorem gT_X9 : GoodIn lw_tbl wsX9_init := fun w h => ⟨lw_by (L := wsX9_init) [(1, 47), (1, 48), (1, 49), (1, 50), (1, 51), (2, 156), (1, 76), (2, 158), (2, 159), (1, 53), (2, 161), (2, 162), (1, 55), (1, 56), (1, 2), (2, 164), (2, 165), (1, 77), (1, 78), (1, 3), (2, 166), (1, 104), (1, 105), (1, 4), (2, 167), (1, 148), (1, 149), (1, 5), (2, 168), (1, 164), (1, 6), (2, 63), (1, 9), (2, 157), (1, 58), (1, 59), (1, 60), (1, 61), (1, 80), (1, 81), (1, 82), (1, 83), (1, 85), (1, 89), (1, 107), (1, 108), (1, 109), (1, 147), (1, 110), (1, 111), (1, 112), (1, 122), (1, 151), (1, 152), (1, 153), (1, 166), (1, 167), (1, 168), (1, 232), (1, 239), (2, 4), (2, 6), (2, 8), (2, 12), (1, 169), (1, 170), (1, 7), (2, 18), (1, 184), (2, 20), (1, 230), (1, 186), (1, 8), (1, 172), (1, 173), (1, 174), (1, 175), (1, 188), (1, 189), (1, 190), (1, 191), (1, 207), (1, 193), (1, 209), (2, 65), (2, 66), (2, 67), (2, 108), (2, 110), (2, 112), (2, 120), (2, 68), (2, 123), (2, 102), (2, 70), (1, 10), (2, 72), (2, 73), (2, 74), (2, 75), (2, 169), (2, 171), (2, 173), (2, 175), (2, 177), (2, 179), (2, 181), (2, 183), (2, 185), (2, 187), (2, 189), (2, 191), (2, 193), (1, 67), (1, 69), (1, 71), (1, 73), (1, 93), (1, 95), (1, 97), (1, 99), (1, 101), (1, 126), (1, 128), (1, 130), (1, 132), (1, 134), (1, 136), (1, 138), (1, 140), (1, 142), (1, 144), (1, 157), (1, 159), (1, 161), (2, 22), (2, 24), (2, 26), (2, 28), (2, 30), (2, 32), (2, 34), (2, 36), (2, 38), (2, 40), (2, 42), (2, 44), (2, 46), (2, 48), (2, 50), (2, 52), (2, 54), (2, 56), (2, 58), (2, 60), (2, 127), (2, 129), (2, 131), (2, 133), (2, 135), (2, 137), (2, 139), (2, 141), (2, 143), (2, 145), (2, 147), (2, 149), (2, 151), (2, 153), (1, 179), (1, 181), (1, 211), (1, 213), (1, 215), (1, 217), (1, 219), (1, 221), (1, 223), (1, 225), (1, 227), (2, 89), (2, 91), (2, 93), (2, 95), (2, 97), (2, 99)] rfl w h, good_of_word (List.all_eq_true.mp (show wsX9_init.all goodWord = true by decide +kernel) w h)⟩
theorem gT_X14 : GoodIn lw_tbl (Cond.code yX14_init cX14_init 2 none :: mWall) := fun w h => by
  rcases List.mem_cons.mp h with rfl | h
  · exact ⟨(mem_p (k := 6) (j := 95) rfl), good_of_word (by decide +kernel)⟩
  · exact ⟨lwi_mWall w h, good_of_word (List.all_eq_true.mp mgood w h)⟩
theorem df_hub9 : ∀ j, j < 13 → defaultValue (tyX9 j) = vp_V [.null, .int 0, .null, .null, .int 0, .null, .int 0, .int 0, .null, .null, .null, .null, .null] j := by decide +kernel
theorem df_mdl14 : ∀ j, j < 19 → defaultValue (tyX14 j) = vp_V [.int 0, .null, .null, .null, .null, .null, .null, .int 0, .null, .int 0, .int 0, .int 0, .null, .long 0, .int 0, .int 0, .int 0, .int 0, .long 0] j := by decide +kernel
/-- the law's last rows -/
theorem law_last {p : Program} {l : Launch} {e : Env} {s : State} {m : MethodId} {below : List Frame} {meth : Method} {c : Code} {b : Nat} (hx : p.tables.exec = Jvm.exec) (hb : c.code = cL_law) (hr : meth.sig.returnType = ret) (hlocks : meth.locks = false) {H : Heap} {locs : List Loc} {ls : Array Slot} {k N : Nat} (hk : k ≤ 606006) (hn : N ≤ 7060000) (hS : va_S (sgA sg0 s.heap.size) s.heap H locs) : W p l e room_1 s m #[Value.ref b] below meth c H locs k N (lw_Z below #[Value.ref b] s) (F0 m 1870 ls []) := by
  refine va_forget (fun q hq => sg0_B (hS.2.2 q hq)) ?_
  refine W.widen (k := 606946) (n := 7179010) (by omega) (by omega) ?_
  refine lv_iconst (v := 1) hx hb dL_law_1870 (by decide) ?_
  exact lw_ret (d0 := s.drawn) (Drawn.sameBut.refl s.drawn lw_cs) hx hb hr hlocks dL_law_1871
set_option maxRecDepth 100000 in
set_option maxHeartbeats 8000000 in
/-- from the entry, for every script of at most 3072 ints, the law comes to its end with true -/
theorem whole_start {p : Program} {e : Env} {s : State} {m : MethodId} {below : List Frame} {meth : Method} {c : Code} (l : Launch) (hflags : l.flags = flags0) {b L : Nat} {xs : Nat → Int32} (hL : L ≤ 3072) (C0 : lw_At p s m meth c b L xs) : W p l e room_1 s m #[Value.ref b] below meth c s.heap [] 0 0 (lw_Z below #[Value.ref b] s) (entryFrame m ([Value.ref b] : List Value).toArray 9) := by
  obtain ⟨hx, hb, hr, hml, hown, hts, hX, hbl, hlocks, hgv⟩ := id C0
  have hfl : l.stackTraces = false := by unfold Launch.stackTraces; rw [hflags]; decide +kernel
  have hn : ∀ w ∈ flN, w.before #[Value.ref b] s = true := flat_of_before _ hgv
  obtain ⟨D, cy, hK⟩ := ent_K hts
  have hN : NL s := ent_N hK hts
  have hT : vi_ST (sgA sg0 s.heap.size) s := ent_T hts hn sg0_A
  obtain ⟨eda, ca, ia, hJS⟩ := ent_J (A := sgA sg0 s.heap.size) hts hn sg0_A
  have hown : s.vm.findClass RL = some m.cls := hown
  have hb : c.code = cL_law := hb
  have hA : ∀ q : Nat, s.heap.size ≤ q → sgA sg0 s.heap.size q := fun _ h => Or.inr h
  have hbA : ¬ sgA sg0 s.heap.size b := sg0_A b hbl
  have F : sgFx p s m #[Value.ref b] meth c cL_law 9 RL lw_tbl D cy eda ca ia sg0 := ⟨⟨hx, hb, hml, hown, hts⟩, hK, hN, hJS, hlocks⟩
  have hS : va_S (sgA sg0 s.heap.size) s.heap s.heap [] := va_S.rf
  have hP : va_P D vwCl [] s.heap := fun k q h => by simp at h
  have hD : va_D (sgA sg0 s.heap.size) [] := ⟨fun i j p q h => by simp at h, fun k q h => by simp at h⟩
  have hl := lv_entry ([.ref b]) (n := 9) (Nat.le_of_ble_eq_true rfl)
  rw [lg_entry_eq]
  generalize (lg_sl ([.ref b]) ++ List.replicate (9 - (lg_sl ([.ref b])).length) Slot.unset).toArray = ls at hl ⊢
  have hl : lv_has ls 9 [(0, .ref b)] := hl
  refine va_new (ci := 14) (fs := [.null, .int 0, .null, .null, .int 0, .null, .int 0, .int 0, .null, .null, .null, .null, .null]) (C := RX9) (T := TX9) (N := 13) hx hb hts lwi_wsX90 tyX9 tyX9_ok hown (hts (.classLink RL 8 RX9) (mem_p (k := 1) (j := 43) rfl)) (hts (.instantiable RX9 13) (mem_p (k := 1) (j := 44) rfl)) (hts (.initialized RX9) (mem_p (k := 1) (j := 1) rfl)) hK hP hD hS hA rfl df_hub9 (Nat.le_of_ble_eq_true rfl) (Nat.le_of_ble_eq_true rfl) dL_law_0 (fun q1 H hP hD hS => ?_)
  have hP : va_P D vwCl [(q1, .inr (14, [.null, .int 0, .null, .null, .int 0, .null, .int 0, .int 0, .null, .null, .null, .null, .null]))] H := hP
  have hD : va_D (sgA sg0 s.heap.size) [(q1, .inr (14, [.null, .int 0, .null, .null, .int 0, .null, .int 0, .int 0, .null, .null, .null, .null, .null]))] := hD
  refine lv_dup hx hb dL_law_3 rfl ?_
  refine me_callI (wr := []) (wc := [(q1, .inr (14, [.null, .int 0, .null, .null, .int 0, .null, .int 0, .int 0, .null, .null, .null, .null, .null]))]) (As := []) (rest := [.ref q1]) ⟨hx, hb, hml, hown, hts⟩ (m_Hub_initT l D cy q1 _) (cwI 0 hts gT_X9 rfl rfl rfl (hts (.initialized RX9) (mem_p (k := 1) (j := 1) rfl)) (hts (.methodLink RL 163 yX9_init) (mem_p (k := 1) (j := 45) rfl)) (hts (.instanceMethod yX9_init) (mem_p (k := 1) (j := 46) rfl)) rfl (by decide +kernel) ⟨by decide, by decide⟩) hK hN hP hD hS hA rfl hl.1 rfl (Nat.le_of_ble_eq_true rfl) dL_law_4 ⟨Nat.le_of_ble_eq_true rfl, Nat.le_of_ble_eq_true rfl⟩ (fun H locs hB hJ hS => ?_)
  obtain ⟨w, hT9, hP1, hD1⟩ := hB
  obtain ⟨hP, hD⟩ := hJ _ hP1 hD1
  have hP : va_P D vwCl w H := hP
  have hD : va_D (sgA sg0 s.heap.size) w := hD
  refine lv_astore_n (lv' := [(1, .ref q1), (0, .ref b)]) hx hb dL_law_7 rfl hl (by decide) rfl (fun ls hl => ?_)
  refine va_new (ci := 19) (fs := [.int 0, .null, .null, .null, .null, .null, .null, .int 0, .null, .int 0, .int 0, .int 0, .null, .long 0, .int 0, .int 0, .int 0, .int 0, .long 0]) (C := RX14) (T := TX14) (N := 19) hx hb hts lwi_wsX140 tyX14 tyX14_ok hown (hts (.classLink RL 164 RX14) (mem_p (k := 6) (j := 91) rfl)) (hts (.instantiable RX14 19) (mem_p (k := 6) (j := 92) rfl)) (hts (.initialized RX14) (mem_p (k := 1) (j := 11) rfl)) hK hP hD hS hA rfl df_mdl14 (Nat.le_of_ble_eq_true rfl) (Nat.le_of_ble_eq_true rfl) dL_law_8 (fun q2 H hP hD hS => ?_)
  obtain ⟨hB, hO, hD⟩ := lw_first (cy := cy) hP hD hS
  refine lv_dup hx hb dL_law_11 rfl ?_
  refine lw_callI (As := []) (rest := [.ref q2]) F (hB _) hO (m_mdI l D cy (σ := sgNw sg0 q2 20 0) (a0 := q2) (if_pos rfl) (fun k => by show (if q2 = q2 then (0 : Int32) else 0) = 0; split <;> rfl) (fun a ha => by
    by_cases c : a = q2
    · exact c
    · exact absurd (if_neg c) ha) _) (cwI 0 hts gT_X14 rfl rfl rfl (hts (.initialized RX14) (mem_p (k := 1) (j := 11) rfl)) (hts (.methodLink RL 166 yX14_init) (mem_p (k := 6) (j := 93) rfl)) (hts (.instanceMethod yX14_init) (mem_p (k := 6) (j := 94) rfl)) rfl (by decide +kernel) ⟨Nat.le_of_ble_eq_true rfl, Nat.le_of_ble_eq_true rfl⟩) rfl hl.1 rfl (Nat.le_of_ble_eq_true rfl) dL_law_12 (Nat.le_of_ble_eq_true rfl) (Nat.le_of_ble_eq_true rfl) (fun H locs v σ N hB hX9 hP hO => ?_)
  obtain ⟨rfl, K, g, hKa, ⟨hY, hH⟩, hV⟩ := hP
  refine lv_astore_n (lv' := [(2, .ref q2), (1, .ref q1), (0, .ref b)]) hx hb dL_law_15 rfl hl (by decide) rfl (fun ls hl => ?_)
  refine lv_iconst (v := 1) hx hb dL_law_16 (by decide) ?_
  have hN1 : N ≤ 100000 := Nat.le_trans (Nat.le_trans (Nat.le_add_right N (sgPot σ)) hB.2.2) (Nat.le_of_ble_eq_true rfl)
  refine lw_newa F hB hO hD 2 (atype := .long) (ty := .long) (k := 2) (a0 := (1, .inr (.inl (fun _ => 0)))) (N' := 1) (hts (.arrayClass .long) (mem_p (k := 10) (j := 56) rfl)) rfl rfl (fun C z => by cases z) (fun _ => rfl) (by decide) (by decide) (Nat.le_of_ble_eq_true rfl) (Nat.le_of_ble_eq_true rfl) (Nat.le_trans (Nat.add_le_add_right hN1 1) (Nat.le_of_ble_eq_true rfl)) dL_law_17 (fun oa H hB hO hD => ?_)
  refine lv_astore_n (lv' := [(3, .ref oa), (2, .ref q2), (1, .ref q1), (0, .ref b)]) hx hb dL_law_19 rfl hl (by decide) rfl (fun ls hl => ?_)
  refine lv_iconst (v := 1) hx hb dL_law_20 (by decide) ?_
  refine lw_newa F hB hO hD 3 (atype := .double) (ty := .double) (k := 3) (a0 := (1, .inr (.inr (.inr (.inl (fun _ => 0)))))) (N' := 1) (hts (.arrayClass .double) (mem_p (k := 10) (j := 57) rfl)) rfl rfl (fun C z => by cases z) (fun _ => rfl) (by decide) (by decide) (Nat.le_of_ble_eq_true rfl) (Nat.le_of_ble_eq_true rfl) (Nat.le_trans (Nat.add_le_add_right (Nat.add_le_add_right hN1 1) 1) (Nat.le_of_ble_eq_true rfl)) dL_law_21 (fun od H hB hO hD => ?_)
  refine lv_astore (lv' := [(4, .ref od), (3, .ref oa), (2, .ref q2), (1, .ref q1), (0, .ref b)]) hx hb dL_law_23 hl (by decide) rfl (fun ls hl => ?_)
  refine lv_iconst (v := 0) hx hb dL_law_25 (by decide) ?_
  refine lv_istore (lv' := [(5, .int 0), (4, .ref od), (3, .ref oa), (2, .ref q2), (1, .ref q1), (0, .ref b)]) hx hb dL_law_26 hl (by decide) rfl (fun ls hl => ?_)
  obtain ⟨ad, τ, Y, t1, t2, t3, t4, y1, y2, y3⟩ := hT9
  have X : LX p l s m meth c D cy sg0 eda ca ia ad τ 0 q1 b L xs := ⟨⟨⟨hx, hb, hml, hown, fun w h => hts w (lawW_in w h)⟩, hK, hN, hJS, hlocks⟩, hfl, t2, t3, t4, hT, hX, hbl, hbA, rfl, hL⟩
  obtain ⟨w2, hC, hO, hD, t5⟩ := CS_conv (a := (od, .inl (cy 3, 1, .inr (.inr (.inr (.inl (fun _ => 0))))))) (b := (oa, .inl (cy 2, 1, .inr (.inl (fun _ => 0))))) y1 t1 y2 y3 hO hD
  exact lg_loop X (c0 := 40000) (n0 := 400000) (av := 0) (qv := 1) (fd := fun _ => none) (a0 := q2) (oa := oa) (od := od) (Nat.le_refl _) (Nat.le_refl _) (fun H locs k N ls hk hn2 hS => law_last hx hb hr hlocks hk hn2 hS) 512 0 0 _ _ _ _ _ rfl ⟨σ, K, g, 1, 200, 100, _, w2, fun _ => 0, fun _ => 0, hB, Nat.le_of_ble_eq_true rfl, Nat.le_of_ble_eq_true rfl, Nat.le_refl _, hV, hKa, hY, hH, hO, hD, t5, CS_up hC (by omega)⟩ rfl hl
