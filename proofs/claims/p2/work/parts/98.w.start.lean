theorem dL_law_0 : decode cL_law 0 = .ok (.new 8, 3) := by decide +kernel
theorem dL_law_3 : decode cL_law 3 = .ok (.dup, 1) := by decide +kernel
theorem dL_law_4 : decode cL_law 4 = .ok (.invokespecial 163, 3) := by decide +kernel
theorem dL_law_7 : decode cL_law 7 = .ok (.astore_n 1, 1) := by decide +kernel
theorem dL_law_8 : decode cL_law 8 = .ok (.new 164, 3) := by decide +kernel
theorem dL_law_11 : decode cL_law 11 = .ok (.dup, 1) := by decide +kernel
theorem dL_law_12 : decode cL_law 12 = .ok (.invokespecial 166, 3) := by decide +kernel
theorem dL_law_15 : decode cL_law 15 = .ok (.astore_n 2, 1) := by decide +kernel
theorem dL_law_16 : decode cL_law 16 = .ok (.iconst 1, 1) := by decide +kernel
theorem dL_law_17 : decode cL_law 17 = .ok (.newarray .long, 2) := by decide +kernel
theorem dL_law_19 : decode cL_law 19 = .ok (.astore_n 3, 1) := by decide +kernel
theorem dL_law_20 : decode cL_law 20 = .ok (.iconst 1, 1) := by decide +kernel
theorem dL_law_21 : decode cL_law 21 = .ok (.newarray .double, 2) := by decide +kernel
theorem dL_law_23 : decode cL_law 23 = .ok (.astore 4, 2) := by decide +kernel
theorem dL_law_25 : decode cL_law 25 = .ok (.iconst 0, 1) := by decide +kernel
theorem dL_law_26 : decode cL_law 26 = .ok (.istore 5, 2) := by decide +kernel
theorem dL_law_1898 : decode cL_law 1898 = .ok (.iconst 1, 1) := by decide +kernel
theorem dL_law_1899 : decode cL_law 1899 = .ok (.ireturn, 1) := by decide +kernel
set_option maxRecDepth 20000 in
theorem gT_X9 : GoodIn lw_tbl wsX9_init := goodIn_r _ [147, 148, 149, 150, 151, 496, 176, 498, 499, 153, 501, 502, 155, 156, 102, 504, 505, 177, 178, 103, 506, 204, 205, 104, 507, 248, 249, 105, 508, 264, 106, 403, 109, 497, 158, 159, 160, 161, 180, 181, 182, 183, 185, 189, 207, 208, 209, 247, 210, 211, 212, 222, 251, 252, 253, 266, 267, 268, 332, 339, 344, 346, 348, 352, 269, 270, 107, 358, 284, 360, 330, 286, 108, 272, 273, 274, 275, 288, 289, 290, 291, 307, 293, 309, 405, 406, 407, 448, 450, 452, 460, 408, 463, 442, 410, 110, 412, 413, 414, 415, 509, 511, 513, 515, 517, 519, 521, 523, 525, 527, 529, 531, 533, 167, 169, 171, 173, 193, 195, 197, 199, 201, 226, 228, 230, 232, 234, 236, 238, 240, 242, 244, 257, 259, 261, 362, 364, 366, 368, 370, 372, 374, 376, 378, 380, 382, 384, 386, 388, 390, 392, 394, 396, 398, 400, 467, 469, 471, 473, 475, 477, 479, 481, 483, 485, 487, 489, 491, 493, 279, 281, 311, 313, 315, 317, 319, 321, 323, 325, 327, 429, 431, 433, 435, 437, 439] (by decide +kernel) (by decide +kernel)
theorem gT_X14 : GoodIn lw_tbl (Cond.code yX14_init cX14_init 2 none :: mWall) := fun w h => by
  rcases List.mem_cons.mp h with rfl | h
  · exact ⟨(mem_t (i := 1295) (by decide +kernel)), by decide +kernel⟩
  · exact ⟨lwi_mWall w h, good_of_word (List.all_eq_true.mp mgood w h)⟩
theorem df_hub9 : ∀ j, j < 13 → defaultValue (tyX9 j) = vp_V [.null, .int 0, .null, .null, .int 0, .null, .int 0, .int 0, .null, .null, .null, .null, .null] j := by decide +kernel
theorem df_mdl14 : ∀ j, j < 19 → defaultValue (tyX14 j) = vp_V [.int 0, .null, .null, .null, .null, .null, .null, .int 0, .null, .int 0, .int 0, .int 0, .null, .long 0, .int 0, .int 0, .int 0, .int 0, .long 0] j := by decide +kernel
/-- the law's last rows -/
theorem law_last {p : Program} {l : Launch} {e : Env} {s : State} {m : MethodId} {below : List Frame} {meth : Method} {c : Code} {b : Nat} (hx : p.tables.exec = Jvm.exec) (hb : c.code = cL_law) (hr : meth.sig.returnType = ret) (hlocks : meth.locks = false) {H : Heap} {locs : List Loc} {ls : Array Slot} {k N : Nat} (hk : k ≤ 606006) (hn : N ≤ 7060000) (hS : va_S (sgA sg0 s.heap.size) s.heap H locs) : W p l e room_1 s m #[Value.ref b] below meth c H locs k N (lw_Z below #[Value.ref b] s) (F0 m 1898 ls []) := by
  refine va_forget (fun q hq => sg0_B (hS.2.2 q hq)) ?_
  refine W.widen (k := 606917) (n := 7179097) (by omega) (by omega) ?_
  refine lv_iconst (v := 1) hx hb dL_law_1898 (by decide) ?_
  exact lw_ret (d0 := s.drawn) (Drawn.sameBut.refl s.drawn lw_cs) hx hb hr hlocks dL_law_1899
set_option maxRecDepth 100000 in
set_option maxHeartbeats 8000000 in
/-- from the entry, for every script of at most 3072 ints, the law comes to its end with true -/
theorem whole_start {p : Program} {e : Env} {s : State} {m : MethodId} {below : List Frame} {meth : Method} {c : Code} (l : Launch) (hflags : l.flags = flags0) {b L : Nat} {xs : Nat → Int32} (hL : L ≤ 3072) (C0 : lw_At p s m meth c b L xs) : W p l e room_1 s m #[Value.ref b] below meth c s.heap [] 0 0 (lw_Z below #[Value.ref b] s) (entryFrame m ([Value.ref b] : List Value).toArray 9) := by
  obtain ⟨hx, hb, hr, hml, hown, hts, hX, hbl, hlocks, hgv⟩ := id C0
  have hfl : l.stackTraces = false := by unfold Launch.stackTraces; rw [hflags]; decide +kernel
  have hn : ∀ w ∈ flN, w.before #[Value.ref b] s = true := flat_of_before _ hgv
  obtain ⟨D, cy, hK⟩ := ent_K hts
  have hN : NL s := ent_N hK hts
  have hT : vi_ST (sgA sg0 s.heap.size) s := ent_T hts hn sg0_A
  obtain ⟨eda, ca, ia, hJS⟩ := ent_J (A := sgA sg0 s.heap.size) hts hn sg0_A
  have hown : s.vm.findClass RL = some m.cls := hown
  have hb : c.code = cL_law := hb
  have hA : ∀ q : Nat, s.heap.size ≤ q → sgA sg0 s.heap.size q := fun _ h => Or.inr h
  have hbA : ¬ sgA sg0 s.heap.size b := sg0_A b hbl
  have F : sgFx p s m #[Value.ref b] meth c cL_law 9 RL lw_tbl D cy eda ca ia sg0 := ⟨⟨hx, hb, hml, hown, hts⟩, hK, hN, hJS, hlocks⟩
  have hS : va_S (sgA sg0 s.heap.size) s.heap s.heap [] := va_S.rf
  have hP : va_P D vwCl [] s.heap := fun k q h => by simp at h
  have hD : va_D (sgA sg0 s.heap.size) [] := ⟨fun i j p q h => by simp at h, fun k q h => by simp at h⟩
  have hl := lv_entry ([.ref b]) (n := 9) (Nat.le_of_ble_eq_true rfl)
  rw [lg_entry_eq]
  generalize (lg_sl ([.ref b]) ++ List.replicate (9 - (lg_sl ([.ref b])).length) Slot.unset).toArray = ls at hl ⊢
  have hl : lv_has ls 9 [(0, .ref b)] := hl
  refine va_new (ci := 14) (fs := [.null, .int 0, .null, .null, .int 0, .null, .int 0, .int 0, .null, .null, .null, .null, .null]) (C := RX9) (T := TX9) (N := 13) hx hb hts lwi_wsX90 tyX9 tyX9_ok hown (hts (.classLink RL 8 RX9) (mem_t (i := 43) (by decide +kernel))) (hts (.instantiable RX9 13) (mem_t (i := 44) (by decide +kernel))) (hts (.initialized RX9) (mem_t (i := 1) (by decide +kernel))) hK hP hD hS hA rfl df_hub9 (Nat.le_of_ble_eq_true rfl) (Nat.le_of_ble_eq_true rfl) dL_law_0 (fun q1 H hP hD hS => ?_)
  have hP : va_P D vwCl [(q1, .inr (14, [.null, .int 0, .null, .null, .int 0, .null, .int 0, .int 0, .null, .null, .null, .null, .null]))] H := hP
  have hD : va_D (sgA sg0 s.heap.size) [(q1, .inr (14, [.null, .int 0, .null, .null, .int 0, .null, .int 0, .int 0, .null, .null, .null, .null, .null]))] := hD
  refine lv_dup hx hb dL_law_3 rfl ?_
  refine me_callI (wr := []) (wc := [(q1, .inr (14, [.null, .int 0, .null, .null, .int 0, .null, .int 0, .int 0, .null, .null, .null, .null, .null]))]) (As := []) (rest := [.ref q1]) ⟨hx, hb, hml, hown, hts⟩ (m_Hub_initT l D cy q1 _) (cwI 0 hts gT_X9 rfl rfl rfl (hts (.initialized RX9) (mem_t (i := 1) (by decide +kernel))) (hts (.methodLink RL 163 yX9_init) (mem_t (i := 45) (by decide +kernel))) (hts (.instanceMethod yX9_init) (mem_t (i := 46) (by decide +kernel))) rfl (by decide +kernel) ⟨by decide, by decide⟩) hK hN hP hD hS hA rfl hl.1 rfl (Nat.le_of_ble_eq_true rfl) dL_law_4 ⟨Nat.le_of_ble_eq_true rfl, Nat.le_of_ble_eq_true rfl⟩ (fun H locs hB hJ hS => ?_)
  obtain ⟨w, hT9, hP1, hD1⟩ := hB
  obtain ⟨hP, hD⟩ := hJ _ hP1 hD1
  have hP : va_P D vwCl w H := hP
  have hD : va_D (sgA sg0 s.heap.size) w := hD
  refine lv_astore_n (lv' := [(1, .ref q1), (0, .ref b)]) hx hb dL_law_7 rfl hl (by decide) rfl (fun ls hl => ?_)
  refine va_new (ci := 19) (fs := [.int 0, .null, .null, .null, .null, .null, .null, .int 0, .null, .int 0, .int 0, .int 0, .null, .long 0, .int 0, .int 0, .int 0, .int 0, .long 0]) (C := RX14) (T := TX14) (N := 19) hx hb hts lwi_wsX140 tyX14 tyX14_ok hown (hts (.classLink RL 164 RX14) (mem_t (i := 1291) (by decide +kernel))) (hts (.instantiable RX14 19) (mem_t (i := 1292) (by decide +kernel))) (hts (.initialized RX14) (mem_t (i := 11) (by decide +kernel))) hK hP hD hS hA rfl df_mdl14 (Nat.le_of_ble_eq_true rfl) (Nat.le_of_ble_eq_true rfl) dL_law_8 (fun q2 H hP hD hS => ?_)
  obtain ⟨hB, hO, hD⟩ := lw_first (cy := cy) hP hD hS
  refine lv_dup hx hb dL_law_11 rfl ?_
  refine lw_callI (As := []) (rest := [.ref q2]) F (hB _) hO (m_mdI l D cy (σ := sgNw sg0 q2 20 0) (a0 := q2) (if_pos rfl) (fun k => by show (if q2 = q2 then (0 : Int32) else 0) = 0; split <;> rfl) (fun a ha => by
    by_cases c : a = q2
    · exact c
    · exact absurd (if_neg c) ha) _) (cwI 0 hts gT_X14 rfl rfl rfl (hts (.initialized RX14) (mem_t (i := 11) (by decide +kernel))) (hts (.methodLink RL 166 yX14_init) (mem_t (i := 1293) (by decide +kernel))) (hts (.instanceMethod yX14_init) (mem_t (i := 1294) (by decide +kernel))) rfl (by decide +kernel) ⟨Nat.le_of_ble_eq_true rfl, Nat.le_of_ble_eq_true rfl⟩) rfl hl.1 rfl (Nat.le_of_ble_eq_true rfl) dL_law_12 (Nat.le_of_ble_eq_true rfl) (Nat.le_of_ble_eq_true rfl) (fun H locs v σ N hB hX9 hP hO => ?_)
  obtain ⟨rfl, K, g, hKa, ⟨hY, hH⟩, hV⟩ := hP
  refine lv_astore_n (lv' := [(2, .ref q2), (1, .ref q1), (0, .ref b)]) hx hb dL_law_15 rfl hl (by decide) rfl (fun ls hl => ?_)
  refine lv_iconst (v := 1) hx hb dL_law_16 (by decide) ?_
  have hN1 : N ≤ 100000 := Nat.le_trans (Nat.le_trans (Nat.le_add_right N (sgPot σ)) hB.2.2) (Nat.le_of_ble_eq_true rfl)
  refine lw_newa F hB hO hD 2 (atype := .long) (ty := .long) (k := 2) (a0 := (1, .inr (.inl (fun _ => 0)))) (N' := 1) (hts (.arrayClass .long) (mem_t (i := 2220) (by decide +kernel))) rfl rfl (fun C z => by cases z) (fun _ => rfl) (by decide) (by decide) (Nat.le_of_ble_eq_true rfl) (Nat.le_of_ble_eq_true rfl) (Nat.le_trans (Nat.add_le_add_right hN1 1) (Nat.le_of_ble_eq_true rfl)) dL_law_17 (fun oa H hB hO hD => ?_)
  refine lv_astore_n (lv' := [(3, .ref oa), (2, .ref q2), (1, .ref q1), (0, .ref b)]) hx hb dL_law_19 rfl hl (by decide) rfl (fun ls hl => ?_)
  refine lv_iconst (v := 1) hx hb dL_law_20 (by decide) ?_
  refine lw_newa F hB hO hD 3 (atype := .double) (ty := .double) (k := 3) (a0 := (1, .inr (.inr (.inr (.inl (fun _ => 0)))))) (N' := 1) (hts (.arrayClass .double) (mem_t (i := 2221) (by decide +kernel))) rfl rfl (fun C z => by cases z) (fun _ => rfl) (by decide) (by decide) (Nat.le_of_ble_eq_true rfl) (Nat.le_of_ble_eq_true rfl) (Nat.le_trans (Nat.add_le_add_right (Nat.add_le_add_right hN1 1) 1) (Nat.le_of_ble_eq_true rfl)) dL_law_21 (fun od H hB hO hD => ?_)
  refine lv_astore (lv' := [(4, .ref od), (3, .ref oa), (2, .ref q2), (1, .ref q1), (0, .ref b)]) hx hb dL_law_23 hl (by decide) rfl (fun ls hl => ?_)
  refine lv_iconst (v := 0) hx hb dL_law_25 (by decide) ?_
  refine lv_istore (lv' := [(5, .int 0), (4, .ref od), (3, .ref oa), (2, .ref q2), (1, .ref q1), (0, .ref b)]) hx hb dL_law_26 hl (by decide) rfl (fun ls hl => ?_)
  obtain ⟨ad, τ, av, fd, t1, t2, t3, t4, t5⟩ := hT9
  have X : LX p l s m meth c D cy sg0 eda ca ia ad τ 0 q1 b L xs := ⟨⟨⟨hx, hb, hml, hown, fun w h => hts w (lawW_in w h)⟩, hK, hN, hJS, hlocks⟩, hfl, t2, t3, t4, hT, hX, hbl, hbA, rfl, hL⟩
  exact lg_loop X (c0 := 40000) (n0 := 400000) (av := av) (qv := 1) (fd := fd) (a0 := q2) (oa := oa) (od := od) (Nat.le_refl _) (Nat.le_refl _) (fun H locs k N ls hk hn2 hS => law_last hx hb hr hlocks hk hn2 hS) 512 0 0 _ _ _ _ _ rfl ⟨σ, K, g, 1, 200, 100, _, w, fun _ => 0, fun _ => 0, 1, 0, hB, Nat.le_of_ble_eq_true rfl, Nat.le_of_ble_eq_true rfl, Nat.le_refl _, hV, hKa, hY, hH, hO, hD, t1, t5, rfl, by decide, by decide⟩ rfl hl
