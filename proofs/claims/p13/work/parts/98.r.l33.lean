section LGC
variable {p : Program} {l : Launch} {e : Env} {s : State} {m : MethodId} {below : List Frame} {meth : Method} {c : Code} {H : Heap} {locs : List Loc} {Q : State → Prop} {ls : Array Slot}
variable {D : va_G} {cy : Nat → ClassId} {σ0 : SG} {eda ca : Nat} {ia : Nat → Nat} {ad τ : List Nat} {q0 x0 av qv sa L a0 oa od t c0 n0 k N : Nat} {fd : Nat → Option Nat} {xs : Nat → Int32} {i : Int32}
theorem dL_law_1445 : decode cL_law 1445 = .ok (.aload_n 1, 1) := by decide +kernel
theorem dL_law_1446 : decode cL_law 1446 = .ok (.invokevirtual 281, 3) := by decide +kernel
theorem dL_law_1449 : decode cL_law 1449 = .ok (.pop, 1) := by decide +kernel
theorem dL_law_1450 : decode cL_law 1450 = .ok (.aload_n 2, 1) := by decide +kernel
theorem dL_law_1451 : decode cL_law 1451 = .ok (.invokevirtual 284, 3) := by decide +kernel
theorem dL_law_1454 : decode cL_law 1454 = .ok (.pop, 1) := by decide +kernel
theorem dL_law_1455 : decode cL_law 1455 = .ok (.goto 437, 3) := by decide +kernel
set_option maxRecDepth 100000 in
set_option maxHeartbeats 4000000 in
theorem lg_33 (X : LX p l s m meth c D cy σ0 eda ca ia ad τ q0 x0 sa L xs) (ht : t < 512) (hc0 : c0 ≤ 40000) (hn0 : n0 ≤ 400000) (hI : LI D cy s σ0 eda ia ad τ q0 x0 av qv fd a0 oa od t c0 n0 H locs k N) (hi : i.toInt = 6 * (t : Int)) (hL : 6 * t + 6 ≤ L) (hl : lv_has ls 9 [(5, .int i), (4, .ref od), (3, .ref oa), (2, .ref a0), (1, .ref x0), (0, .ref sa)]) (hE : ∀ (H : Heap) (locs : List Loc) (k N : Nat) (ls : Array Slot), LI D cy s σ0 eda ia ad τ q0 x0 av qv fd a0 oa od (t + 1) c0 n0 H locs k N → lv_has ls 9 [(5, .int i), (4, .ref od), (3, .ref oa), (2, .ref a0), (1, .ref x0), (0, .ref sa)] → W p l e room_1 s m #[Value.ref sa] below meth c H locs k N Q (F0 m 1892 ls [])) : W p l e room_1 s m #[Value.ref sa] below meth c H locs k N Q (F0 m 1445 ls []) := by
  obtain ⟨F, hst, hs, hr0, hr1, hTT, hXs, hbl, hbA, hp0, hL9⟩ := X
  obtain ⟨hx, hb, hml, hown, hts⟩ := id F.1
  obtain ⟨σ, K, g, n, S, hw, nn, w, f, fD, cn, fr0, hB, hnn, hk, hSS, hV, hKa, hY, hH, hO, hD, ht9, hC, hcn, hf0, hf1, dc, hCD, hdc, hQ⟩ := hI
  subst hKa
  refine lv_aload_n hx hb dL_law_1445 rfl (lv_at hl 4 rfl) ?_
  obtain ⟨⟨vs, c1, c2, c3, c4⟩, c5, c6⟩ := id hC
  have hOw : va_P D vwCl _ H := (show va_P D vwCl ([(oa, .inl (cy 2, 1, .inr (.inl f)))] ++ w) H from hO.1.right).right
  have hDw : va_D _ _ := (show va_D (sgA σ0 s.heap.size) ([(oa, .inl (cy 2, 1, .inr (.inl f)))] ++ w) from hD.right).right
  refine lw_wc (nc := 0) (wr := [(od, .inl (cy 3, 1, .inr (.inr (.inr (.inl fD))))), (oa, .inl (cy 2, 1, .inr (.inl f)))]) (rest := []) (lw_mono (Qb := vw_QC D vK cy ad τ (w.set q0 (x0, .inr (14, vs.set 7 (.int (fr0 + 1))))) q_frameF.2.2.2.1 (va_A _ H.size) (fun v _ => ∃ y : Int32, v = some (.int y))) (va_runV (g := F0 m 1446 ls _) (b := x0) (As := []) (rest := []) F.1 (m_frameF l D cy hst hs ht9 hr0 c1 c4 _) (cwV 0 hts (lwV lxv_ (lx_ _ (List.mem_of_getElem? (i := 415) rfl)) (lx_ _ (List.mem_of_getElem? (i := 416) rfl)) (lx_ _ (List.mem_of_getElem? (i := 417) rfl)) (lx_ _ (List.mem_of_getElem? (i := 3) rfl)) (lx_ _ (List.mem_of_getElem? (i := 418) rfl))) rfl rfl rfl ⟨rfl, by decide, by decide, by decide +kernel⟩ ⟨Nat.le_of_ble_eq_true rfl, Nat.le_of_ble_eq_true rfl⟩) ⟨pme_blind, va_recv F.2.1 hOw (ci := 14) rfl c1, vi_pv hOw hDw F.2.1 F.2.2.1⟩ rfl rfl hl.1 rfl (lv_room (Nat.le_of_ble_eq_true rfl)) dL_law_1446 ⟨rm_c (show _ + 0 ≤ 606000 by omega), rm_s (show _ + 0 ≤ 7100000 by have := hB.2.2; omega)⟩) (fun st oc t h => ⟨by obtain ⟨⟨v, w1, e1, e2, e3, e4⟩, -⟩ := h; exact ⟨_, w1, e1, e2, e3, e4, ⟨v, rfl⟩⟩, h.2⟩)) hB hO hD ht9 (fun H locs v w1 hB hO hD ht1 hk9 h8 => ?_)
  obtain ⟨y2, rfl⟩ := h8
  have hCD := CD_frame hCD c1 hk9 (by decide +kernel) (ht1.1.trans ht9.1.symm) (lw_d hD)
  have hC := CI_frame hC c1 hk9 (by decide +kernel) (ht1.1.trans ht9.1.symm) (lw_d hD)
  have hfr : (fr0 + 1).toInt = fr0.toInt + 1 := by rw [Int32.toInt_add, vi_bmod (by rw [show (1 : Int32).toInt = 1 from rfl]; omega) (by rw [show (1 : Int32).toInt = 1 from rfl]; omega)]; rfl
  have ht9 := ht1
  refine lv_pop hx hb dL_law_1449 rfl ?_
  refine lv_aload_n hx hb dL_law_1450 rfl (lv_at hl 3 rfl) ?_
  refine lw_callV (ci := 19) (b := kA K) (As := []) (rest := []) F hB hO (m_frame l D cy hV hY (by omega) _) (cwV 0 hts (lwV lxm_ (lx_ _ (List.mem_of_getElem? (i := 419) rfl)) (lx_ _ (List.mem_of_getElem? (i := 420) rfl)) (lx_ _ (List.mem_of_getElem? (i := 421) rfl)) (lx_ _ (List.mem_of_getElem? (i := 182) rfl)) (lx_ _ (List.mem_of_getElem? (i := 422) rfl))) rfl rfl rfl ⟨rfl, by decide, by decide, by decide +kernel⟩ ⟨Nat.le_of_ble_eq_true rfl, Nat.le_of_ble_eq_true rfl⟩) rfl rfl (by decide) rfl hl.1 rfl (Nat.le_of_ble_eq_true rfl) dL_law_1451 (rm_c (show _ + 813 ≤ 606000 by omega)) (rm_s (show _ + 6906 + sgPot σ0 ≤ 7100000 by omega)) (inv_Mr hV).1 (fun H locs v σ N hB hX hP hO => ?_)
  obtain ⟨y4, hw2, rfl, hV⟩ := hP
  refine lv_pop hx hb dL_law_1454 rfl ?_
  refine lv_goto (tgt := 1892) hx hb dL_law_1455 (by decide) ?_
  exact hE _ _ _ _ _ ⟨σ, K, g, n, (S + 100), hw2, _, w1, f, fD, cn, (fr0 + 1), hB, by omega, by omega, by omega, hV, rfl, hY, hH, hO, hD, ht9, hC, hcn, by omega, by omega, dc, hCD, hdc, hQ⟩ (lv_sub hl [0, 1, 2, 3, 4, 5] rfl)
end LGC
