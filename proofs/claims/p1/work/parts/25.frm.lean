def my_knd : va_E → Nat
  | .inl (_, _, .inl _) => 0
  | .inl (_, _, .inr _) => 1
  | .inr _ => 2
theorem my_ne {A : Nat → Prop} {w : va_W} {a b : Nat} {c c' : va_E} (hD : va_D A w) (h1 : (a, c) ∈ w) (h2 : (b, c') ∈ w) (hne : c ≠ c') : a ≠ b := by
  intro e
  subst e
  obtain ⟨i, hi⟩ := List.mem_iff_getElem?.mp h1
  obtain ⟨j, hj⟩ := List.mem_iff_getElem?.mp h2
  have := hD.1 i j _ _ hi hj rfl
  subst this
  exact hne (congrArg Prod.snd (Option.some.inj (hi.symm.trans hj)))
theorem va_P.mem {D : va_G} {w w' : va_W} {H : Heap} (h : va_P D vwCl w H) (hm : ∀ q ∈ w', q ∈ w) : va_P D vwCl w' H := fun k q hk => by
  obtain ⟨j, hj⟩ := List.mem_iff_getElem?.mp (hm q (List.mem_of_getElem? hk))
  exact h j q hj
theorem my_nodup {A : Nat → Prop} {w : va_W} : va_D A w ↔ (w.map Prod.fst).Nodup ∧ ∀ q ∈ w, A q.1 := by
  constructor
  · intro h
    refine ⟨?_, fun q hq => ?_⟩
    · rw [List.Nodup, List.pairwise_iff_getElem]
      intro i j hi hj hij e
      rw [List.length_map] at hi hj
      rw [List.getElem_map, List.getElem_map] at e
      have := h.1 i j _ _ (List.getElem?_eq_getElem hi) (List.getElem?_eq_getElem hj) e
      omega
    · obtain ⟨k, hk⟩ := List.mem_iff_getElem?.mp hq
      exact h.2 k q hk
  · rintro ⟨h1, h2⟩
    refine ⟨fun i j p q hi hj hpq => ?_, fun k q hk => h2 q (List.mem_of_getElem? hk)⟩
    rw [List.Nodup, List.pairwise_iff_getElem] at h1
    obtain ⟨li, ei⟩ := List.getElem?_eq_some_iff.mp hi
    obtain ⟨lj, ej⟩ := List.getElem?_eq_some_iff.mp hj
    rcases Nat.lt_trichotomy i j with c | c | c
    · exact absurd (by rw [List.getElem_map, List.getElem_map, ei, ej]; exact hpq) (h1 i j (by rw [List.length_map]; exact li) (by rw [List.length_map]; exact lj) c)
    · exact c
    · exact absurd (by rw [List.getElem_map, List.getElem_map, ei, ej]; exact hpq.symm) (h1 j i (by rw [List.length_map]; exact lj) (by rw [List.length_map]; exact li) c)
theorem va_D.perm {A : Nat → Prop} {w w' : va_W} (h : va_D A w) (hp : w.Perm w') : va_D A w' := by
  rw [my_nodup] at h ⊢
  exact ⟨(hp.map Prod.fst).nodup_iff.mp h.1, fun q hq => h.2 q (hp.mem_iff.mpr hq)⟩
/-- some cells in front, the rest behind -/
theorem my_pull {D : va_G} {A : Nat → Prop} {w : va_W} {H : Heap} (hP : va_P D vwCl w H) (hD : va_D A w) (cs : va_W) (hcs : ∀ q ∈ cs, q ∈ w) (hn : (cs.map Prod.fst).Nodup) : ∃ wt : va_W, va_P D vwCl (cs ++ wt) H ∧ va_D A (cs ++ wt) ∧ ∀ q ∈ w, q.1 ∉ cs.map Prod.fst → q ∈ wt := by
  refine ⟨w.filter (fun q => decide (q.1 ∉ cs.map Prod.fst)), hP.mem (fun q hq => ?_), ?_, fun q hq hn => List.mem_filter.mpr ⟨hq, decide_eq_true hn⟩⟩
  · rcases List.mem_append.mp hq with h | h
    · exact hcs q h
    · exact (List.mem_filter.mp h).1
  · rw [my_nodup] at hD ⊢
    refine ⟨?_, fun q hq => ?_⟩
    · rw [List.map_append, List.nodup_append]
      refine ⟨hn, hD.1.sublist ((List.filter_sublist).map _), fun a ha b hb e => ?_⟩
      subst e
      obtain ⟨q, hq, rfl⟩ := List.mem_map.mp hb
      exact absurd ha (of_decide_eq_true (List.mem_filter.mp hq).2)
    · rcases List.mem_append.mp hq with h | h
      · exact hD.2 q (hcs q h)
      · exact hD.2 q (List.mem_filter.mp h).1
theorem my_same {w : va_W} {k : Nat} {q : Nat × va_E} (h : w[k]? = some q) : w.set k q = w := by
  apply List.ext_getElem?
  intro j
  by_cases e : k = j
  · subst e
    rw [List.getElem?_set_self (List.getElem?_eq_some_iff.mp h).1, h]
  · rw [List.getElem?_set_ne e]

/-- the class in its first frame -/
def FrF (cy : Nat → ClassId) (ad : Nat → Nat) (rw_ : Nat → Nat → Option Nat) (w : va_W) : Prop := ((ad 0, .inr (14, [.ref (ad 1), .int 1, .ref (ad 2), .ref (ad 3), .int 0, .ref (ad 4), .int 11, .int 1, .ref (ad 5), .ref (ad 7), .ref (ad 9), .ref (ad 13), .ref (ad 17)])) ∈ w) ∧ ((ad 1, .inl (cy 4, 16, .inr (.inr (.inr (.inr (rw_ (1))))))) ∈ w) ∧ (∀ j : Nat, j < 16 → rw_ 1 j = some (ad (100 + j))) ∧ ((ad 4, .inl (cy 6, 12, .inr (.inr (.inr (.inr (rw_ (4))))))) ∈ w) ∧ (∀ j : Nat, j < 12 → rw_ 4 j = some (ad (600 + j))) ∧ ((ad 17, .inr (11, [.int 0, .int 0, .int 0])) ∈ w) ∧ (∀ i : Nat, 1 ≤ i → i < 16 → (ad (100 + i), .inr (6, [.int (nI i), .int 104, .int 0, .int 0, .int 0, .int 0, .int 0, .int 117, .null, .int 0, .int (-1), .int 104, .int (-1), .int 0, .int (-1), .int 0, .int 0, .int 0, .ref (ad (120 + i)), .ref (ad (140 + i))])) ∈ w) ∧ (∀ i : Nat, i < 12 → (ad (600 + i), .inr (10, [.int (nI i), .null, .null, .int 98, .int 1, .int (-1), .int 0, .int 0, .int 0, .int 32, .int 0, .ref (ad (620 + i)), .int 0, .int 0])) ∈ w)
theorem frf_hub {cy : Nat → ClassId} {ad : Nat → Nat} {rw_ : Nat → Nat → Option Nat} {w : va_W} (F : FrF cy ad rw_ w) : ∃ k : Nat, w[k]? = some (ad 0, .inr (14, [.ref (ad 1), .int 1, .ref (ad 2), .ref (ad 3), .int 0, .ref (ad 4), .int 11, .int 1, .ref (ad 5), .ref (ad 7), .ref (ad 9), .ref (ad 13), .ref (ad 17)])) := List.mem_iff_getElem?.mp F.1
theorem frf_dv {cy : Nat → ClassId} {ad : Nat → Nat} {rw_ : Nat → Nat → Option Nat} {w : va_W} (F : FrF cy ad rw_ w) : ∃ k : Nat, w[k]? = some (ad 1, .inl (cy 4, 16, .inr (.inr (.inr (.inr (rw_ (1))))))) := List.mem_iff_getElem?.mp F.2.1
theorem frf_dvr {cy : Nat → ClassId} {ad : Nat → Nat} {rw_ : Nat → Nat → Option Nat} {w : va_W} (F : FrF cy ad rw_ w) : ∀ j : Nat, j < 16 → rw_ 1 j = some (ad (100 + j)) := F.2.2.1
theorem frf_pv {cy : Nat → ClassId} {ad : Nat → Nat} {rw_ : Nat → Nat → Option Nat} {w : va_W} (F : FrF cy ad rw_ w) : ∃ k : Nat, w[k]? = some (ad 4, .inl (cy 6, 12, .inr (.inr (.inr (.inr (rw_ (4))))))) := List.mem_iff_getElem?.mp F.2.2.2.1
theorem frf_pvr {cy : Nat → ClassId} {ad : Nat → Nat} {rw_ : Nat → Nat → Option Nat} {w : va_W} (F : FrF cy ad rw_ w) : ∀ j : Nat, j < 12 → rw_ 4 j = some (ad (600 + j)) := F.2.2.2.2.1
theorem frf_sn {cy : Nat → ClassId} {ad : Nat → Nat} {rw_ : Nat → Nat → Option Nat} {w : va_W} (F : FrF cy ad rw_ w) : ∃ k : Nat, w[k]? = some (ad 17, .inr (11, [.int 0, .int 0, .int 0])) := List.mem_iff_getElem?.mp F.2.2.2.2.2.1
theorem frf_di {cy : Nat → ClassId} {ad : Nat → Nat} {rw_ : Nat → Nat → Option Nat} {w : va_W} (F : FrF cy ad rw_ w) : ∀ i : Nat, 1 ≤ i → i < 16 → ∃ k : Nat, w[k]? = some (ad (100 + i), .inr (6, [.int (nI i), .int 104, .int 0, .int 0, .int 0, .int 0, .int 0, .int 117, .null, .int 0, .int (-1), .int 104, .int (-1), .int 0, .int (-1), .int 0, .int 0, .int 0, .ref (ad (120 + i)), .ref (ad (140 + i))])) := fun x0 x1 x2 => List.mem_iff_getElem?.mp (F.2.2.2.2.2.2.1 x0 x1 x2)
theorem frf_pi {cy : Nat → ClassId} {ad : Nat → Nat} {rw_ : Nat → Nat → Option Nat} {w : va_W} (F : FrF cy ad rw_ w) : ∀ i : Nat, i < 12 → ∃ k : Nat, w[k]? = some (ad (600 + i), .inr (10, [.int (nI i), .null, .null, .int 98, .int 1, .int (-1), .int 0, .int 0, .int 0, .int 32, .int 0, .ref (ad (620 + i)), .int 0, .int 0])) := fun x0 x1 => List.mem_iff_getElem?.mp (F.2.2.2.2.2.2.2 x0 x1)

set_option maxRecDepth 100000 in
set_option maxHeartbeats 4000000 in
theorem c_greedyF (l : Launch) (D : va_G) (cy : Nat → ClassId) {ad : Nat → Nat} {rw_ : Nat → Nat → Option Nat} {w : va_W} (F : FrF cy ad rw_ w) : RO l D cy w yX9_shutGreedyDevices wsX9_shutGreedyDevices 0 0 [.ref (ad 0)] none := by
  refine ro_ofW (cc := cX9_shutGreedyDevices) (maxL := 3) (ret := none) (lv := [(0, .ref (ad 0))]) (by decide) rfl (Nat.le_of_ble_eq_true rfl) rfl ?_
  intro p e s m below meth c ls hx hb hr hml hown hlocks hname hts hv hl
  have hown : s.vm.findClass RX9 = some m.cls := hown
  obtain ⟨hP, hK, hN⟩ := hv
  have hS : va_S (fun _ => False) s.heap s.heap [] := va_S.rf
  refine lv_iconst (v := 1) hx hb dX9_shutGreedyDevices_0 (by decide) ?_
  refine lv_istore_n (lv' := [(1, .int 1), (0, .ref (ad 0))]) hx hb dX9_shutGreedyDevices_1 rfl hl (by decide) rfl (fun ls hl => ?_)
  refine ro_loop (w := w) 16 1 (fun i => [(1, .int (nI i)), (0, .ref (ad 0))]) ?_ (by decide) hP hS (lv_sub hl [0, 1] rfl)
  intro i hi1 hi ih_i H locs ls hP hS hl
  refine lv_iload_n hx hb dX9_shutGreedyDevices_2 rfl (lv_at hl 0 rfl) ?_
  refine lv_bipush (v := 16) hx hb dX9_shutGreedyDevices_3 (by decide) ?_
  refine lv_icmp_ge (tgt := 48) hx hb dX9_shutGreedyDevices_5 (by decide) (fun c5 => ?_) (fun c5 => ?_)
  · obtain rfl : i = 16 := my_exit (N := 16) (by decide) (by decide) hi c5
    exact W.vret hx hb hr (fun t ht hW => ⟨rfl, hS.F ht⟩) hS.2.2 dX9_shutGreedyDevices_48
  · have hi : i < 16 := my_cont (N := 16) (by decide) (by decide) hi c5
    refine lv_aload_n hx hb dX9_shutGreedyDevices_8 rfl (lv_at hl 1 rfl) ?_
    obtain ⟨k_1, hk_1⟩ := frf_hub F
    refine va_get (D := D) (ci := 14) (v := .ref (ad 1)) (C := RX9) (T := TX9) (N := 13) hx hb hts iw_X9_shutGreedyDevices_RX9 hown hK hP k_1 hk_1 rfl 0 (by decide) (hts (.fieldLink RX9 11 "Hubcascade" "devices" "[LHubcascade$Device;") (by decide +kernel)) (fun _ h9 => h9) rfl dX9_shutGreedyDevices_9 ?_
    refine lv_iload_n hx hb dX9_shutGreedyDevices_12 rfl (lv_at hl 0 rfl) ?_
    obtain ⟨k_2, hk_2⟩ := frf_dv F
    refine my_ald hx hb hK hP k_2 4 hk_2 rfl (i := nI i) (j := i) (r := ad (100 + i)) rfl hi (by decide) (frf_dvr F i hi) dX9_shutGreedyDevices_13 ?_
    refine lv_astore_n (lv' := [(2, .ref (ad (100 + i))), (1, .int (nI i)), (0, .ref (ad 0))]) hx hb dX9_shutGreedyDevices_14 rfl hl (by decide) rfl (fun ls hl => ?_)
    refine lv_aload_n hx hb dX9_shutGreedyDevices_15 rfl (lv_at hl 0 rfl) ?_
    obtain ⟨k_3, hk_3⟩ := frf_di F i hi1 hi
    refine va_getN (D := D) (ci := 6) (v := .int 117) (C := RX1) (T := TX1) (N := 20) hx hb hts iw_X9_shutGreedyDevices_RX1 hown hK hP k_3 hk_3 rfl 7 (by decide) (va_Nw.use rfl (hN.1 _ nf_38)) (fun _ h9 => h9) rfl dX9_shutGreedyDevices_16 ?_
    refine lv_bipush (v := 99) hx hb dX9_shutGreedyDevices_19 (by decide) ?_
    refine lv_icmp_ne (tgt := 42) hx hb dX9_shutGreedyDevices_21 (by decide) (fun _ => ?_) (fun c => absurd c (by decide))
    refine lv_iinc (v := nI (i + 1)) (lv' := [(1, .int (nI (i + 1))), (2, .ref (ad (100 + i))), (0, .ref (ad 0))]) hx hb dX9_shutGreedyDevices_42 hl (k := 1) rfl (nI_1 _) (by decide) rfl (fun ls hl => ?_)
    refine lv_goto (tgt := 2) hx hb dX9_shutGreedyDevices_45 (by decide) ?_
    exact ih_i hi _ _ _ hP hS (lv_sub hl [0, 2] rfl)

set_option maxRecDepth 100000 in
set_option maxHeartbeats 4000000 in
theorem c_canGoF (l : Launch) (D : va_G) (cy : Nat → ClassId) {ad : Nat → Nat} {rw_ : Nat → Nat → Option Nat} {w : va_W} (F : FrF cy ad rw_ w) (j : Nat) (hj : j < 12) : RO l D cy w yX9_canGo wsX9_canGo 0 0 [.ref (ad 0), .ref (ad (600 + j))] (some (.int 0)) := by
  refine ro_ofW (cc := cX9_canGo) (maxL := 6) (ret := (some .boolean)) (lv := [(0, .ref (ad 0)), (1, .ref (ad (600 + j)))]) (by decide) rfl (Nat.le_of_ble_eq_true rfl) rfl ?_
  intro p e s m below meth c ls hx hb hr hml hown hlocks hname hts hv hl
  have hown : s.vm.findClass RX9 = some m.cls := hown
  obtain ⟨hP, hK, hN⟩ := hv
  have hS : va_S (fun _ => False) s.heap s.heap [] := va_S.rf
  refine lv_aload_n hx hb dX9_canGo_0 rfl (lv_at hl 1 rfl) ?_
  obtain ⟨k_1, hk_1⟩ := frf_pi F j hj
  refine va_getN (D := D) (ci := 10) (v := .null) (C := RX5) (T := TX5) (N := 14) hx hb hts iw_X9_canGo_RX5 hown hK hP k_1 hk_1 rfl 1 (by decide) (va_Nw.use rfl (hN.1 _ nf_65)) (fun _ h9 => h9) rfl dX9_canGo_1 ?_
  refine lv_astore_nN (lv' := [(2, .null), (0, .ref (ad 0)), (1, .ref (ad (600 + j)))]) hx hb dX9_canGo_4 rfl hl (by decide) rfl (fun ls hl => ?_)
  refine lv_aload_n hx hb dX9_canGo_5 rfl (lv_at hl 2 rfl) ?_
  refine va_getN (D := D) (ci := 10) (v := .null) (C := RX5) (T := TX5) (N := 14) hx hb hts iw_X9_canGo_RX5 hown hK hP k_1 hk_1 rfl 2 (by decide) (va_Nw.use rfl (hN.1 _ nf_66)) (fun _ h9 => h9) rfl dX9_canGo_6 ?_
  refine lv_astore_nN (lv' := [(3, .null), (2, .null), (0, .ref (ad 0)), (1, .ref (ad (600 + j)))]) hx hb dX9_canGo_9 rfl hl (by decide) rfl (fun ls hl => ?_)
  refine lv_aload_nN hx hb dX9_canGo_10 rfl (lv_at hl 1 rfl) ?_
  refine lv_ifnullN (tgt := 32) hx hb dX9_canGo_11 (by decide) ?_
  refine lv_iconst (v := 0) hx hb dX9_canGo_32 (by decide) ?_
  exact W.zret hx hb hr (by decide) (fun t ht hW => ⟨rfl, hS.F ht⟩) hS.2.2 dX9_canGo_33

set_option maxRecDepth 100000 in
set_option maxHeartbeats 4000000 in
theorem c_nextBulkF (l : Launch) (D : va_G) (cy : Nat → ClassId) {ad : Nat → Nat} {rw_ : Nat → Nat → Option Nat} {w : va_W} (F : FrF cy ad rw_ w) : RO l D cy w yX9_nextBulkPipe wsX9_nextBulkPipe 1 25 [.ref (ad 0)] (some (.null)) := by
  refine ro_ofW (cc := cX9_nextBulkPipe) (maxL := 3) (ret := (some (.object "Hubcascade$Pipe"))) (lv := [(0, .ref (ad 0))]) (by decide) rfl (Nat.le_of_ble_eq_true rfl) rfl ?_
  intro p e s m below meth c ls hx hb hr hml hown hlocks hname hts hv hl
  have hown : s.vm.findClass RX9 = some m.cls := hown
  obtain ⟨hP, hK, hN⟩ := hv
  have hS : va_S (fun _ => False) s.heap s.heap [] := va_S.rf
  refine lv_iconst (v := 1) hx hb dX9_nextBulkPipe_0 (by decide) ?_
  refine lv_istore_n (lv' := [(1, .int 1), (0, .ref (ad 0))]) hx hb dX9_nextBulkPipe_1 rfl hl (by decide) rfl (fun ls hl => ?_)
  refine ro_loop (w := w) 13 1 (fun i => [(1, .int (nI i)), (0, .ref (ad 0))]) ?_ (by decide) hP hS (lv_sub hl [0, 1] rfl)
  intro i hi1 hi ih_i H locs ls hP hS hl
  refine lv_iload_n hx hb dX9_nextBulkPipe_2 rfl (lv_at hl 0 rfl) ?_
  refine lv_bipush (v := 12) hx hb dX9_nextBulkPipe_3 (by decide) ?_
  refine lv_icmp_gt (tgt := 55) hx hb dX9_nextBulkPipe_5 (by decide) (fun c5 => ?_) (fun c5 => ?_)
  · obtain rfl : i = 13 := my_exitgt (N := 12) (by decide) (by decide) hi c5
    refine lv_null hx hb dX9_nextBulkPipe_55 ?_
    exact W.aret hx hb hr (Or.inl ⟨_, rfl⟩) (Or.inl rfl) (fun t ht hW => ⟨rfl, hS.F ht⟩) hS.2.2 dX9_nextBulkPipe_56
  · have hi : i < 13 := my_contgt (N := 12) (by decide) (by decide) hi c5
    refine lv_aload_n hx hb dX9_nextBulkPipe_8 rfl (lv_at hl 1 rfl) ?_
    obtain ⟨k_1, hk_1⟩ := frf_hub F
    refine va_get (D := D) (ci := 14) (v := .ref (ad 4)) (C := RX9) (T := TX9) (N := 13) hx hb hts iw_X9_nextBulkPipe_RX9 hown hK hP k_1 hk_1 rfl 5 (by decide) (hts (.fieldLink RX9 24 "Hubcascade" "pipes" "[LHubcascade$Pipe;") (by decide +kernel)) (fun _ h9 => h9) rfl dX9_nextBulkPipe_9 ?_
    refine lv_aload_n hx hb dX9_nextBulkPipe_12 rfl (lv_at hl 1 rfl) ?_
    refine va_get (D := D) (ci := 14) (v := .int 11) (C := RX9) (T := TX9) (N := 13) hx hb hts iw_X9_nextBulkPipe_RX9 hown hK hP k_1 hk_1 rfl 6 (by decide) (hts (.fieldLink RX9 28 "Hubcascade" "lastTurn" "I") (by decide +kernel)) (fun _ h9 => h9) rfl dX9_nextBulkPipe_13 ?_
    refine lv_iload_n hx hb dX9_nextBulkPipe_16 rfl (lv_at hl 0 rfl) ?_
    refine lv_iadd hx hb dX9_nextBulkPipe_17 ?_
    refine lv_topi (fun y ey => ?_)
    obtain rfl : y = nI (11 + i) := ey.trans (nI_add 11 i)
    refine lv_bipush (v := 12) hx hb dX9_nextBulkPipe_18 (by decide) ?_
    refine lv_irem hx hb dX9_nextBulkPipe_20 (by decide) ?_
    obtain ⟨j, hj, ej⟩ : ∃ j, j < 12 ∧ (11 + i) % 12 = j := ⟨_, Nat.mod_lt _ (by decide), rfl⟩
    refine lv_topi (fun y ey => ?_)
    obtain rfl : y = nI j := ey.trans ((pk_rem (by omega) (by decide) (by decide)).trans (by rw [ej]))
    obtain ⟨k_2, hk_2⟩ := frf_pv F
    refine my_ald hx hb hK hP k_2 6 hk_2 rfl (i := nI j) (j := j) (r := ad (600 + j)) rfl hj (by decide) (frf_pvr F j hj) dX9_nextBulkPipe_21 ?_
    refine lv_astore_n (lv' := [(2, .ref (ad (600 + j))), (1, .int (nI i)), (0, .ref (ad 0))]) hx hb dX9_nextBulkPipe_22 rfl hl (by decide) rfl (fun ls hl => ?_)
    refine lv_aload_n hx hb dX9_nextBulkPipe_23 rfl (lv_at hl 0 rfl) ?_
    obtain ⟨k_3, hk_3⟩ := frf_pi F j hj
    refine va_getN (D := D) (ci := 10) (v := .int 98) (C := RX5) (T := TX5) (N := 14) hx hb hts iw_X9_nextBulkPipe_RX5 hown hK hP k_3 hk_3 rfl 3 (by decide) (va_Nw.use rfl (hN.1 _ nf_67)) (fun _ h9 => h9) rfl dX9_nextBulkPipe_24 ?_
    refine lv_bipush (v := 98) hx hb dX9_nextBulkPipe_27 (by decide) ?_
    refine lv_icmp_ne (tgt := 49) hx hb dX9_nextBulkPipe_29 (by decide) (fun c => absurd (by decide) c) (fun _ => ?_)
    refine lv_aload_n hx hb dX9_nextBulkPipe_32 rfl (lv_at hl 0 rfl) ?_
    refine va_getN (D := D) (ci := 10) (v := .int 0) (C := RX5) (T := TX5) (N := 14) hx hb hts iw_X9_nextBulkPipe_RX5 hown hK hP k_3 hk_3 rfl 10 (by decide) (va_Nw.use rfl (hN.1 _ nf_74)) (fun _ h9 => h9) rfl dX9_nextBulkPipe_33 ?_
    refine lv_if_ne (tgt := 49) hx hb dX9_nextBulkPipe_36 (by decide) (fun c => absurd (by decide) c) (fun _ => ?_)
    refine lv_aload_n hx hb dX9_nextBulkPipe_39 rfl (lv_at hl 2 rfl) ?_
    refine lv_aload_n hx hb dX9_nextBulkPipe_40 rfl (lv_at hl 0 rfl) ?_
    refine ro_callV (As := [.ref (ad (600 + j))]) (rest := []) ⟨hx, hb, hml, hown, hts⟩ (c_canGoF l D cy F j hj) (cwV 1 hts gX9_nextBulkPipe_X9_canGo rfl rfl rfl (by decide +kernel) ⟨by decide, by decide⟩) hK hN hP hS (ci := 14) rfl hk_1 rfl rfl hl.1 rfl (Nat.le_of_ble_eq_true rfl) dX9_nextBulkPipe_41 ⟨Nat.le_of_ble_eq_true rfl, Nat.le_of_ble_eq_true rfl⟩ (fun H locs hP hS => ?_)
    refine lv_if_eq (tgt := 49) hx hb dX9_nextBulkPipe_44 (by decide) (fun _ => ?_) (fun c => absurd (by decide) c)
    refine lv_iinc (v := nI (i + 1)) (lv' := [(1, .int (nI (i + 1))), (2, .ref (ad (600 + j))), (0, .ref (ad 0))]) hx hb dX9_nextBulkPipe_49 hl (k := 1) rfl (nI_1 _) (by decide) rfl (fun ls hl => ?_)
    refine lv_goto (tgt := 2) hx hb dX9_nextBulkPipe_52 (by decide) ?_
    exact ih_i hi _ _ _ hP hS (lv_sub hl [0, 2] rfl)

set_option maxRecDepth 100000 in
set_option maxHeartbeats 4000000 in
theorem c_isDueInF (l : Launch) (D : va_G) (cy : Nat → ClassId) {ad : Nat → Nat} {rw_ : Nat → Nat → Option Nat} {w : va_W} (F : FrF cy ad rw_ w) (j : Nat) (hj : j < 12) : RO l D cy w yX5_isDueIn wsX5_isDueIn 0 0 [.ref (ad (600 + j)), .int 1] (some (.int 0)) := by
  refine ro_ofW (cc := cX5_isDueIn) (maxL := 2) (ret := (some .boolean)) (lv := [(0, .ref (ad (600 + j))), (1, .int 1)]) (by decide) rfl (Nat.le_of_ble_eq_true rfl) rfl ?_
  intro p e s m below meth c ls hx hb hr hml hown hlocks hname hts hv hl
  have hown : s.vm.findClass RX5 = some m.cls := hown
  obtain ⟨hP, hK, hN⟩ := hv
  have hS : va_S (fun _ => False) s.heap s.heap [] := va_S.rf
  refine lv_iload_n hx hb dX5_isDueIn_0 rfl (lv_at hl 1 rfl) ?_
  refine lv_aload_n hx hb dX5_isDueIn_1 rfl (lv_at hl 0 rfl) ?_
  obtain ⟨k_1, hk_1⟩ := frf_pi F j hj
  refine va_get (D := D) (ci := 10) (v := .int 1) (C := RX5) (T := TX5) (N := 14) hx hb hts iw_X5_isDueIn_RX5 hown hK hP k_1 hk_1 rfl 4 (by decide) (hts (.fieldLink RX5 15 "Hubcascade$Pipe" "interval" "I") (by decide +kernel)) (fun _ h9 => h9) rfl dX5_isDueIn_2 ?_
  refine lv_iconst (v := 1) hx hb dX5_isDueIn_5 (by decide) ?_
  refine lv_isub hx hb dX5_isDueIn_6 ?_
  refine lv_topi (fun y ey => ?_)
  obtain rfl : y = 0 := ey.trans (by decide)
  refine lv_iand hx hb dX5_isDueIn_7 ?_
  refine lv_topi (fun y ey => ?_)
  obtain rfl : y = 0 := ey.trans (by decide)
  refine lv_aload_n hx hb dX5_isDueIn_8 rfl (lv_at hl 0 rfl) ?_
  refine va_get (D := D) (ci := 10) (v := .int (-1)) (C := RX5) (T := TX5) (N := 14) hx hb hts iw_X5_isDueIn_RX5 hown hK hP k_1 hk_1 rfl 5 (by decide) (hts (.fieldLink RX5 19 "Hubcascade$Pipe" "phase" "I") (by decide +kernel)) (fun _ h9 => h9) rfl dX5_isDueIn_9 ?_
  refine lv_icmp_ne (tgt := 19) hx hb dX5_isDueIn_12 (by decide) (fun _ => ?_) (fun c => absurd c (by decide))
  refine lv_iconst (v := 0) hx hb dX5_isDueIn_19 (by decide) ?_
  exact W.zret hx hb hr (by decide) (fun t ht hW => ⟨rfl, hS.F ht⟩) hS.2.2 dX5_isDueIn_20

theorem iw_X8_beginFrame_RX8 : ∀ w ∈ u_ws RX8 TX8 5, w ∈ wsX8_beginFrame := by decide +kernel
set_option maxRecDepth 100000 in
set_option maxHeartbeats 4000000 in
theorem m_begin (l : Launch) (D : va_G) (cy : Nat → ClassId) (u a1 b1 c1 : Nat) (sz : Nat) : ME l D cy ([(u, .inr (13, [.ref a1, .ref b1, .int 0, .ref c1, .int 0])), (c1, .inl (cy 0, 16, .inl (fun _ => 0)))]) sz yX8_beginFrame wsX8_beginFrame 0 0 0 0 [.ref u] none (fun H => ∃ (f : Nat → Int32), va_P D vwCl ([(u, .inr (13, [.ref a1, .ref b1, .int 100, .ref c1, .int 0])), (c1, .inl (cy 0, 16, .inl (f)))]) H ∧ va_D (va_A ([(u, .inr (13, [.ref a1, .ref b1, .int 0, .ref c1, .int 0])), (c1, .inl (cy 0, 16, .inl (fun _ => 0)))]) sz) ([(u, .inr (13, [.ref a1, .ref b1, .int 100, .ref c1, .int 0])), (c1, .inl (cy 0, 16, .inl (f)))])) := by
  refine ro_ofW (cc := cX8_beginFrame) (maxL := 2) (ret := none) (lv := [(0, .ref u)]) (by decide) rfl (Nat.le_of_ble_eq_true rfl) rfl ?_
  intro p e s m below meth c ls hx hb hr hml hown hlocks hname hts hv hl
  have hown : s.vm.findClass RX8 = some m.cls := hown
  obtain ⟨⟨hsz, hP, hD0⟩, hK, hN⟩ := hv
  subst hsz
  have hD := hD0.self (sz := s.heap.size)
  generalize hAe : va_A ([(u, .inr (13, [.ref a1, .ref b1, .int 0, .ref c1, .int 0])), (c1, .inl (cy 0, 16, .inl (fun _ => 0)))]) s.heap.size = A at hD ⊢
  have hA : ∀ q : Nat, s.heap.size ≤ q → A q := fun q h => by rw [← hAe]; exact Or.inr h
  have hS : va_S A s.heap s.heap [] := va_S.rf
  refine lv_aload_n hx hb dX8_beginFrame_0 rfl (lv_at hl 0 rfl) ?_
  refine lv_bipush (v := 100) hx hb dX8_beginFrame_1 (by decide) ?_
  refine va_put (D := D) (ci := 13) (v := .int 100) (ty := .int) (C := RX8) (T := TX8) (N := 5) hx hb hts iw_X8_beginFrame_RX8 tyX8 tyX8_ok nmX8 hown hK hP hD hS 0 rfl rfl 2 (by decide) (hts (.fieldLink RX8 21 "Hubcascade$Units" "hostLeft" "I") (by decide +kernel)) (fun _ h9 => h9) rfl (by decide +kernel) rfl rfl (Nat.le_of_ble_eq_true rfl) dX8_beginFrame_3 (fun H locs hP hD hS => ?_)
  have hP : va_P D vwCl ([(u, .inr (13, [.ref a1, .ref b1, .int 100, .ref c1, .int 0])), (c1, .inl (cy 0, 16, .inl (fun _ => 0)))]) H := hP
  have hD : va_D A ([(u, .inr (13, [.ref a1, .ref b1, .int 100, .ref c1, .int 0])), (c1, .inl (cy 0, 16, .inl (fun _ => 0)))]) := hD
  refine lv_iconst (v := 0) hx hb dX8_beginFrame_6 (by decide) ?_
  refine lv_istore_n (lv' := [(1, .int 0), (0, .ref u)]) hx hb dX8_beginFrame_7 rfl hl (by decide) rfl (fun ls hl => ?_)
  refine al_loop (D := D) 16 (fun i => [(1, .int (nI i)), (0, .ref u)]) (fun f : Nat → Int32 => [(u, .inr (13, [.ref a1, .ref b1, .int 100, .ref c1, .int 0])), (c1, .inl (cy 0, 16, .inl (f)))]) (fun _ _ => True) 0 0 0 0 (fun _ => 0) ?_ trivial hP hD hS (lv_sub hl [0, 1] rfl)
  intro i f hi hI ih H locs ls hP hD hS hl
  refine W.cs (cells' := 0) (slots' := 0) (by omega) (by omega) ?_
  have hP : va_P D vwCl [(u, .inr (13, [.ref a1, .ref b1, .int 100, .ref c1, .int 0])), (c1, .inl (cy 0, 16, .inl (f)))] H := hP
  have hD : va_D A [(u, .inr (13, [.ref a1, .ref b1, .int 100, .ref c1, .int 0])), (c1, .inl (cy 0, 16, .inl (f)))] := hD
  refine lv_iload_n hx hb dX8_beginFrame_8 rfl (lv_at hl 0 rfl) ?_
  refine lv_bipush (v := 16) hx hb dX8_beginFrame_9 (by decide) ?_
  refine lv_icmp_ge (tgt := 28) hx hb dX8_beginFrame_11 (by decide) (fun c11 => ?_) (fun c11 => ?_)
  · exact W.vret hx hb hr (fun t ht hW => ⟨rfl, ⟨f, by rw [ht]; exact hP, hD⟩, hS.F ht⟩) hS.2.2 dX8_beginFrame_28
  · have hi : i < 16 := my_cont (N := 16) (by decide) (by decide) hi c11
    refine lv_aload_n hx hb dX8_beginFrame_14 rfl (lv_at hl 1 rfl) ?_
    refine va_get (D := D) (ci := 13) (v := .ref c1) (C := RX8) (T := TX8) (N := 5) hx hb hts iw_X8_beginFrame_RX8 hown hK hP 0 rfl rfl 3 (by decide) (hts (.fieldLink RX8 18 "Hubcascade$Units" "hubsLeft" "[I") (by decide +kernel)) (fun _ h9 => h9) rfl dX8_beginFrame_15 ?_
    refine lv_iload_n hx hb dX8_beginFrame_18 rfl (lv_at hl 0 rfl) ?_
    refine lv_bipush (v := 60) hx hb dX8_beginFrame_19 (by decide) ?_
    refine va_iast hx hb hK hP hD hS 1 0 rfl rfl (vp_in_nI hi (by decide)) dX8_beginFrame_21 (fun H locs hP hD hS => ?_)
    refine lv_iinc (v := nI (i + 1)) (lv' := [(1, .int (nI (i + 1))), (0, .ref u)]) hx hb dX8_beginFrame_22 hl (k := 0) rfl (nI_1 _) (by decide) rfl (fun ls hl => ?_)
    refine lv_goto (tgt := 8) hx hb dX8_beginFrame_25 (by decide) ?_
    refine W.cs (cells' := 0 + 0 * (i + 1)) (slots' := 0 + 0 * (i + 1)) (by omega) (by omega) ?_
    exact ih hi _ _ _ _ trivial hP hD hS hl

theorem iw_X9_frame_RX5 : ∀ w ∈ u_ws RX5 TX5 14, w ∈ wsX9_frame := by decide +kernel
theorem iw_X9_frame_RX6 : ∀ w ∈ u_ws RX6 TX6 3, w ∈ wsX9_frame := by decide +kernel
theorem iw_X9_frame_RX9 : ∀ w ∈ u_ws RX9 TX9 13, w ∈ wsX9_frame := by decide +kernel
set_option maxRecDepth 100000 in
set_option maxHeartbeats 8000000 in
theorem m_frame_ok (l : Launch) (D : va_G) (cy : Nat → ClassId) {ad : Nat → Nat} {rw_ : Nat → Nat → Option Nat} {w : va_W} (F : FrC cy ad rw_ w) (sz : Nat) : ME l D cy w sz yX9_frame wsX9_frame 2 0 0 47 [.ref (ad 0)] (some (.int 0)) (fun _ => True) := by
  refine ro_ofW (cc := cX9_frame) (maxL := 4) (ret := (some .int)) (lv := [(0, .ref (ad 0))]) (by decide) rfl (Nat.le_of_ble_eq_true rfl) rfl ?_
  intro p e s m below meth c ls hx hb hr hml hown hlocks hname hts hv hl
  have hown : s.vm.findClass RX9 = some m.cls := hown
  obtain ⟨⟨hsz, hP, hD0⟩, hK, hN⟩ := hv
  subst hsz
  have hD := hD0.self (sz := s.heap.size)
  generalize hAe : va_A w s.heap.size = A at hD ⊢
  have hA : ∀ q : Nat, s.heap.size ≤ q → A q := fun q h => by rw [← hAe]; exact Or.inr h
  have hS : va_S A s.heap s.heap [] := va_S.rf
  obtain ⟨k0, hk0⟩ := frc_hub F
  obtain ⟨ku, hku⟩ := frc_un F
  obtain ⟨kl, hkl⟩ := frc_ul F
  obtain ⟨ksn, hksn⟩ := frc_sn F
  have m0 := List.mem_of_getElem? hk0
  have mu := List.mem_of_getElem? hku
  have ml := List.mem_of_getElem? hkl
  have n1 : ad 0 ≠ ad 9 := my_ne hD m0 mu (fun z => absurd (congrArg my_cid z) (by show ¬ (14 : Nat) = 13; decide))
  have n2 : ad 0 ≠ ad 12 := my_ne hD m0 ml (fun z => absurd (congrArg my_knd z) (by show ¬ (2 : Nat) = 0; decide))
  have n3 : ad 9 ≠ ad 12 := my_ne hD mu ml (fun z => absurd (congrArg my_knd z) (by show ¬ (2 : Nat) = 0; decide))
  have out : ∀ (b : Nat) (c : va_E), (b, c) ∈ w → my_cid c ≠ 14 → my_cid c ≠ 13 → my_knd c ≠ 0 → b ∉ ([(ad 0, .inr (14, [.ref (ad 1), .int 1, .ref (ad 2), .ref (ad 3), .int 0, .ref (ad 4), .int 11, .int 0, .ref (ad 5), .ref (ad 7), .ref (ad 9), .ref (ad 13), .ref (ad 17)])), (ad 9, .inr (13, [.ref (ad 10), .ref (ad 11), .int 0, .ref (ad 12), .int 0])), (ad 12, .inl (cy 0, 16, .inl (fun _ => 0)))] : va_W).map Prod.fst := by
    intro b c hm h1 h2 h3 hb
    have e1 := my_ne hD hm m0 (fun z => h1 (by rw [z]; rfl))
    have e2 := my_ne hD hm mu (fun z => h2 (by rw [z]; rfl))
    have e3 := my_ne hD hm ml (fun z => h3 (by rw [z]; rfl))
    simp only [List.map_cons, List.map_nil, List.mem_cons, List.not_mem_nil, or_false] at hb
    rcases hb with z | z | z
    · exact e1 z
    · exact e2 z
    · exact e3 z
  obtain ⟨wt, hP, hD, hwt⟩ := my_pull hP hD [(ad 0, .inr (14, [.ref (ad 1), .int 1, .ref (ad 2), .ref (ad 3), .int 0, .ref (ad 4), .int 11, .int 0, .ref (ad 5), .ref (ad 7), .ref (ad 9), .ref (ad 13), .ref (ad 17)])), (ad 9, .inr (13, [.ref (ad 10), .ref (ad 11), .int 0, .ref (ad 12), .int 0])), (ad 12, .inl (cy 0, 16, .inl (fun _ => 0)))] (by
    intro q hq
    simp only [List.mem_cons, List.not_mem_nil, or_false] at hq
    rcases hq with rfl | rfl | rfl
    · exact m0
    · exact mu
    · exact ml)
    (by simp [n1, n2, n3])
  have hP : va_P D vwCl ([(ad 0, .inr (14, [.ref (ad 1), .int 1, .ref (ad 2), .ref (ad 3), .int 0, .ref (ad 4), .int 11, .int 0, .ref (ad 5), .ref (ad 7), .ref (ad 9), .ref (ad 13), .ref (ad 17)])), (ad 9, .inr (13, [.ref (ad 10), .ref (ad 11), .int 0, .ref (ad 12), .int 0])), (ad 12, .inl (cy 0, 16, .inl (fun _ => 0)))] ++ wt) s.heap := hP
  have FT : ∀ (L : va_W), (ad 0, .inr (14, [.ref (ad 1), .int 1, .ref (ad 2), .ref (ad 3), .int 0, .ref (ad 4), .int 11, .int 1, .ref (ad 5), .ref (ad 7), .ref (ad 9), .ref (ad 13), .ref (ad 17)])) ∈ L → (∀ q ∈ wt, q ∈ L) → FrF cy ad rw_ L := by
    intro L hh hL
    have hin : ∀ (b : Nat) (c : va_E), (b, c) ∈ w → my_cid c ≠ 14 → my_cid c ≠ 13 → my_knd c ≠ 0 → (b, c) ∈ L := fun b c h1 h2 h3 h4 => hL _ (hwt _ h1 (out b c h1 h2 h3 h4))
    have gg : ∀ {c : va_E} {b : Nat}, (∃ k : Nat, w[k]? = some (b, c)) → (b, c) ∈ w := fun ⟨k, hk⟩ => List.mem_of_getElem? hk
    exact ⟨hh, hin _ _ (gg (frc_dv F)) (by show ¬ (1016 : Nat) = 14; decide) (by show ¬ (1016 : Nat) = 13; decide) (by show ¬ (1 : Nat) = 0; decide), frc_dvr F, hin _ _ (gg (frc_pv F)) (by show ¬ (1012 : Nat) = 14; decide) (by show ¬ (1012 : Nat) = 13; decide) (by show ¬ (1 : Nat) = 0; decide), frc_pvr F, hin _ _ (gg (frc_sn F)) (by show ¬ (11 : Nat) = 14; decide) (by show ¬ (11 : Nat) = 13; decide) (by show ¬ (2 : Nat) = 0; decide), fun i h1 h2 => hin _ _ (gg (frc_di F i h1 h2)) (by show ¬ (6 : Nat) = 14; decide) (by show ¬ (6 : Nat) = 13; decide) (by show ¬ (2 : Nat) = 0; decide), fun i h1 => hin _ _ (gg (frc_pi F i h1)) (by show ¬ (10 : Nat) = 14; decide) (by show ¬ (10 : Nat) = 13; decide) (by show ¬ (2 : Nat) = 0; decide)⟩
  have msn : (ad 17, .inr (11, [.int 0, .int 0, .int 0])) ∈ wt := hwt _ (List.mem_of_getElem? hksn) (out _ _ (List.mem_of_getElem? hksn) (by show ¬ (11 : Nat) = 14; decide) (by show ¬ (11 : Nat) = 13; decide) (by show ¬ (2 : Nat) = 0; decide))
  obtain ⟨kt, hkt⟩ := List.mem_iff_getElem?.mp (List.mem_append_right [(ad 0, .inr (14, [.ref (ad 1), .int 1, .ref (ad 2), .ref (ad 3), .int 0, .ref (ad 4), .int 11, .int 0, .ref (ad 5), .ref (ad 7), .ref (ad 9), .ref (ad 13), .ref (ad 17)])), (ad 9, .inr (13, [.ref (ad 10), .ref (ad 11), .int 0, .ref (ad 12), .int 0])), (ad 12, .inl (cy 0, 16, .inl (fun _ => 0)))] msn)
  refine lv_aload_n hx hb dX9_frame_0 rfl (lv_at hl 0 rfl) ?_
  refine va_get (D := D) (ci := 14) (v := .ref (ad 17)) (C := RX9) (T := TX9) (N := 13) hx hb hts iw_X9_frame_RX9 hown hK hP 0 rfl rfl 12 (by decide) (hts (.fieldLink RX9 59 "Hubcascade" "sniffer" "LHubcascade$Sniffer;") (by decide +kernel)) (fun _ h9 => h9) rfl dX9_frame_1 ?_
  refine va_getN (D := D) (ci := 11) (v := .int 0) (C := RX6) (T := TX6) (N := 3) hx hb hts iw_X9_frame_RX6 hown hK hP kt hkt rfl 0 (by decide) (va_Nw.use rfl (hN.1 _ nf_13)) (fun _ h9 => h9) rfl dX9_frame_4 ?_
  refine lv_istore_n (lv' := [(1, .int 0), (0, .ref (ad 0))]) hx hb dX9_frame_7 rfl hl (by decide) rfl (fun ls hl => ?_)
  refine lv_aload_n hx hb dX9_frame_8 rfl (lv_at hl 1 rfl) ?_
  refine lv_dup hx hb dX9_frame_9 rfl ?_
  refine va_get (D := D) (ci := 14) (v := .int 0) (C := RX9) (T := TX9) (N := 13) hx hb hts iw_X9_frame_RX9 hown hK hP 0 rfl rfl 7 (by decide) (hts (.fieldLink RX9 252 "Hubcascade" "frames" "I") (by decide +kernel)) (fun _ h9 => h9) rfl dX9_frame_10 ?_
  refine lv_iconst (v := 1) hx hb dX9_frame_13 (by decide) ?_
  refine lv_iadd hx hb dX9_frame_14 ?_
  refine lv_topi (fun y ey => ?_)
  obtain rfl : y = 1 := ey.trans (by decide)
  refine va_put (D := D) (ci := 14) (v := .int 1) (ty := .int) (C := RX9) (T := TX9) (N := 13) hx hb hts iw_X9_frame_RX9 tyX9 tyX9_ok nmX9 hown hK hP hD hS 0 rfl rfl 7 (by decide) (hts (.fieldLink RX9 252 "Hubcascade" "frames" "I") (by decide +kernel)) (fun _ h9 => h9) rfl (by decide +kernel) rfl rfl (Nat.le_of_ble_eq_true rfl) dX9_frame_15 (fun H locs hP hD hS => ?_)
  have hP : va_P D vwCl ([(ad 0, .inr (14, [.ref (ad 1), .int 1, .ref (ad 2), .ref (ad 3), .int 0, .ref (ad 4), .int 11, .int 1, .ref (ad 5), .ref (ad 7), .ref (ad 9), .ref (ad 13), .ref (ad 17)])), (ad 9, .inr (13, [.ref (ad 10), .ref (ad 11), .int 0, .ref (ad 12), .int 0])), (ad 12, .inl (cy 0, 16, .inl (fun _ => 0)))] ++ wt) H := hP
  have hD : va_D A ([(ad 0, .inr (14, [.ref (ad 1), .int 1, .ref (ad 2), .ref (ad 3), .int 0, .ref (ad 4), .int 11, .int 1, .ref (ad 5), .ref (ad 7), .ref (ad 9), .ref (ad 13), .ref (ad 17)])), (ad 9, .inr (13, [.ref (ad 10), .ref (ad 11), .int 0, .ref (ad 12), .int 0])), (ad 12, .inl (cy 0, 16, .inl (fun _ => 0)))] ++ wt) := hD
  have hD : va_D A (((ad 0, .inr (14, [.ref (ad 1), .int 1, .ref (ad 2), .ref (ad 3), .int 0, .ref (ad 4), .int 11, .int 1, .ref (ad 5), .ref (ad 7), .ref (ad 9), .ref (ad 13), .ref (ad 17)])) :: wt) ++ [(ad 9, .inr (13, [.ref (ad 10), .ref (ad 11), .int 0, .ref (ad 12), .int 0])), (ad 12, .inl (cy 0, 16, .inl (fun _ => 0)))]) := hD.perm (List.Perm.cons _ (List.perm_append_comm (l₁ := [(ad 9, .inr (13, [.ref (ad 10), .ref (ad 11), .int 0, .ref (ad 12), .int 0])), (ad 12, .inl (cy 0, 16, .inl (fun _ => 0)))]) (l₂ := wt)))
  have hP : va_P D vwCl (((ad 0, .inr (14, [.ref (ad 1), .int 1, .ref (ad 2), .ref (ad 3), .int 0, .ref (ad 4), .int 11, .int 1, .ref (ad 5), .ref (ad 7), .ref (ad 9), .ref (ad 13), .ref (ad 17)])) :: wt) ++ [(ad 9, .inr (13, [.ref (ad 10), .ref (ad 11), .int 0, .ref (ad 12), .int 0])), (ad 12, .inl (cy 0, 16, .inl (fun _ => 0)))]) H := hP.mem (fun q hq => (List.Perm.cons _ (List.perm_append_comm (l₁ := [(ad 9, .inr (13, [.ref (ad 10), .ref (ad 11), .int 0, .ref (ad 12), .int 0])), (ad 12, .inl (cy 0, 16, .inl (fun _ => 0)))]) (l₂ := wt))).mem_iff.mpr hq)
  refine lv_aload_n hx hb dX9_frame_18 rfl (lv_at hl 1 rfl) ?_
  refine va_get (D := D) (ci := 14) (v := .ref (ad 9)) (C := RX9) (T := TX9) (N := 13) hx hb hts iw_X9_frame_RX9 hown hK hP 0 rfl rfl 10 (by decide) (hts (.fieldLink RX9 45 "Hubcascade" "units" "LHubcascade$Units;") (by decide +kernel)) (fun _ h9 => h9) rfl dX9_frame_19 ?_
  refine me_callVN (wr := (ad 0, .inr (14, [.ref (ad 1), .int 1, .ref (ad 2), .ref (ad 3), .int 0, .ref (ad 4), .int 11, .int 1, .ref (ad 5), .ref (ad 7), .ref (ad 9), .ref (ad 13), .ref (ad 17)])) :: wt) (wc := [(ad 9, .inr (13, [.ref (ad 10), .ref (ad 11), .int 0, .ref (ad 12), .int 0])), (ad 12, .inl (cy 0, 16, .inl (fun _ => 0)))]) (As := []) (rest := []) ⟨hx, hb, hml, hown, hts⟩ (m_begin l D cy (ad 9) (ad 10) (ad 11) (ad 12) _) ⟨va_cnB 0 hts gX9_frame_X8_beginFrame_n421 rfl rfl rfl (hN.1 _ nf_126) (hts (.initialized RX8) (by decide +kernel)) (by decide +kernel) ⟨by decide, by decide⟩, hts (.instanceMethod yX8_beginFrame) (by decide +kernel), hts (.selects RX8 yX8_beginFrame yX8_beginFrame) (by decide +kernel)⟩ hK hN hP hD hS hA (ci := 13) (q0 := 0) rfl rfl rfl rfl hl.1 rfl (Nat.le_of_ble_eq_true rfl) dX9_frame_22 ⟨Nat.le_of_ble_eq_true rfl, Nat.le_of_ble_eq_true rfl⟩ (fun H locs hB hJ hS => ?_)
  obtain ⟨f, hP1, hD1⟩ := hB
  obtain ⟨hP, hD⟩ := hJ _ hP1 hD1
  obtain ⟨L, eL⟩ : ∃ z, z = ((ad 0, .inr (14, [.ref (ad 1), .int 1, .ref (ad 2), .ref (ad 3), .int 0, .ref (ad 4), .int 11, .int 1, .ref (ad 5), .ref (ad 7), .ref (ad 9), .ref (ad 13), .ref (ad 17)])) :: wt) ++ [(ad 9, .inr (13, [.ref (ad 10), .ref (ad 11), .int 100, .ref (ad 12), .int 0])), (ad 12, .inl (cy 0, 16, .inl (f)))] := ⟨_, rfl⟩
  have hP : va_P D vwCl L H := by rw [eL]; exact hP
  have hD : va_D A L := by rw [eL]; exact hD
  have F : FrF cy ad rw_ L := FT L (by rw [eL]; exact List.mem_cons_self) (fun q hq => by rw [eL]; exact List.mem_append_left _ (List.mem_cons_of_mem _ hq))
  refine W.cs (cells' := 0) (slots' := 0) rfl rfl ?_
  refine lv_aload_n hx hb dX9_frame_25 rfl (lv_at hl 1 rfl) ?_
  obtain ⟨k_1, hk_1⟩ := frf_hub F
  refine ro_callV (As := []) (rest := []) ⟨hx, hb, hml, hown, hts⟩ (c_greedyF l D cy F) (cwV 0 hts gX9_frame_X9_shutGreedyDevices rfl rfl rfl (by decide +kernel) ⟨by decide, by decide⟩) hK hN hP hS (ci := 14) rfl hk_1 rfl rfl hl.1 rfl (Nat.le_of_ble_eq_true rfl) dX9_frame_26 ⟨Nat.le_of_ble_eq_true rfl, Nat.le_of_ble_eq_true rfl⟩ (fun H locs hP hS => ?_)
  refine lv_iconst (v := 0) hx hb dX9_frame_29 (by decide) ?_
  refine lv_istore_n (lv' := [(2, .int 0), (1, .int 0), (0, .ref (ad 0))]) hx hb dX9_frame_30 rfl hl (by decide) rfl (fun ls hl => ?_)
  refine ro_loop (w := L) 12 0 (fun i => [(2, .int (nI i)), (1, .int 0), (0, .ref (ad 0))]) ?_ (by decide) hP hS (lv_sub hl [0, 1, 2] rfl)
  intro i hi0 hi ih_i H locs ls hP hS hl
  refine lv_iload_n hx hb dX9_frame_31 rfl (lv_at hl 0 rfl) ?_
  refine lv_bipush (v := 12) hx hb dX9_frame_32 (by decide) ?_
  refine lv_icmp_ge (tgt := 79) hx hb dX9_frame_34 (by decide) (fun c34 => ?_) (fun c34 => ?_)
  · obtain rfl : i = 12 := my_exit (N := 12) (by decide) (by decide) hi c34
    refine lv_aload_n hx hb dX9_frame_79 rfl (lv_at hl 2 rfl) ?_
    refine ro_callV (As := []) (rest := []) ⟨hx, hb, hml, hown, hts⟩ (c_nextBulkF l D cy F) (cwV 0 hts gX9_frame_X9_nextBulkPipe rfl rfl rfl (by decide +kernel) ⟨by decide, by decide⟩) hK hN hP hS (ci := 14) rfl hk_1 rfl rfl hl.1 rfl (Nat.le_of_ble_eq_true rfl) dX9_frame_80 ⟨Nat.le_of_ble_eq_true rfl, Nat.le_of_ble_eq_true rfl⟩ (fun H locs hP hS => ?_)
    refine lv_astore_nN (lv' := [(2, .null), (1, .int 0), (0, .ref (ad 0))]) hx hb dX9_frame_83 rfl hl (by decide) rfl (fun ls hl => ?_)
    refine lv_iconst (v := 0) hx hb dX9_frame_84 (by decide) ?_
    refine lv_istore_n (lv' := [(3, .int 0), (2, .null), (1, .int 0), (0, .ref (ad 0))]) hx hb dX9_frame_85 rfl hl (by decide) rfl (fun ls hl => ?_)
    refine lv_iload_n hx hb dX9_frame_86 rfl (lv_at hl 0 rfl) ?_
    refine lv_sipush (v := 1000) hx hb dX9_frame_87 (by decide) ?_
    refine lv_icmp_ge (tgt := 121) hx hb dX9_frame_90 (by decide) (fun c => absurd c (by decide)) (fun _ => ?_)
    refine lv_aload_nN hx hb dX9_frame_93 rfl (lv_at hl 1 rfl) ?_
    refine lv_ifnullN (tgt := 121) hx hb dX9_frame_94 (by decide) ?_
    refine lv_aload_n hx hb dX9_frame_121 rfl (lv_at hl 3 rfl) ?_
    refine va_get (D := D) (ci := 14) (v := .ref (ad 17)) (C := RX9) (T := TX9) (N := 13) hx hb hts iw_X9_frame_RX9 hown hK hP k_1 hk_1 rfl 12 (by decide) (hts (.fieldLink RX9 59 "Hubcascade" "sniffer" "LHubcascade$Sniffer;") (by decide +kernel)) (fun _ h9 => h9) rfl dX9_frame_122 ?_
    obtain ⟨k_2, hk_2⟩ := frf_sn F
    refine va_getN (D := D) (ci := 11) (v := .int 0) (C := RX6) (T := TX6) (N := 3) hx hb hts iw_X9_frame_RX6 hown hK hP k_2 hk_2 rfl 0 (by decide) (va_Nw.use rfl (hN.1 _ nf_13)) (fun _ h9 => h9) rfl dX9_frame_125 ?_
    refine lv_iload_n hx hb dX9_frame_128 rfl (lv_at hl 2 rfl) ?_
    refine lv_isub hx hb dX9_frame_129 ?_
    refine lv_topi (fun y ey => ?_)
    obtain rfl : y = 0 := ey.trans (by decide)
    exact W.iret hx hb hr (fun t ht hW => ⟨rfl, trivial, hS.F ht⟩) hS.2.2 dX9_frame_130
  · have hi : i < 12 := my_cont (N := 12) (by decide) (by decide) hi c34
    refine lv_aload_n hx hb dX9_frame_37 rfl (lv_at hl 2 rfl) ?_
    refine va_get (D := D) (ci := 14) (v := .ref (ad 4)) (C := RX9) (T := TX9) (N := 13) hx hb hts iw_X9_frame_RX9 hown hK hP k_1 hk_1 rfl 5 (by decide) (hts (.fieldLink RX9 24 "Hubcascade" "pipes" "[LHubcascade$Pipe;") (by decide +kernel)) (fun _ h9 => h9) rfl dX9_frame_38 ?_
    refine lv_iload_n hx hb dX9_frame_41 rfl (lv_at hl 0 rfl) ?_
    obtain ⟨k_3, hk_3⟩ := frf_pv F
    refine my_ald hx hb hK hP k_3 6 hk_3 rfl (i := nI i) (j := i) (r := ad (600 + i)) rfl hi (by decide) (frf_pvr F i hi) dX9_frame_42 ?_
    refine lv_astore_n (lv' := [(3, .ref (ad (600 + i))), (2, .int (nI i)), (1, .int 0), (0, .ref (ad 0))]) hx hb dX9_frame_43 rfl hl (by decide) rfl (fun ls hl => ?_)
    refine lv_aload_n hx hb dX9_frame_44 rfl (lv_at hl 0 rfl) ?_
    refine lv_iconst (v := 0) hx hb dX9_frame_45 (by decide) ?_
    obtain ⟨k_4, hk_4⟩ := frf_pi F i hi
    refine va_putN (D := D) (ci := 10) (fs := [.int (nI i), .null, .null, .int 98, .int 1, .int (-1), .int 0, .int 0, .int 0, .int 32, .int 0, .ref (ad (620 + i)), .int 0, .int 0]) (v := .int 0) (ty := .boolean) (C := RX5) (T := TX5) (N := 14) hx hb hts iw_X9_frame_RX5 tyX5 tyX5_ok nmX5 hown hK hP hD hS k_4 hk_4 rfl 10 (by decide) (va_Nw.use rfl (hN.1 _ nf_74)) (fun _ h9 => h9) rfl (by decide +kernel) (by decide) (by decide) (Nat.le_of_ble_eq_true rfl) dX9_frame_46 (fun H locs hP hD9 hS => ?_)
    have hP : va_P D vwCl L H := by
      have h9 := hP
      rw [show List.set L k_4 (ad (600 + i), .inr (10, List.set [.int (nI i), .null, .null, .int 98, .int 1, .int (-1), .int 0, .int 0, .int 0, .int 32, .int 0, .ref (ad (620 + i)), .int 0, .int 0] 10 (.int 0))) = L from my_same hk_4] at h9
      exact h9
    refine lv_aload_n hx hb dX9_frame_49 rfl (lv_at hl 0 rfl) ?_
    refine lv_aload_n hx hb dX9_frame_50 rfl (lv_at hl 3 rfl) ?_
    refine va_get (D := D) (ci := 14) (v := .int 1) (C := RX9) (T := TX9) (N := 13) hx hb hts iw_X9_frame_RX9 hown hK hP k_1 hk_1 rfl 7 (by decide) (hts (.fieldLink RX9 252 "Hubcascade" "frames" "I") (by decide +kernel)) (fun _ h9 => h9) rfl dX9_frame_51 ?_
    refine ro_callVN (As := [.int 1]) (rest := []) ⟨hx, hb, hml, hown, hts⟩ (c_isDueInF l D cy F i hi) ⟨va_cnB 1 hts gX9_frame_X5_isDueIn_n430 rfl rfl rfl (hN.1 _ nf_127) (hts (.initialized RX5) (by decide +kernel)) (by decide +kernel) ⟨by decide, by decide⟩, hts (.instanceMethod yX5_isDueIn) (by decide +kernel), hts (.selects RX5 yX5_isDueIn yX5_isDueIn) (by decide +kernel)⟩ hK hN hP hS (ci := 10) rfl hk_4 rfl rfl hl.1 rfl (Nat.le_of_ble_eq_true rfl) dX9_frame_54 ⟨Nat.le_of_ble_eq_true rfl, Nat.le_of_ble_eq_true rfl⟩ (fun H locs hP hS => ?_)
    refine lv_if_eq (tgt := 73) hx hb dX9_frame_57 (by decide) (fun _ => ?_) (fun c => absurd (by decide) c)
    refine lv_iinc (v := nI (i + 1)) (lv' := [(2, .int (nI (i + 1))), (3, .ref (ad (600 + i))), (1, .int 0), (0, .ref (ad 0))]) hx hb dX9_frame_73 hl (k := 1) rfl (nI_1 _) (by decide) rfl (fun ls hl => ?_)
    refine lv_goto (tgt := 31) hx hb dX9_frame_76 (by decide) ?_
    exact ih_i hi _ _ _ hP hS (lv_sub hl [0, 2, 3] rfl)
