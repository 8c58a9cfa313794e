section MM22
theorem sg_castI {p : Program} {l : Launch} {e : Env} {R : Room} {s : State} {m : MethodId} {args : Array Value} {below : List Frame} {meth : Method} {c : Code} {H : Heap} {locs : List Loc} {Q : State → Prop} {cc : ByteArray} {pc nL k N n a index : Nat} {ls : Array Slot} {rest : List Value} {D : va_G} {cy : Nat → ClassId} {σ0 σ : SG} {eda ca : Nat} {ia : Nat → Nat} {own : String} {Ts : List Cond} (F : sgFx p s m args meth c cc nL own Ts D cy eda ca ia σ0) (hB : sgB D cy s σ0 σ H locs N n) (hlink : (Cond.classLink own index "[I").before args s = true) (ha : sgT σ a = 100) (hdg : decode cc pc = .ok (.checkcast index, 3)) (kk : W p l e R s m args below meth c H locs k N Q (F0 m (pc + 3) ls (.ref a :: rest))) : W p l e R s m args below meth c H locs k N Q (F0 m pc ls (.ref a :: rest)) := by
  obtain ⟨q, hq⟩ := sg_ai (t := 0) hB.1 ha rfl
  exact va_castA F.1.1 F.1.2.1 F.1.2.2.2.1 hlink (sgL_P hB.1.1) q hq ((F.2.1.2 0 (cy 0, .int) rfl).2) hdg kk
section MM22A
variable {eda n S hw : Nat} {ia : Nat → Nat} {K : KM} {g : GH} {σ σ2 : SG}
/-- the open pipes alone are changed -/
theorem inv_pr (h : Inv eda ia K g n S hw σ) {j : Nat} {v : Option Nat} (hO : iO K g (sgPR σ (kP K) j v)) : Inv eda ia K g n S hw (sgPR σ (kP K) j v) := by
  have p1 := (inv_tP h).1
  have nR : ∀ a k t, sgT σ a = t → t ≠ 109 → sgR (sgPR σ (kP K) j v) a k = sgR σ a k := fun a k t h1 h2 => by rw [sgR_PR, if_neg (fun z => h2 (by rw [← h1, z.1]; exact p1))]
  have hT : tFr σ (sgPR σ (kP K) j v) := fun _ _ => ⟨rfl, rfl⟩
  obtain ⟨hS2, hq⟩ := sgLS_fr (σ2 := sgPR σ (kP K) j v) (inv_LS h) hT (fun a z => ⟨by rw [show sgT (sgPR σ (kP K) j v) a = sgT σ a from rfl, z]; decide, by rw [show sgT (sgPR σ (kP K) j v) a = sgT σ a from rfl, z]; decide⟩) (inv_LS h).2.2.2 (fun a ha => ⟨nR a 1 5 ha (by decide), rfl⟩) (fun a k ha => nR a k 110 ha (by decide))
  refine ⟨hS2, iL_tr hT gFr_rf (fun _ _ _ _ _ => rfl) (inv_L h) (fun l t2 => Or.inl ⟨t2, hq l t2 id⟩), iB_tr gFr_rf (inv_B h) (Nat.le_refl _) (fun l t2 => Or.inl ⟨t2, Nat.le_of_eq (hq l t2 id).1⟩), iD_tr hT gFr_rf (inv_D h) (fun d t2 => Or.inl ⟨t2, nR d 13 16 t2 (by decide), nR d 14 16 t2 (by decide), nR d 15 16 t2 (by decide)⟩), iN_tr hT gFr_rf (inv_N h) (fun e t2 i x hi hx => Or.inl ⟨t2, by rw [← nR e i 108 t2 (by decide)]; exact hx⟩), iE_tr hT gFr_rf (inv_E h) (fun x t2 => Or.inl ⟨t2, nR x 3 17 t2 (by decide), rfl, fun l q1 q2 q3 q4 q5 => iK1_tr hT id rfl (Nat.le_of_eq (hq l q2 id).1.symm) rfl (fun _ _ => rfl) q5⟩), iT_tr hT (inv_T h) (fun t t2 => Or.inl ⟨t2, nR t 0 19 t2 (by decide)⟩), iP_tr hT gFr_rf (inv_P h) (Nat.le_refl _) (fun _ _ => rfl) (fun d hd => nR d 13 16 hd (by decide)) (fun e i x he hx => by rw [nR e i 108 he (by decide)]; exact hx) (fun p t2 => Or.inl ⟨t2, nR p 9 18 t2 (by decide), fun _ _ => rfl, fun l e x q1 q2 _ _ _ _ _ q8 => iRw_tr hT (inv_T h) (hq l q2 id).1 (hq l q2 id).2 rfl (fun _ _ z => z) (fun t ht => ⟨rfl, nR t 0 19 ht (by decide), Or.inl rfl⟩) q8⟩), ⟨iMr_tr hT gFr_rf (inv_Mr h) (fun k _ => nR _ k 20 (inv_A h) (by decide)) (Or.inl (nR _ 6 20 (inv_A h) (by decide))) (fun l t2 => Or.inl t2), ⟨(hq _ (inv_tD h).1 id).1.trans (inv_M h).2.1.1, (inv_M h).2.1.2⟩, (inv_M h).2.2⟩, hO, iR_tr h (fun _ _ => rfl) (fun _ _ z => z) (fun _ _ _ _ => rfl)⟩
/-- a pipe is closed -/
theorem inv_pn (h : Inv eda ia K g n S hw σ) {j : Nat} : Inv eda ia K g n S hw (sgPR σ (kP K) j none) := by
  have p1 := (inv_tP h).1
  have nR : ∀ a k t, sgT σ a = t → t ≠ 109 → sgR (sgPR σ (kP K) j none) a k = sgR σ a k := fun a k t h1 h2 => by rw [sgR_PR, if_neg (fun z => h2 (by rw [← h1, z.1]; exact p1))]
  refine inv_pr h (iO_tr h (fun _ => rfl) (fun _ _ => rfl) (fun _ _ => ⟨rfl, rfl⟩) (fun k p _ hp => ?_) (fun _ _ _ _ => rfl) (fun d hd => nR d 13 16 hd (by decide)) (fun e i x he hx => by rw [nR e i 108 he (by decide)]; exact hx) (fun _ _ hu _ => hu))
  rw [sgR_PR] at hp
  by_cases z : kP K = kP K ∧ k = j
  · rw [if_pos z] at hp; cases hp
  · rw [if_neg z] at hp; exact hp
theorem inv_pnB {D : va_G} {cy : Nat → ClassId} {s : State} {σ0 : SG} {H : Heap} {locs : List Loc} {N9 n9 j : Nat} (_hB : sgB D cy s σ0 (sgPR σ (kP K) j none) H locs N9 n9) (h : Inv eda ia K g n S hw σ) : Inv eda ia K g n S hw (sgPR σ (kP K) j none) := inv_pn h
/-- the model's last event -/
theorem inv_pe6 (h : Inv eda ia K g n S hw σ) {v : Nat} (hv : sgT σ v = 100 ∧ (sgN σ v = 0 ∨ sgN σ v = 3)) : Inv eda ia K g n S hw (sgPR σ (kA K) 6 (some v)) := by
  have p1 := inv_A h
  have nR : ∀ a k t, sgT σ a = t → t ≠ 20 ∨ k ≠ 6 → sgR (sgPR σ (kA K) 6 (some v)) a k = sgR σ a k := fun a k t h1 h2 => by rw [sgR_PR, if_neg (fun z => by rcases h2 with h2 | h2; exact h2 (by rw [← h1, z.1]; exact p1); exact h2 z.2)]
  have hT : tFr σ (sgPR σ (kA K) 6 (some v)) := fun _ _ => ⟨rfl, rfl⟩
  have n20 : ∀ a k t, sgT σ a = t → t ≠ 20 → sgR (sgPR σ (kA K) 6 (some v)) a k = sgR σ a k := fun a k t h1 h2 => nR a k t h1 (Or.inl h2)
  obtain ⟨hS2, hq⟩ := sgLS_fr (σ2 := sgPR σ (kA K) 6 (some v)) (inv_LS h) hT (fun a z => ⟨by rw [show sgT (sgPR σ (kA K) 6 (some v)) a = sgT σ a from rfl, z]; decide, by rw [show sgT (sgPR σ (kA K) 6 (some v)) a = sgT σ a from rfl, z]; decide⟩) (inv_LS h).2.2.2 (fun a ha => ⟨n20 a 1 5 ha (by decide), rfl⟩) (fun a k ha => n20 a k 110 ha (by decide))
  refine ⟨hS2, iL_tr hT gFr_rf (fun _ _ _ _ _ => rfl) (inv_L h) (fun l t2 => Or.inl ⟨t2, hq l t2 id⟩), iB_tr gFr_rf (inv_B h) (Nat.le_refl _) (fun l t2 => Or.inl ⟨t2, Nat.le_of_eq (hq l t2 id).1⟩), iD_tr hT gFr_rf (inv_D h) (fun d t2 => Or.inl ⟨t2, n20 d 13 16 t2 (by decide), n20 d 14 16 t2 (by decide), n20 d 15 16 t2 (by decide)⟩), iN_tr hT gFr_rf (inv_N h) (fun e t2 i x hi hx => Or.inl ⟨t2, by rw [← n20 e i 108 t2 (by decide)]; exact hx⟩), iE_tr hT gFr_rf (inv_E h) (fun x t2 => Or.inl ⟨t2, n20 x 3 17 t2 (by decide), rfl, fun l q1 q2 q3 q4 q5 => iK1_tr hT id rfl (Nat.le_of_eq (hq l q2 id).1.symm) rfl (fun _ _ => rfl) q5⟩), iT_tr hT (inv_T h) (fun t t2 => Or.inl ⟨t2, n20 t 0 19 t2 (by decide)⟩), iP_tr hT gFr_rf (inv_P h) (Nat.le_refl _) (fun _ _ => rfl) (fun d hd => n20 d 13 16 hd (by decide)) (fun e i x he hx => by rw [n20 e i 108 he (by decide)]; exact hx) (fun p t2 => Or.inl ⟨t2, n20 p 9 18 t2 (by decide), fun _ _ => rfl, fun l e x q1 q2 _ _ _ _ _ q8 => iRw_tr hT (inv_T h) (hq l q2 id).1 (hq l q2 id).2 rfl (fun _ _ z => z) (fun t ht => ⟨rfl, n20 t 0 19 ht (by decide), Or.inl rfl⟩) q8⟩), ⟨iMr_tr hT gFr_rf (inv_Mr h) (fun k hk => nR _ k 20 p1 (Or.inr (by omega))) (Or.inr ⟨v, by rw [sgR_PR, if_pos ⟨rfl, rfl⟩], hv⟩) (fun l t2 => Or.inl t2), ⟨(hq _ (inv_tD h).1 id).1.trans (inv_M h).2.1.1, (inv_M h).2.1.2⟩, (inv_M h).2.2⟩, iO_tr h (fun _ => rfl) (fun _ _ => rfl) hT (fun k p _ hp => by rw [← n20 _ k 109 (inv_tP h).1 (by decide)]; exact hp) (fun _ _ _ _ => rfl) (fun d hd => n20 d 13 16 hd (by decide)) (fun e i x he hx => by rw [n20 e i 108 he (by decide)]; exact hx) (fun _ _ hu _ => hu), iR_tr h (fun _ _ => rfl) (fun _ _ z => z) (fun _ _ _ _ => rfl)⟩
end MM22A
/-- what the closing of pipes leaves alone -/
def cFr (σ σ2 : SG) : Prop := tFr σ σ2 ∧ (∀ a k, sgT σ a ≠ 0 → sgT σ a ≠ 5 → sgT σ a ≠ 20 → sgI σ2 a k = sgI σ a k) ∧ ∀ a k, sgT σ a ≠ 0 → sgT σ a ≠ 5 → sgT σ a ≠ 110 → sgT σ a ≠ 109 → sgR σ2 a k = sgR σ a k
theorem cFr_e {σ σ2 : SG} (h : eFr σ σ2) : cFr σ σ2 := ⟨h.1, h.2.1, fun a k h0 h5 h1 _ => h.2.2 a k h0 h5 h1⟩
theorem cFr_rf {σ : SG} : cFr σ σ := cFr_e eFr_rf
theorem cFr_tr {σ σ2 σ3 : SG} (h : cFr σ σ2) (h2 : cFr σ2 σ3) : cFr σ σ3 := by
  refine ⟨tFr_tr h.1 h2.1, fun a k h0 h5 h20 => ?_, fun a k h0 h5 h110 h109 => ?_⟩
  · have e := (h.1 a h0).1
    exact (h2.2.1 a k (by rw [e]; exact h0) (by rw [e]; exact h5) (by rw [e]; exact h20)).trans (h.2.1 a k h0 h5 h20)
  · have e := (h.1 a h0).1
    exact (h2.2.2 a k (by rw [e]; exact h0) (by rw [e]; exact h5) (by rw [e]; exact h110) (by rw [e]; exact h109)).trans (h.2.2 a k h0 h5 h110 h109)
theorem cFr_P {σ : SG} {a k : Nat} {v : Option Nat} (h : sgT σ a = 109) : cFr σ (sgPR σ a k v) := ⟨fun _ _ => ⟨rfl, rfl⟩, fun _ _ _ _ _ => rfl, fun b j _ _ _ h9 => by rw [sgR_PR, if_neg (fun z => h9 (by rw [z.1]; exact h))]⟩
theorem m_ends (l : Launch) (D : va_G) (cy : Nat → ClassId) {eda ca : Nat} {ia : Nat → Nat} {σ : SG} {K : KM} {g : GH} {n S hw : Nat} (h : Inv eda ia K g n S hw σ) {pp l1 : Nat} (x lt : Int32) (hx1 : 0 ≤ x.toInt) (hx2 : x.toInt ≤ 11) (hpp : sgR σ (kP K) x.toInt.toNat = some pp) (hl1 : sgR σ pp 9 = some l1) (h0 : 0 < sgSz σ l1) {m1 : Nat} (hm : m1 = min 1 (6 - sgSz σ (kE K))) (sz : Nat) : sgM l D cy eda ca ia σ sz yX14_ends (Cond.code yX14_ends cX14_ends 4 none :: mWall) 7 171 (2 * m1) (18 * m1) [.ref (kA K), .int x, .int lt] (fun v σ2 => v = none ∧ Inv eda ia K g n S hw σ2 ∧ sgSz σ2 l1 = sgSz σ l1 - 1 ∧ (∀ j, j + 1 < sgSz σ l1 → sgAt σ2 l1 j = sgAt σ l1 (j + 1)) ∧ sgSz σ2 (kE K) = sgSz σ (kE K) + m1 ∧ eFr σ σ2) := by
  have hE := (inv_szE h).2
  by_cases hf : sgSz σ (kE K) = 6
  · obtain rfl : m1 = 0 := by omega
    exact m_endsF l D cy h x lt hx1 hx2 hpp hl1 h0 hf sz
  · obtain rfl : m1 = 1 := by omega
    exact m_endsN l D cy h x lt hx1 hx2 hpp hl1 h0 (by omega) sz
theorem dX14_closes_0 : decode cX14_closes 0 = .ok (.aload_n 0, 1) := by decide +kernel
theorem dX14_closes_1 : decode cX14_closes 1 = .ok (.getfield 18, 3) := by decide +kernel
theorem dX14_closes_4 : decode cX14_closes 4 = .ok (.iload_n 1, 1) := by decide +kernel
theorem dX14_closes_5 : decode cX14_closes 5 = .ok (.aaload, 1) := by decide +kernel
theorem dX14_closes_6 : decode cX14_closes 6 = .ok (.getfield 199, 3) := by decide +kernel
theorem dX14_closes_9 : decode cX14_closes 9 = .ok (.invokevirtual 64, 3) := by decide +kernel
theorem dX14_closes_12 : decode cX14_closes 12 = .ok (.istore_n 3, 1) := by decide +kernel
theorem dX14_closes_13 : decode cX14_closes 13 = .ok (.iconst 0, 1) := by decide +kernel
theorem dX14_closes_14 : decode cX14_closes 14 = .ok (.istore 4, 2) := by decide +kernel
theorem dX14_closes_16 : decode cX14_closes 16 = .ok (.iload 4, 2) := by decide +kernel
theorem dX14_closes_18 : decode cX14_closes 18 = .ok (.iload_n 3, 1) := by decide +kernel
theorem dX14_closes_19 : decode cX14_closes 19 = .ok (.if_icmp .ge 15, 3) := by decide +kernel
theorem dX14_closes_22 : decode cX14_closes 22 = .ok (.aload_n 0, 1) := by decide +kernel
theorem dX14_closes_23 : decode cX14_closes 23 = .ok (.iload_n 1, 1) := by decide +kernel
theorem dX14_closes_24 : decode cX14_closes 24 = .ok (.iload_n 2, 1) := by decide +kernel
theorem dX14_closes_25 : decode cX14_closes 25 = .ok (.invokevirtual 290, 3) := by decide +kernel
theorem dX14_closes_28 : decode cX14_closes 28 = .ok (.iinc 4 1, 3) := by decide +kernel
theorem dX14_closes_31 : decode cX14_closes 31 = .ok (.goto (-15), 3) := by decide +kernel
theorem dX14_closes_34 : decode cX14_closes 34 = .ok (.aload_n 0, 1) := by decide +kernel
theorem dX14_closes_35 : decode cX14_closes 35 = .ok (.getfield 18, 3) := by decide +kernel
theorem dX14_closes_38 : decode cX14_closes 38 = .ok (.iload_n 1, 1) := by decide +kernel
theorem dX14_closes_39 : decode cX14_closes 39 = .ok (.aconst_null, 1) := by decide +kernel
theorem dX14_closes_40 : decode cX14_closes 40 = .ok (.aastore, 1) := by decide +kernel
theorem dX14_closes_41 : decode cX14_closes 41 = .ok (.iload_n 3, 1) := by decide +kernel
theorem dX14_closes_42 : decode cX14_closes 42 = .ok (.ireturn, 1) := by decide +kernel
set_option maxRecDepth 100000 in
set_option maxHeartbeats 4000000 in
theorem m_closes (l : Launch) (D : va_G) (cy : Nat → ClassId) {eda ca : Nat} {ia : Nat → Nat} {σ : SG} {K : KM} {g : GH} {n S hw : Nat} (h : Inv eda ia K g n S hw σ) {pp l1 : Nat} (x lt : Int32) (hx1 : 0 ≤ x.toInt) (hx2 : x.toInt ≤ 11) (hpp : sgR σ (kP K) x.toInt.toNat = some pp) (hl1 : sgR σ pp 9 = some l1) {M : Nat} (hM : M = min (sgSz σ l1) (6 - sgSz σ (kE K))) (sz : Nat) : sgM l D cy eda ca ia σ sz yX14_closes (Cond.code yX14_closes cX14_closes 5 (some .int) :: mWall) 8 194 (2 * M) (18 * M) [.ref (kA K), .int x, .int lt] (fun v σ2 => (∃ y : Int32, v = some (.int y)) ∧ Inv eda ia K g n S hw σ2 ∧ sgR σ2 (kP K) x.toInt.toNat = none ∧ (∀ j, j ≠ x.toInt.toNat → sgR σ2 (kP K) j = sgR σ (kP K) j) ∧ sgSz σ2 (kE K) = sgSz σ (kE K) + M ∧ cFr σ σ2) := by
  refine sg_ofW (cc := cX14_closes) (maxL := 5) (ret := (some .int)) (by decide) rfl (Nat.le_of_ble_eq_true rfl) (lv := [(0, .ref (kA K)), (1, .int x), (2, .int lt)]) rfl (fun p e s m below meth c ls H N hrt hnm F hB hl => ?_) sz
  have hx := F.1.1
  have hb := F.1.2.1
  have hown := F.1.2.2.2.1
  have tp := inv_pp h (j := x.toInt.toNat) (by omega) hpp
  obtain ⟨l2, pl1, tl, pl3, pl4, pl5, pl6⟩ := inv_pl h tp
  rw [hl1] at pl1
  cases pl1
  have hE6 := (inv_szE h).2
  generalize hlo : ([] : List Loc) = locs at hB ⊢
  clear hlo
  obtain ⟨kc, hkc⟩ : ∃ kc : Nat, kc = 0 := ⟨_, rfl⟩
  refine W.widen (k := kc) (n := N) (by omega) (Nat.le_refl _) ?_
  refine lv_aload_n hx hb dX14_closes_0 rfl (lv_at hl 0 rfl) ?_
  refine gr_X14_18 F hB dX14_closes_1 (inv_A h) (inv_r2 h) ?_
  refine lv_iload_n hx hb dX14_closes_4 rfl (lv_at hl 1 rfl) ?_
  refine sg_aaldR 9 hx hb F.2.1 hB.1 rfl rfl dX14_closes_5 (inv_tP h).1 (by omega) (m_ltN (n := 12) (inv_tP h).2 (by omega)) (m_ltM (inv_tP h).2 (by decide)) hpp ?_
  refine gr_X14_199 F hB dX14_closes_6 tp hl1 ?_
  refine sg_callV (ci := 4) F hB (m_size l D cy tl _) (cwV 0 F.1.2.2.2.2 (mgV (mm_3 _ (List.mem_of_getElem? (i := 18) rfl)) (mm_3 _ (List.mem_of_getElem? (i := 19) rfl)) (mm_3 _ (List.mem_of_getElem? (i := 20) rfl)) (mm_0 _ (List.mem_of_getElem? (i := 35) rfl)) (mm_3 _ (List.mem_of_getElem? (i := 16) rfl))) rfl rfl rfl ⟨rfl, by decide, by decide, by decide +kernel⟩ ⟨Nat.le_of_ble_eq_true rfl, Nat.le_of_ble_eq_true rfl⟩) rfl rfl (by decide) rfl hl.1 rfl (Nat.le_of_ble_eq_true rfl) dX14_closes_9 (by show _ ≤ 2 * M; omega) (Nat.add_le_add_right (by omega) _) tl (fun H locs v σ9 N hBn hX9 hP => ?_)
  clear hB; have hB := hBn; clear hBn
  obtain ⟨rfl, rfl⟩ := hP
  refine lv_istore_n (lv' := [(3, .int _), (0, .ref _), (1, .int _), (2, .int _)]) hx hb dX14_closes_12 rfl hl (by decide) rfl (fun ls hl => ?_)
  refine lv_iconst (v := 0) hx hb dX14_closes_13 (by decide) ?_
  refine lv_istore (lv' := [(4, .int _), (3, .int _), (0, .ref _), (1, .int _), (2, .int _)]) hx hb dX14_closes_14 hl (by decide) rfl (fun ls hl => ?_)
  have key16 : ∃ (σ3 : SG) (i9 : Int32) (nc : Nat), sgB D cy s σ σ3 H locs N nc ∧ lv_has ls 5 [(4, .int i9), (3, .int (sgI σ l1 2)), (2, .int lt), (1, .int x), (0, .ref (kA K))] ∧ Inv eda ia K g n S hw σ3 ∧ (0 ≤ i9.toInt ∧ i9.toInt ≤ sgSz σ l1) ∧ sgSz σ3 l1 = sgSz σ l1 - i9.toInt.toNat ∧ sgSz σ3 (kE K) = sgSz σ (kE K) + min i9.toInt.toNat (6 - sgSz σ (kE K)) ∧ (kc = 2 * (sgSz σ3 (kE K) - sgSz σ (kE K)) ∧ nc = 18 * (sgSz σ3 (kE K) - sgSz σ (kE K))) ∧ eFr σ σ3 := ⟨_, _, _, hB, (lv_sub hl [0, 1, 4, 3, 2] rfl), h, ⟨by decide, by rw [m_i0]; omega⟩, by rw [m_i0]; rfl, by rw [m_i0]; show _ = _ + min 0 _; omega, ⟨by omega, by omega⟩, eFr_rf⟩
  clear hB hl hkc
  obtain ⟨σ3, i9, nc, hB, hl, hI3, hi, hz3, he3, hkn, hf3⟩ := key16
  obtain ⟨d16, hd16⟩ : ∃ d : Nat, d = sgSz σ l1 - i9.toInt.toNat := ⟨_, rfl⟩
  induction d16 using Nat.strongRecOn generalizing H locs ls N σ3 i9 nc kc
  rename_i d16 ih16
  have hi1 := hi.1
  have hi2 := hi.2
  refine lv_iload hx hb dX14_closes_16 (lv_at hl 0 rfl) ?_
  refine lv_iload_n hx hb dX14_closes_18 rfl (lv_at hl 1 rfl) ?_
  refine lv_icmp_ge (tgt := 34) hx hb dX14_closes_19 (by decide) (fun c19 => ?_) (fun c19 => ?_)
  · have hi3 := i_le c19
    rw [pl5] at hi3
    refine lv_aload_n hx hb dX14_closes_34 rfl (lv_at hl 4 rfl) ?_
    refine gr_X14_18 F hB dX14_closes_35 (inv_A hI3) (inv_r2 hI3) ?_
    refine lv_iload_n hx hb dX14_closes_38 rfl (lv_at hl 3 rfl) ?_
    refine lv_null hx hb dX14_closes_39 ?_
    refine sg_aastN 9 hx hb F.2.1 hB.1 rfl rfl dX14_closes_40 (inv_tP hI3).1 (by omega) (m_ltN (n := 12) (inv_tP hI3).2 (by omega)) (m_ltM (inv_tP hI3).2 (by decide)) (fun H locs hs1 => ?_)
    have hBn := sgB_w hB hs1 (fun _ => rfl) (fun _ => rfl) (Nat.le_of_eq (sgPot_R (fun z9 => absurd ((Eq.symm (inv_tP hI3).1).trans z9) (by decide))))
    clear hB; have hB := hBn; clear hBn
    have hI40 : Inv eda ia K g n S hw _ := inv_pnB hB hI3
    refine lv_iload_n hx hb dX14_closes_41 rfl (lv_at hl 1 rfl) ?_
    exact sg_iret F hB hrt dX14_closes_42 (by omega) (by omega) (⟨⟨_, rfl⟩, hI40, by rw [sgR_PR, if_pos ⟨rfl, rfl⟩], fun j hj => by rw [sgR_PR, if_neg (fun z => hj z.2)]; exact hf3.2.2 _ _ (by rw [(inv_tP h).1]; decide) (by rw [(inv_tP h).1]; decide) (by rw [(inv_tP h).1]; decide), by show sgSz σ3 (kE K) = _; omega, cFr_tr (cFr_e hf3) (cFr_P (inv_tP hI3).1)⟩)
  · have hi3 := i_nle c19
    rw [pl5] at hi3
    have hpp3 : sgR σ3 (kP K) x.toInt.toNat = some pp := (hf3.2.2 _ _ (by rw [(inv_tP h).1]; decide) (by rw [(inv_tP h).1]; decide) (by rw [(inv_tP h).1]; decide)).trans hpp
    have hl3 : sgR σ3 pp 9 = some l1 := (hf3.2.2 _ _ (by rw [tp]; decide) (by rw [tp]; decide) (by rw [tp]; decide)).trans hl1
    have h03 : 0 < sgSz σ3 l1 := by omega
    obtain ⟨m1, hm3⟩ : ∃ m1 : Nat, m1 = min 1 (6 - sgSz σ3 (kE K)) := ⟨_, rfl⟩
    refine lv_aload_n hx hb dX14_closes_22 rfl (lv_at hl 4 rfl) ?_
    refine lv_iload_n hx hb dX14_closes_23 rfl (lv_at hl 3 rfl) ?_
    refine lv_iload_n hx hb dX14_closes_24 rfl (lv_at hl 2 rfl) ?_
    refine sg_callV (ci := 19) F hB (m_ends l D cy hI3 x lt hx1 hx2 hpp3 hl3 h03 hm3 _) (cwV 2 F.1.2.2.2.2 (mgV (mm_5 _ (List.mem_of_getElem? (i := 33) rfl)) (mm_5 _ (List.mem_of_getElem? (i := 34) rfl)) (mm_5 _ (List.mem_of_getElem? (i := 35) rfl)) (mm_3 _ (List.mem_of_getElem? (i := 23) rfl)) (mm_5 _ (List.mem_of_getElem? (i := 32) rfl))) rfl rfl rfl ⟨rfl, by decide, by decide, by decide +kernel⟩ ⟨Nat.le_of_ble_eq_true rfl, Nat.le_of_ble_eq_true rfl⟩) rfl rfl (by decide) rfl hl.1 rfl (Nat.le_of_ble_eq_true rfl) dX14_closes_25 (by show _ ≤ 2 * M; omega) (Nat.add_le_add_right (by omega) _) (inv_A hI3) (fun H locs v σ25 N hBn hX25 hP => ?_)
    clear hB; have hB := hBn; clear hBn
    obtain ⟨rfl, hI25, en1, en2, en3, en4⟩ := hP
    refine lv_iinc (lv' := [(4, .int _), (3, .int _), (2, .int _), (1, .int _), (0, .ref _)]) hx hb dX14_closes_28 hl (k := 0) rfl rfl (by decide) rfl (fun ls hl => ?_)
    refine lv_goto (tgt := 16) hx hb dX14_closes_31 (by decide) ?_
    have e9 : (i9 + Int32.ofInt 1).toInt = i9.toInt + 1 := m_add1 (by omega) (by omega)
    exact ih16 _ (by subst hd16; rw [e9]; omega) _ _ _ _ _ _ _ _ hB (lv_sub hl [0, 1, 2, 3, 4] rfl) hI25 ⟨by rw [e9]; omega, by rw [e9]; omega⟩ (by rw [e9]; omega) (by rw [e9]; omega) ⟨by show kc + 0 + 2 * m1 = _; omega, by omega⟩ (eFr_tr hf3 en4) rfl
end MM22
