section MM28
section MM28A
variable {eda n S hw : Nat} {ia : Nat → Nat} {K : KM} {g : GH} {σ σ2 σ3 : SG}
/-- what a transaction leaves alone, besides counts of transfers -/
def zR (l1 : Nat) (σ σ2 : SG) : Prop := tFr σ σ2 ∧ (∀ a k, sgT σ a = 19 → sgI σ2 a k = sgI σ a k) ∧ (∀ a k, sgT σ a = 18 → k ≤ 2 → sgI σ2 a k = sgI σ a k) ∧ (∀ a k, sgT σ a = 17 → k ≤ 1 → sgI σ2 a k = sgI σ a k) ∧ (∀ a k, sgT σ a = 16 ∨ sgT σ a = 17 ∨ sgT σ a = 18 ∨ sgT σ a = 19 ∨ sgT σ a = 108 ∨ sgT σ a = 109 → sgR σ2 a k = sgR σ a k) ∧ (sgSz σ2 l1 = sgSz σ l1 ∧ (0 < sgSz σ l1 → sgAt σ2 l1 0 = sgAt σ l1 0))
theorem zR_rf {l1 : Nat} : zR l1 σ σ := ⟨tFr_rf, fun _ _ _ => rfl, fun _ _ _ _ => rfl, fun _ _ _ _ => rfl, fun _ _ _ => rfl, rfl, fun _ => rfl⟩
theorem zR_tr {l1 : Nat} (h : zR l1 σ σ2) (h2 : zR l1 σ2 σ3) : zR l1 σ σ3 := by
  obtain ⟨a1, a2, a3, a4, a5, a6, a7⟩ := h
  obtain ⟨b1, b2, b3, b4, b5, b6, b7⟩ := h2
  refine ⟨tFr_tr a1 b1, fun a k ha => (b2 a k (tFr_T a1 ha (by decide))).trans (a2 a k ha), fun a k ha hk => (b3 a k (tFr_T a1 ha (by decide)) hk).trans (a3 a k ha hk), fun a k ha hk => (b4 a k (tFr_T a1 ha (by decide)) hk).trans (a4 a k ha hk), fun a k ha => ?_, b6.trans a6, fun h0 => (b7 (by omega)).trans (a7 h0)⟩
  refine (b5 a k ?_).trans (a5 a k ha)
  rcases ha with z | z | z | z | z | z
  · exact Or.inl (tFr_T a1 z (by decide))
  · exact Or.inr (Or.inl (tFr_T a1 z (by decide)))
  · exact Or.inr (Or.inr (Or.inl (tFr_T a1 z (by decide))))
  · exact Or.inr (Or.inr (Or.inr (Or.inl (tFr_T a1 z (by decide)))))
  · exact Or.inr (Or.inr (Or.inr (Or.inr (Or.inl (tFr_T a1 z (by decide))))))
  · exact Or.inr (Or.inr (Or.inr (Or.inr (Or.inr (tFr_T a1 z (by decide))))))
theorem zR_PI {l1 a k t : Nat} {v : Int32} (ha : sgT σ a = t) (ht : t ≠ 19 ∧ t ≠ 5 ∧ (t ≠ 18 ∨ 3 ≤ k) ∧ (t ≠ 17 ∨ 2 ≤ k)) (tl : sgT σ l1 = 5) : zR l1 σ (sgPI σ a k v) := by
  obtain ⟨h1, h2, h3, h4⟩ := ht
  refine ⟨fun _ _ => ⟨rfl, rfl⟩, fun b j hb => ?_, fun b j hb hj => ?_, fun b j hb hj => ?_, fun _ _ _ => rfl, ?_, fun _ => rfl⟩
  · rw [sgI_PI, if_neg (fun z => h1 (by rw [← ha, ← z.1]; exact hb))]
  · rw [sgI_PI, if_neg (fun z => by
      have : t = 18 := by rw [← ha, ← z.1]; exact hb
      omega)]
  · rw [sgI_PI, if_neg (fun z => by
      have : t = 17 := by rw [← ha, ← z.1]; exact hb
      omega)]
  · exact sgSz_ne (fun z => h2 (by rw [← ha, z]; exact tl))
theorem zR_J {l1 a k : Nat} {v : Int64} : zR l1 σ (sgPJ σ a k v) := ⟨fun _ _ => ⟨rfl, rfl⟩, fun _ _ _ => rfl, fun _ _ _ _ => rfl, fun _ _ _ _ => rfl, fun _ _ _ => rfl, rfl, fun _ => rfl⟩
theorem zR_Qt {l1 : Nat} (h : Inv eda ia K g n S hw σ) (hq : sgQt σ σ2) (he : sgT σ2 eda = 0) (tl : sgT σ l1 = 5) : zR l1 σ σ2 := by
  have lq := inv_LqQt h hq he l1 tl id
  have e := fun a (ha : sgT σ a ≠ 0) => hq.1 a ha
  exact ⟨fun a ha => ⟨(e a ha).1, (e a ha).2.1⟩, fun a k ha => ((e a (by rw [ha]; decide)).2.2 k).1, fun a k ha _ => ((e a (by rw [ha]; decide)).2.2 k).1, fun a k ha _ => ((e a (by rw [ha]; decide)).2.2 k).1, fun a k ha => ((e a (by omega)).2.2 k).2.1, lq.1, fun h0 => lq.2 0 h0⟩
/-- another list is changed -/
theorem zR_l {l1 l2 : Nat} (hT : tFr σ σ2) (fI : ∀ a k, sgT σ a ≠ 0 → sgT σ a ≠ 5 → sgI σ2 a k = sgI σ a k) (fR : ∀ a k, sgT σ a ≠ 0 → sgT σ a ≠ 5 → sgT σ a ≠ 110 → sgR σ2 a k = sgR σ a k) (lq : sgLq (fun a => iX a ∨ a = l2) σ σ2) (tl : sgT σ l1 = 5) (hne : l1 ≠ l2) : zR l1 σ σ2 := by
  have q := lq l1 tl (fun z => z.elim id hne)
  exact ⟨hT, fun a k ha => fI a k (by rw [ha]; decide) (by rw [ha]; decide), fun a k ha _ => fI a k (by rw [ha]; decide) (by rw [ha]; decide), fun a k ha _ => fI a k (by rw [ha]; decide) (by rw [ha]; decide), fun a k ha => fR a k (by omega) (by omega) (by omega), q.1, fun h0 => q.2 0 h0⟩
theorem wPp_z {x : Int32} {pp l1 t0 xe le : Nat} (h : Inv eda ia K g n S hw σ) (w : wPp K g σ x pp l1 t0 xe le) (z : zR l1 σ σ2) : wPp K g σ2 x pp l1 t0 xe le := by
  have tp := (wPp_of h w).1
  have hd := (wPp_of h w).2.2.2.2.1
  obtain ⟨a1, a2, a3, a4, a5, a6, a7⟩ := z
  obtain ⟨w1, w3, w4, w5, w6, w7, w8, e, w9, w10⟩ := w
  have t16 : sgT σ (pDv g σ pp) = 16 := by
    obtain ⟨l, e2, xe2, q1, q2, q3, q4, q5, q6, q7, q8, q9, q10, q11⟩ := inv_P h pp tp
    exact q6
  have t108 : sgT σ e = 108 := by
    obtain ⟨e3, f, h3, v1, v2, v3, v4, -⟩ := inv_D h _ t16
    rw [w9] at v1
    cases v1
    exact v4
  refine ⟨w1, (a5 _ _ (by rw [(inv_tP h).1]; decide)).trans w3, (a5 _ _ (by rw [tp]; decide)).trans w4, by rw [a6]; exact w5, (a7 w5).trans w6, tFr_T a1 w7 (by decide), (a5 _ _ (by rw [w7]; decide)).trans w8, e, ?_, ?_⟩
  · unfold pDv
    rw [a3 pp 0 tp (by decide)]
    exact (a5 _ _ (Or.inl t16)).trans w9
  · rw [a3 pp 1 tp (by decide)]
    exact (a5 _ _ (by rw [t108]; decide)).trans w10
/-- an end's kept counts again -/
theorem inv_ack {xe : Nat} (h : Inv eda ia K (gU g (fun a => gY g a ∨ a = xe)) n S hw σ) (txe : sgT σ xe = 17) (hk : (sgI σ xe 4).toInt = -1) : Inv eda ia K g n S hw σ := by
  have dn : ∀ k, k < n → gDv g k ≠ xe := fun k hk2 z => by
    have := (inv_dv h hk2).2.1
    rw [show gDv (gU g (fun a => gY g a ∨ a = xe)) k = xe from z, txe] at this
    exact absurd this (by decide)
  refine inv_Ydn h (y2 := gY g) (fun x l tx _ _ gx ny => ?_) (fun t l j x p e tt gt ny _ _ _ _ _ _ _ _ _ => ?_) ?_
  · rcases gx with gx | gx
    · exact absurd gx ny
    · rw [gx]; exact Or.inl hk
  · rcases gt with gt | gt
    · exact absurd gt ny
    · rw [gt, txe] at tt; exact absurd tt (by decide)
  · obtain ⟨v1, v2, v3, v4⟩ := inv_R h
    exact ⟨v1, fun k hk2 hy => v2 k hk2 (fun z => z.elim hy (dn k hk2)), fun k h1 hk2 hy => v3 k h1 hk2 (fun z => z.elim hy (dn k hk2)), v4⟩
/-- a transfer's count goes up -/
theorem inv_dn {t0 : Nat} {v : Int32} (h : Inv eda ia K g n S hw σ) (tt : sgT σ t0 = 19) : Inv eda ia K (gU g (fun a => gY g a ∨ a = t0)) n S hw (sgPI σ t0 2 v) := by
  have f : ∀ a j t, sgT σ a = t → t ≠ 19 → sgI (sgPI σ t0 2 v) a j = sgI σ a j := fun a j t h1 h2 => by rw [sgI_PI, if_neg (fun z => h2 (by rw [← h1, z.1]; exact tt))]
  have hR0 := inv_R h
  refine inv_ci (c2 := g.2.2.2.2.1) (y2 := fun a => gY g a ∨ a = t0) h (fun _ _ => ⟨rfl, rfl⟩) (fun _ z => Or.inl z) (inv_LS h).2.2.2 (fun _ _ _ _ => rfl) (fun a ha => f a 2 5 ha (by decide)) (fun a ha => ⟨f a 0 17 ha (by decide), f a 1 17 ha (by decide)⟩) (fun a j ha _ => f a j 18 ha (by decide)) (fun a ha => ⟨sgI_nk (by decide), ?_⟩) (fun _ z => Or.inl z) (fun x l hx _ _ => Or.inl ⟨rfl, f x 4 17 hx (by decide)⟩) (Nat.le_refl _) ?_ (iO_tr h (fun _ => rfl) (fun _ _ => rfl) (fun _ _ => ⟨rfl, rfl⟩) (fun j p _ hp => hp) (fun p j hp _ => f p j 18 hp (by decide)) (fun _ _ => rfl) (fun e j x _ hx => hx) (fun d hd hu _ => by rw [f d 6 16 hd (by decide)]; exact hu)) (iR_tr h (fun _ _ => rfl) (fun _ _ z => Or.inl z) (fun a j ha _ => f a j 16 ha (by decide)))
  · by_cases z : a = t0
    · exact Or.inr (Or.inr z)
    · exact Or.inl (by rw [sgI_PI, if_neg (fun w => z w.1)])
  · have hMi := (inv_M h).2.2
    unfold iMi at hMi ⊢
    rw [f _ 9 20 (inv_A h) (by decide), f _ 10 20 (inv_A h) (by decide), f _ 11 20 (inv_A h) (by decide)]
    exact hMi
theorem inv_dnB {D : va_G} {cy : Nat → ClassId} {s : State} {σ0 : SG} {H : Heap} {locs : List Loc} {N9 n9 t0 : Nat} {v : Int32} (_hB : sgB D cy s σ0 (sgPI σ t0 2 v) H locs N9 n9) (h : Inv eda ia K g n S hw σ) (tt : sgT σ t0 = 19) : Inv eda ia K (gU g (fun a => gY g a ∨ a = t0)) n S hw (sgPI σ t0 2 v) := inv_dn h tt
/-- the transfer counts again: it is in no row, or stands well -/
theorem inv_dnx {t0 : Nat} (h : Inv eda ia K (gU g (fun a => gY g a ∨ a = t0)) n S hw σ) (tt : sgT σ t0 = 19) (hd : ∀ l j x p e, sgT σ l = 5 → gRo g l = 7 → sgT σ p = 18 → sgR σ p 9 = some l → gOw g l = p → sgR σ (pDv g σ p) 13 = some e → sgR σ e (sgI σ p 1).toInt.toNat = some x → j < sgSz σ l → sgAt σ l j = some t0 → iW σ x t0) : Inv eda ia K g n S hw σ := by
  have dn : ∀ k, k < n → gDv g k ≠ t0 := fun k hk2 z => by
    have := (inv_dv h hk2).2.1
    rw [show gDv (gU g (fun a => gY g a ∨ a = t0)) k = t0 from z, tt] at this
    exact absurd this (by decide)
  refine inv_Ydn h (y2 := gY g) (fun x l tx _ _ gx ny => ?_) (fun t l j x p e tt2 gt ny a1 a2 a3 a4 a5 a6 a7 a8 a9 => ?_) ?_
  · rcases gx with gx | gx
    · exact absurd gx ny
    · rw [gx, tt] at tx; exact absurd tx (by decide)
  · rcases gt with gt | gt
    · exact absurd gt ny
    · subst gt; exact hd l j x p e a1 a2 a3 a4 a5 a6 a7 a8 a9
  · obtain ⟨v1, v2, v3, v4⟩ := inv_R h
    exact ⟨v1, fun k hk2 hy => v2 k hk2 (fun z => z.elim hy (dn k hk2)), fun k h1 hk2 hy => v3 k h1 hk2 (fun z => z.elim hy (dn k hk2)), v4⟩
/-- behind the end of the first transfer -/
theorem inv_dne {x : Int32} {pp l1 t0 xe le : Nat} (h : Inv eda ia K (gU g (fun a => gY g a ∨ a = t0)) n S hw σ) (w : wPp K g σ x pp l1 t0 xe le) (h2 : Inv eda ia K (gU g (fun a => gY g a ∨ a = t0)) n S hw σ2) (hz : sgSz σ2 l1 = sgSz σ l1 - 1) (ha : ∀ j, j + 1 < sgSz σ l1 → sgAt σ2 l1 j = sgAt σ l1 (j + 1)) (hf : eFr σ σ2) : Inv eda ia K g n S hw σ2 := by
  obtain ⟨tp, ⟨tl, rl, ol⟩, ⟨tt, ot, -⟩, -, -, -, -, -, -, hrw⟩ := wPp_of (g := gU g (fun a => gY g a ∨ a = t0)) h w
  have w4 := w.2.2.1
  have w5 := w.2.2.2.1
  have w6 := w.2.2.2.2.1
  refine inv_dnx h2 (tFr_T hf.1 tt (by decide)) (fun l j y p e a1 a2 a3 a4 a5 _ _ a8 a9 => ?_)
  exfalso
  obtain ⟨y0, y1, y2⟩ := inv_L h2 l a1 j a8
  rw [a9] at y1
  cases y1
  unfold iEl at y2
  rw [show gRo (gU g (fun a => gY g a ∨ a = t0)) l = 7 from a2] at y2
  have ep : pp = p := by
    have e1 : gOw g t0 = gOw g l := y2.2
    have e2 : gOw g t0 = pp := ot
    rw [← e2, e1, a5]
  subst ep
  have e3 := hf.2.2 pp 9 (by rw [tp]; decide) (by rw [tp]; decide) (by rw [tp]; decide)
  rw [a4, w4] at e3
  cases e3
  rw [hz] at a8
  rw [ha j (by omega)] at a9
  have := hrw.1 0 (j + 1) t0 w5 (by omega) w6 a9
  omega
/-- the first transfer goes on -/
theorem inv_dnw {x : Int32} {pp l1 t0 xe le : Nat} (h : Inv eda ia K (gU g (fun a => gY g a ∨ a = t0)) n S hw σ) (w : wPp K g σ x pp l1 t0 xe le) (hw2 : iW σ xe t0) : Inv eda ia K g n S hw σ := by
  obtain ⟨tp, ⟨tl, rl, ol⟩, ⟨tt, ot, -⟩, -, -, -, -, -, -, hrw⟩ := wPp_of (g := gU g (fun a => gY g a ∨ a = t0)) h w
  obtain ⟨-, -, -, -, -, -, -, e0, w9, w10⟩ := w
  refine inv_dnx h tt (fun l j y p e a1 a2 a3 a4 a5 a6 a7 a8 a9 => ?_)
  obtain ⟨y0, y1, y2⟩ := inv_L h l a1 j a8
  rw [a9] at y1
  cases y1
  unfold iEl at y2
  rw [show gRo (gU g (fun a => gY g a ∨ a = t0)) l = 7 from a2] at y2
  have ep : pp = p := by
    have e1 : gOw g t0 = gOw g l := y2.2
    have e2 : gOw g t0 = pp := ot
    rw [← e2, e1, a5]
  subst ep
  rw [w9] at a6
  cases a6
  rw [w10] at a7
  cases a7
  exact hw2
end MM28A
theorem dX14_acknowledged_0 : decode cX14_acknowledged 0 = .ok (.iconst 0, 1) := by decide +kernel
theorem dX14_acknowledged_1 : decode cX14_acknowledged 1 = .ok (.istore_n 3, 1) := by decide +kernel
theorem dX14_acknowledged_2 : decode cX14_acknowledged 2 = .ok (.iload_n 3, 1) := by decide +kernel
theorem dX14_acknowledged_3 : decode cX14_acknowledged 3 = .ok (.iload_n 2, 1) := by decide +kernel
theorem dX14_acknowledged_4 : decode cX14_acknowledged 4 = .ok (.if_icmp .ge 25, 3) := by decide +kernel
theorem dX14_acknowledged_7 : decode cX14_acknowledged 7 = .ok (.aload_n 1, 1) := by decide +kernel
theorem dX14_acknowledged_8 : decode cX14_acknowledged 8 = .ok (.getfield 320, 3) := by decide +kernel
theorem dX14_acknowledged_11 : decode cX14_acknowledged 11 = .ok (.iconst 0, 1) := by decide +kernel
theorem dX14_acknowledged_12 : decode cX14_acknowledged 12 = .ok (.invokevirtual 272, 3) := by decide +kernel
theorem dX14_acknowledged_15 : decode cX14_acknowledged 15 = .ok (.checkcast 213, 3) := by decide +kernel
theorem dX14_acknowledged_18 : decode cX14_acknowledged 18 = .ok (.invokevirtual 222, 3) := by decide +kernel
theorem dX14_acknowledged_21 : decode cX14_acknowledged 21 = .ok (.istore 4, 2) := by decide +kernel
theorem dX14_acknowledged_23 : decode cX14_acknowledged 23 = .ok (.iinc 3 1, 3) := by decide +kernel
theorem dX14_acknowledged_26 : decode cX14_acknowledged 26 = .ok (.goto (-24), 3) := by decide +kernel
theorem dX14_acknowledged_29 : decode cX14_acknowledged 29 = .ok (.aload_n 1, 1) := by decide +kernel
theorem dX14_acknowledged_30 : decode cX14_acknowledged 30 = .ok (.iconst (-1), 1) := by decide +kernel
theorem dX14_acknowledged_31 : decode cX14_acknowledged 31 = .ok (.putfield 269, 3) := by decide +kernel
theorem dX14_acknowledged_34 : decode cX14_acknowledged 34 = .ok (.aload_n 0, 1) := by decide +kernel
theorem dX14_acknowledged_35 : decode cX14_acknowledged 35 = .ok (.dup, 1) := by decide +kernel
theorem dX14_acknowledged_36 : decode cX14_acknowledged 36 = .ok (.getfield 381, 3) := by decide +kernel
theorem dX14_acknowledged_39 : decode cX14_acknowledged 39 = .ok (.iconst 1, 1) := by decide +kernel
theorem dX14_acknowledged_40 : decode cX14_acknowledged 40 = .ok (.iadd, 1) := by decide +kernel
theorem dX14_acknowledged_41 : decode cX14_acknowledged 41 = .ok (.putfield 381, 3) := by decide +kernel
theorem dX14_acknowledged_44 : decode cX14_acknowledged 44 = .ok (.return_, 1) := by decide +kernel
set_option maxRecDepth 100000 in
set_option maxHeartbeats 4000000 in
theorem m_ack (l : Launch) (D : va_G) (cy : Nat → ClassId) {eda ca : Nat} {ia : Nat → Nat} {σ : SG} {K : KM} {g : GH} {n S hw : Nat} (h : Inv eda ia K g n S hw σ) {xe le l1 : Nat} (txe : sgT σ xe = 17) (hle : sgR σ xe 3 = some le) (tl : sgT σ l1 = 5) (hne : l1 ≠ le) (b : Int32) (hb1 : 0 ≤ b.toInt) (hb2 : b.toInt ≤ sgSz σ le) (hb3 : b.toInt ≤ 1000) (sz : Nat) : sgM l D cy eda ca ia σ sz yX14_acknowledged (Cond.code yX14_acknowledged cX14_acknowledged 5 none :: mWall) 3 86 0 0 [.ref (kA K), .ref xe, .int b] (fun v σ2 => v = none ∧ Inv eda ia K g n S hw σ2 ∧ zR l1 σ σ2) := by
  refine sg_ofW (cc := cX14_acknowledged) (maxL := 5) (ret := none) (by decide) rfl (Nat.le_of_ble_eq_true rfl) (lv := [(0, .ref (kA K)), (1, .ref xe), (2, .int b)]) rfl (fun p e s m below meth c ls H N hrt hnm F hB hl => ?_) sz
  have hx := F.1.1
  have hb := F.1.2.1
  have hown := F.1.2.2.2.1
  obtain ⟨le2, ple, tle, rle, ole, sle, -⟩ := inv_el h txe
  rw [hle] at ple
  cases ple
  generalize hlo : ([] : List Loc) = locs at hB ⊢
  clear hlo
  refine lv_iconst (v := 0) hx hb dX14_acknowledged_0 (by decide) ?_
  refine lv_istore_n (lv' := [(3, .int _), (0, .ref _), (1, .ref _), (2, .int _)]) hx hb dX14_acknowledged_1 rfl hl (by decide) rfl (fun ls hl => ?_)
  have key2 : ∃ (σ3 : SG) (k9 : Int32), sgB D cy s σ σ3 H locs N 0 ∧ lv_has ls 5 [(3, .int k9), (2, .int b), (1, .ref xe), (0, .ref (kA K))] ∧ Inv eda ia K (gU g (fun a => gY g a ∨ a = xe)) n S hw σ3 ∧ (0 ≤ k9.toInt ∧ k9.toInt ≤ b.toInt) ∧ sgSz σ3 le = sgSz σ le - k9.toInt.toNat ∧ zR l1 σ σ3 := ⟨_, _, hB, (lv_sub hl [0, 3, 2, 1] rfl), inv_Yup h (fun _ z => Or.inl z), ⟨by decide, by rw [m_i0]; exact hb1⟩, by rw [m_i0]; rfl, zR_rf⟩
  clear hB hl
  obtain ⟨σ3, k9, hB, hl, hI3, hi, hz3, hzr⟩ := key2
  obtain ⟨d2, hd2⟩ : ∃ d : Nat, d = (b.toInt - k9.toInt).toNat := ⟨_, rfl⟩
  induction d2 using Nat.strongRecOn generalizing H locs ls N σ3 k9
  rename_i d2 ih2
  have tx3 : sgT σ3 xe = 17 := tFr_T hzr.1 txe (by decide)
  have tle3 : sgT σ3 le = 5 := tFr_T hzr.1 tle (by decide)
  have hle3 : sgR σ3 xe 3 = some le := (hzr.2.2.2.2.1 xe 3 (by rw [txe]; decide)).trans hle
  have tl3 : sgT σ3 l1 = 5 := tFr_T hzr.1 tl (by decide)
  refine lv_iload_n hx hb dX14_acknowledged_2 rfl (lv_at hl 0 rfl) ?_
  refine lv_iload_n hx hb dX14_acknowledged_3 rfl (lv_at hl 1 rfl) ?_
  refine lv_icmp_ge (tgt := 29) hx hb dX14_acknowledged_4 (by decide) (fun c4 => ?_) (fun c4 => ?_)
  · refine lv_aload_n hx hb dX14_acknowledged_29 rfl (lv_at hl 2 rfl) ?_
    refine lv_iconst (v := (-1)) hx hb dX14_acknowledged_30 (by decide) ?_
    refine pf_X14_269 F hB dX14_acknowledged_31 tx3 (fun H locs hBn => ?_)
    clear hB; have hB := hBn; clear hBn
    have hI31 := inv_kpB hB hI3 tx3 (Or.inl (Or.inr rfl))
    refine lv_aload_n hx hb dX14_acknowledged_34 rfl (lv_at hl 3 rfl) ?_
    refine lv_dup hx hb dX14_acknowledged_35 rfl ?_
    refine gf_X14_381 F hB dX14_acknowledged_36 (inv_A hI31) ?_
    refine lv_iconst (v := 1) hx hb dX14_acknowledged_39 (by decide) ?_
    refine lv_iadd hx hb dX14_acknowledged_40 ?_
    refine pf_X14_381 F hB dX14_acknowledged_41 (inv_A hI31) (fun H locs hBn => ?_)
    clear hB; have hB := hBn; clear hBn
    have hI41 := inv_PIc (t := 20) hB hI31 (inv_A hI31) (by unfold iCn; omega)
    exact sg_vret F hB hrt dX14_acknowledged_44 (by decide) (by decide) (⟨rfl, inv_ack hI41 (by exact tx3) (by rw [sgI_nk (by decide), sgI_PI, if_pos ⟨rfl, rfl⟩]; rfl), zR_tr hzr (zR_tr (zR_PI tx3 (by decide) tl3) (zR_PI (t := 20) (inv_A hI31) (by decide) (by exact tl3)))⟩)
  · have hi3 := i_nle c4
    have h03 : 0 < sgSz σ3 le := by omega
    obtain ⟨r1, za, zb⟩ := (inv_LS hI3).1 _ tle3 id
    have gs := sgLz_s za h03
    obtain ⟨t9, v1, v2⟩ := inv_L hI3 le tle3 0 h03
    refine lv_aload_n hx hb dX14_acknowledged_7 rfl (lv_at hl 2 rfl) ?_
    refine gr_X14_320 F hB dX14_acknowledged_8 tx3 hle3 ?_
    refine lv_iconst (v := 0) hx hb dX14_acknowledged_11 (by decide) ?_
    refine sg_callV (ci := 4) F hB (m_remove0 l D cy gs h03 (fun j y _ hy => (inv_LS hI3).2.2.1 r1 j y gs.2.2.1 hy) (by rw [← sgAt_of gs.2.1]; exact v1) _) (cwV 1 F.1.2.2.2.2 (mgV (mm_5 _ (List.mem_of_getElem? (i := 29) rfl)) (mm_5 _ (List.mem_of_getElem? (i := 30) rfl)) (mm_5 _ (List.mem_of_getElem? (i := 31) rfl)) (mm_0 _ (List.mem_of_getElem? (i := 35) rfl)) (mm_5 _ (List.mem_of_getElem? (i := 21) rfl))) rfl rfl rfl ⟨rfl, by decide, by decide, by decide +kernel⟩ ⟨Nat.le_of_ble_eq_true rfl, Nat.le_of_ble_eq_true rfl⟩) rfl rfl (by decide) rfl hl.1 rfl (Nat.le_of_ble_eq_true rfl) dX14_acknowledged_12 (Nat.le_of_ble_eq_true rfl) (Nat.add_le_add_right (Nat.le_of_ble_eq_true rfl) _) tle3 (fun H locs v σ12 N hBn hX12 hP => ?_)
    clear hB; have hB := hBn; clear hBn
    obtain ⟨rfl, ho, ho1, ho2, ho3, ho4⟩ := hP
    obtain ⟨hI12, rm1, rm2, rm3, rm4, rm5⟩ := inv_rm hI3 gs h03 ho ho1 ho3 ho2 ho4 (fun z => absurd (rle.symm.trans z) (by decide)) (fun _ _ => Or.inl (Or.inr ole))
    have hbx : sgBx ia σ12 t9 := sgBx_mono (fun a _ => ho.1 a) (by unfold iEl at v2; rw [show gRo (gU g (fun a => gY g a ∨ a = xe)) le = 6 from rle] at v2; exact v2)
    refine va_castY hx hb hown (F.1.2.2.2.2 _ (List.mem_cons_of_mem _ (mm_8 _ (List.mem_of_getElem? (i := 3) rfl)))) (F.2.2.1.2.2 ("java/lang/Integer", "java/lang/Integer") (by decide +kernel)) (sg_rbx F hB hbx) dX14_acknowledged_15 ?_
    refine sg_callVr F hB (m_unbox l D cy hbx _) (cwV 0 F.1.2.2.2.2 (mgV (mm_8 _ (List.mem_of_getElem? (i := 5) rfl)) (mm_8 _ (List.mem_of_getElem? (i := 6) rfl)) (mm_8 _ (List.mem_of_getElem? (i := 7) rfl)) (mm_7 _ (List.mem_of_getElem? (i := 30) rfl)) (mm_8 _ (List.mem_of_getElem? (i := 1) rfl))) rfl rfl rfl ⟨rfl, by decide, by decide, by decide +kernel⟩ ⟨Nat.le_of_ble_eq_true rfl, Nat.le_of_ble_eq_true rfl⟩) rfl hl.1 rfl (Nat.le_of_ble_eq_true rfl) dX14_acknowledged_18 (Nat.le_of_ble_eq_true rfl) (Nat.add_le_add_right (Nat.le_of_ble_eq_true rfl) _) (sg_rbx F hB hbx) (fun H locs v σ18 N hBn hX18 hP => ?_)
    clear hB; have hB := hBn; clear hBn
    obtain ⟨⟨w18, rfl⟩, rfl⟩ := hP
    refine lv_istore (lv' := [(4, .int _), (3, .int _), (2, .int _), (1, .ref _), (0, .ref _)]) hx hb dX14_acknowledged_21 hl (by decide) rfl (fun ls hl => ?_)
    refine lv_iinc (lv' := [(3, .int _), (4, .int _), (2, .int _), (1, .ref _), (0, .ref _)]) hx hb dX14_acknowledged_23 hl (k := 1) rfl rfl (by decide) rfl (fun ls hl => ?_)
    refine lv_goto (tgt := 2) hx hb dX14_acknowledged_26 (by decide) ?_
    have hi3 := i_nle c4
    have e9 : (k9 + Int32.ofInt 1).toInt = k9.toInt + 1 := m_add1 (by omega) (by omega)
    exact ih2 _ (by subst hd2; rw [e9]; omega) _ _ _ _ _ _ hB (lv_sub hl [0, 2, 3, 4] rfl) hI12 ⟨by rw [e9]; omega, by rw [e9]; omega⟩ (by rw [e9]; omega) (zR_tr hzr (zR_l (l2 := le) (fun a _ => ho.1 a) (fun a k _ h5 => ho.2.2.1 a k (fun z => h5 (by rw [z]; exact tle3))) rm5 rm4 tl3 hne)) rfl
end MM28
