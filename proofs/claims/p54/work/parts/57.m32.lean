section MM32
theorem inv_lb {eda n S hw: Nat} {ia : Nat → Nat} {K : KM} {g : GH} {σ : SG} {v : Int32} (h : Inv eda ia K g n S hw σ) (hv : -1 ≤ v.toInt ∧ v.toInt ≤ 11) : Inv eda ia K g n S hw (sgPI σ (kA K) 10 v) := by
  have tA := inv_A h
  have f : ∀ a j t, sgT σ a = t → t ≠ 20 → sgI (sgPI σ (kA K) 10 v) a j = sgI σ a j := fun a j t h1 h2 => by rw [sgI_PI, if_neg (fun z => h2 (by rw [← h1, z.1]; exact tA))]
  refine inv_ci (σ2 := (sgPI σ (kA K) 10 v)) (c2 := g.2.2.2.2.1) (y2 := g.2.2.2.2.2) h (fun _ _ => ⟨rfl, rfl⟩) (fun _ z => Or.inl z) (inv_LS h).2.2.2 (fun _ _ _ _ => rfl) (fun a ha => f a 2 5 ha (by decide)) (fun a ha => ⟨f a 0 17 ha (by decide), f a 1 17 ha (by decide)⟩) (fun a j ha _ => f a j 18 ha (by decide)) (fun a ha => ⟨f a 1 19 ha (by decide), Or.inl (f a 2 19 ha (by decide))⟩) (fun _ z => z) (fun x l hx _ _ => Or.inl ⟨rfl, f x 4 17 hx (by decide)⟩) (by omega) ?_ (iO_tr h (fun _ => rfl) (fun _ _ => rfl) (fun _ _ => ⟨rfl, rfl⟩) (fun j p _ hp => hp) (fun p j hp _ => f p j 18 hp (by decide)) (fun _ _ => rfl) (fun e j x _ hx => hx) (fun d hd hu _ => by rw [f d 6 16 hd (by decide)]; exact hu)) (iR_tr h (fun _ _ => rfl) (fun _ _ z => z) (fun a j ha _ => f a j 16 ha (by decide)))
  have hMi := (inv_M h).2.2
  unfold iMi at hMi ⊢
  rw [sgI_nk (j := 11) (k := 10) (by decide), sgI_nk (j := 9) (k := 10) (by decide), sgI_PI, if_pos ⟨rfl, rfl⟩]
  exact ⟨hv, hMi.2⟩
theorem inv_fr {eda n S hw: Nat} {ia : Nat → Nat} {K : KM} {g : GH} {σ : SG} {v : Int32} (h : Inv eda ia K g n S hw σ) (hv : v.toInt = (sgI σ (kA K) 9).toInt + 1) (hS : S + 100 ≤ 60000) : Inv eda ia K g n (S + 100) 100 (sgPI (sgPI σ (kA K) 9 v) (kA K) 11 100) := by
  have tA := inv_A h
  have f : ∀ a j t, sgT σ a = t → t ≠ 20 → sgI (sgPI (sgPI σ (kA K) 9 v) (kA K) 11 100) a j = sgI σ a j := fun a j t h1 h2 => by rw [sgI_PI, if_neg (fun z => h2 (by rw [← h1, z.1]; exact tA))]; rw [sgI_PI, if_neg (fun z => h2 (by rw [← h1, z.1]; exact tA))]
  refine inv_ci (σ2 := (sgPI (sgPI σ (kA K) 9 v) (kA K) 11 100)) (c2 := g.2.2.2.2.1) (y2 := g.2.2.2.2.2) h (fun _ _ => ⟨rfl, rfl⟩) (fun _ z => Or.inl z) (inv_LS h).2.2.2 (fun _ _ _ _ => rfl) (fun a ha => f a 2 5 ha (by decide)) (fun a ha => ⟨f a 0 17 ha (by decide), f a 1 17 ha (by decide)⟩) (fun a j ha _ => f a j 18 ha (by decide)) (fun a ha => ⟨f a 1 19 ha (by decide), Or.inl (f a 2 19 ha (by decide))⟩) (fun _ z => z) (fun x l hx _ _ => Or.inl ⟨rfl, f x 4 17 hx (by decide)⟩) (by omega) ?_ (iO_tr h (fun _ => rfl) (fun _ _ => rfl) (fun _ _ => ⟨rfl, rfl⟩) (fun j p _ hp => hp) (fun p j hp _ => f p j 18 hp (by decide)) (fun _ _ => rfl) (fun e j x _ hx => hx) (fun d hd hu _ => by rw [f d 6 16 hd (by decide)]; exact hu)) (iR_tr h (fun _ _ => rfl) (fun _ _ z => z) (fun a j ha _ => f a j 16 ha (by decide)))
  have hMi := (inv_M h).2.2
  unfold iMi at hMi ⊢
  obtain ⟨q1, q2, q3, q4, q5, q6⟩ := hMi
  rw [sgI_nk (j := 10) (k := 11) (by decide), sgI_nk (j := 10) (k := 9) (by decide), sgI_nk (j := 9) (k := 11) (by decide), sgI_PI, if_pos ⟨rfl, rfl⟩, sgI_PI, if_pos ⟨rfl, rfl⟩, hv]
  exact ⟨q1, rfl, Nat.le_refl _, by omega, by omega, by omega⟩
theorem inv_lbB {D : va_G} {cy : Nat → ClassId} {s : State} {σ00 σ : SG} {H : Heap} {locs : List Loc} {N n9 eda n S hw : Nat} {ia : Nat → Nat} {K : KM} {g : GH} {v : Int32} (_hB : sgB D cy s σ00 (sgPI σ (kA K) 10 v) H locs N n9) (h : Inv eda ia K g n S hw σ) (hv : -1 ≤ v.toInt ∧ v.toInt ≤ 11) : Inv eda ia K g n S hw (sgPI σ (kA K) 10 v) := inv_lb h hv
theorem inv_frB {D : va_G} {cy : Nat → ClassId} {s : State} {σ00 σ : SG} {H : Heap} {locs : List Loc} {N n9 eda n S hw : Nat} {ia : Nat → Nat} {K : KM} {g : GH} {v : Int32} (_hB : sgB D cy s σ00 (sgPI (sgPI σ (kA K) 9 v) (kA K) 11 100) H locs N n9) (h : Inv eda ia K g n S hw σ) (hv : v.toInt = (sgI σ (kA K) 9).toInt + 1) (hS : S + 100 ≤ 60000) : Inv eda ia K g n (S + 100) 100 (sgPI (sgPI σ (kA K) 9 v) (kA K) 11 100) := inv_fr h hv hS
theorem m_md : ∀ n, n ≤ 12 → 0 ≤ (nI n - nI n / 12 * 12).toInt ∧ (nI n - nI n / 12 * 12).toInt ≤ 11 := by decide +kernel
theorem m_mod12 {x : Int32} (h1 : 0 ≤ x.toInt) (h2 : x.toInt ≤ 12) : 0 ≤ (x - x / 12 * 12).toInt ∧ (x - x / 12 * 12).toInt ≤ 11 := by
  obtain ⟨n, hn, e1, e2⟩ := vi_ofNat (x := x) h1
  rw [e1]
  exact m_md n (by omega)
theorem m_pos {w : Int32} (h : w = 1 ∨ w = 2) (c : w ≤ 0) : False := by
  rcases h with rfl | rfl <;> exact absurd c (by decide)
theorem m_doesF {eda n S hw : Nat} {ia : Nat → Nat} {K : KM} {g : GH} {σ : SG} : ∀ (v : Option Value) (σ2 : SG), (∃ (y : Int32) (hw2 : Nat), v = some (.int y) ∧ Inv eda ia K g n S hw2 σ2 ∧ ((y = 0 ∧ hw2 = hw ∧ σ2 = σ) ∨ ((y = 1 ∨ y = 2) ∧ hw2 + 3 ≤ hw))) → ∃ w : Int32, v = some (.int w) ∧ (w = 0 → σ2 = σ) := by
  rintro v σ2 ⟨y, h2, e1, _, e3⟩
  refine ⟨y, e1, fun z => ?_⟩
  rcases e3 with q | q
  · exact q.2.2
  · rcases q.1 with w | w <;> (rw [w] at z; exact absurd z (by decide))
theorem m_doesN {eda n S hw : Nat} {ia : Nat → Nat} {K : KM} {g : GH} {σ σ2 : SG} {w : Int32} (hw0 : ¬ w = 0) (h : ∃ (y : Int32) (hw2 : Nat), some (Value.int w) = some (.int y) ∧ Inv eda ia K g n S hw2 σ2 ∧ ((y = 0 ∧ hw2 = hw ∧ σ2 = σ) ∨ ((y = 1 ∨ y = 2) ∧ hw2 + 3 ≤ hw))) : ∃ hw2 : Nat, Inv eda ia K g n S hw2 σ2 ∧ (w = 1 ∨ w = 2) ∧ hw2 + 3 ≤ hw := by
  obtain ⟨y, h2, e1, e2, e3⟩ := h
  injection e1 with e1
  injection e1 with e1
  subst e1
  rcases e3 with q | q
  · exact absurd q.1 hw0
  · exact ⟨h2, e2, q⟩
theorem dX14_bulk_0 : decode cX14_bulk 0 = .ok (.iconst 0, 1) := by decide +kernel
theorem dX14_bulk_1 : decode cX14_bulk 1 = .ok (.istore_n 1, 1) := by decide +kernel
theorem dX14_bulk_2 : decode cX14_bulk 2 = .ok (.iconst 0, 1) := by decide +kernel
theorem dX14_bulk_3 : decode cX14_bulk 3 = .ok (.istore_n 2, 1) := by decide +kernel
theorem dX14_bulk_4 : decode cX14_bulk 4 = .ok (.iconst 0, 1) := by decide +kernel
theorem dX14_bulk_5 : decode cX14_bulk 5 = .ok (.istore_n 3, 1) := by decide +kernel
theorem dX14_bulk_6 : decode cX14_bulk 6 = .ok (.aload_n 0, 1) := by decide +kernel
theorem dX14_bulk_7 : decode cX14_bulk 7 = .ok (.getfield 38, 3) := by decide +kernel
theorem dX14_bulk_10 : decode cX14_bulk 10 = .ok (.istore 4, 2) := by decide +kernel
theorem dX14_bulk_12 : decode cX14_bulk 12 = .ok (.iload_n 3, 1) := by decide +kernel
theorem dX14_bulk_13 : decode cX14_bulk 13 = .ok (.bipush 12, 2) := by decide +kernel
theorem dX14_bulk_15 : decode cX14_bulk 15 = .ok (.if_icmp .ge 132, 3) := by decide +kernel
theorem dX14_bulk_18 : decode cX14_bulk 18 = .ok (.iload 4, 2) := by decide +kernel
theorem dX14_bulk_20 : decode cX14_bulk 20 = .ok (.iconst 1, 1) := by decide +kernel
theorem dX14_bulk_21 : decode cX14_bulk 21 = .ok (.iadd, 1) := by decide +kernel
theorem dX14_bulk_22 : decode cX14_bulk 22 = .ok (.bipush 12, 2) := by decide +kernel
theorem dX14_bulk_24 : decode cX14_bulk 24 = .ok (.irem, 1) := by decide +kernel
theorem dX14_bulk_25 : decode cX14_bulk 25 = .ok (.istore 4, 2) := by decide +kernel
theorem dX14_bulk_27 : decode cX14_bulk 27 = .ok (.aload_n 0, 1) := by decide +kernel
theorem dX14_bulk_28 : decode cX14_bulk 28 = .ok (.getfield 18, 3) := by decide +kernel
theorem dX14_bulk_31 : decode cX14_bulk 31 = .ok (.iload 4, 2) := by decide +kernel
theorem dX14_bulk_33 : decode cX14_bulk 33 = .ok (.aaload, 1) := by decide +kernel
theorem dX14_bulk_34 : decode cX14_bulk 34 = .ok (.ifnull 29, 3) := by decide +kernel
theorem dX14_bulk_37 : decode cX14_bulk 37 = .ok (.aload_n 0, 1) := by decide +kernel
theorem dX14_bulk_38 : decode cX14_bulk 38 = .ok (.getfield 18, 3) := by decide +kernel
theorem dX14_bulk_41 : decode cX14_bulk 41 = .ok (.iload 4, 2) := by decide +kernel
theorem dX14_bulk_43 : decode cX14_bulk 43 = .ok (.aaload, 1) := by decide +kernel
theorem dX14_bulk_44 : decode cX14_bulk 44 = .ok (.invokevirtual 226, 3) := by decide +kernel
theorem dX14_bulk_47 : decode cX14_bulk 47 = .ok (.ifCond .ne 16, 3) := by decide +kernel
theorem dX14_bulk_50 : decode cX14_bulk 50 = .ok (.iload_n 1, 1) := by decide +kernel
theorem dX14_bulk_51 : decode cX14_bulk 51 = .ok (.iload 4, 2) := by decide +kernel
theorem dX14_bulk_53 : decode cX14_bulk 53 = .ok (.ishr, 1) := by decide +kernel
theorem dX14_bulk_54 : decode cX14_bulk 54 = .ok (.iconst 1, 1) := by decide +kernel
theorem dX14_bulk_55 : decode cX14_bulk 55 = .ok (.iand, 1) := by decide +kernel
theorem dX14_bulk_56 : decode cX14_bulk 56 = .ok (.ifCond .ne 7, 3) := by decide +kernel
theorem dX14_bulk_59 : decode cX14_bulk 59 = .ok (.iconst 1, 1) := by decide +kernel
theorem dX14_bulk_60 : decode cX14_bulk 60 = .ok (.goto 4, 3) := by decide +kernel
theorem dX14_bulk_63 : decode cX14_bulk 63 = .ok (.iconst 0, 1) := by decide +kernel
theorem dX14_bulk_64 : decode cX14_bulk 64 = .ok (.istore 5, 2) := by decide +kernel
theorem dX14_bulk_66 : decode cX14_bulk 66 = .ok (.iload 5, 2) := by decide +kernel
theorem dX14_bulk_68 : decode cX14_bulk 68 = .ok (.ifCond .eq 12, 3) := by decide +kernel
theorem dX14_bulk_71 : decode cX14_bulk 71 = .ok (.aload_n 0, 1) := by decide +kernel
theorem dX14_bulk_72 : decode cX14_bulk 72 = .ok (.iload 4, 2) := by decide +kernel
theorem dX14_bulk_74 : decode cX14_bulk 74 = .ok (.invokevirtual 397, 3) := by decide +kernel
theorem dX14_bulk_77 : decode cX14_bulk 77 = .ok (.goto 4, 3) := by decide +kernel
theorem dX14_bulk_80 : decode cX14_bulk 80 = .ok (.iconst 0, 1) := by decide +kernel
theorem dX14_bulk_81 : decode cX14_bulk 81 = .ok (.istore 6, 2) := by decide +kernel
theorem dX14_bulk_83 : decode cX14_bulk 83 = .ok (.iload_n 1, 1) := by decide +kernel
theorem dX14_bulk_84 : decode cX14_bulk 84 = .ok (.iload 6, 2) := by decide +kernel
theorem dX14_bulk_86 : decode cX14_bulk 86 = .ok (.iconst 2, 1) := by decide +kernel
theorem dX14_bulk_87 : decode cX14_bulk 87 = .ok (.if_icmp .ne 10, 3) := by decide +kernel
theorem dX14_bulk_90 : decode cX14_bulk 90 = .ok (.iconst 1, 1) := by decide +kernel
theorem dX14_bulk_91 : decode cX14_bulk 91 = .ok (.iload 4, 2) := by decide +kernel
theorem dX14_bulk_93 : decode cX14_bulk 93 = .ok (.ishl, 1) := by decide +kernel
theorem dX14_bulk_94 : decode cX14_bulk 94 = .ok (.goto 4, 3) := by decide +kernel
theorem dX14_bulk_97 : decode cX14_bulk 97 = .ok (.iconst 0, 1) := by decide +kernel
theorem dX14_bulk_98 : decode cX14_bulk 98 = .ok (.ior, 1) := by decide +kernel
theorem dX14_bulk_99 : decode cX14_bulk 99 = .ok (.istore_n 1, 1) := by decide +kernel
theorem dX14_bulk_100 : decode cX14_bulk 100 = .ok (.iload_n 2, 1) := by decide +kernel
theorem dX14_bulk_101 : decode cX14_bulk 101 = .ok (.iload 6, 2) := by decide +kernel
theorem dX14_bulk_103 : decode cX14_bulk 103 = .ok (.ifCond .le 7, 3) := by decide +kernel
theorem dX14_bulk_106 : decode cX14_bulk 106 = .ok (.iconst 1, 1) := by decide +kernel
theorem dX14_bulk_107 : decode cX14_bulk 107 = .ok (.goto 4, 3) := by decide +kernel
theorem dX14_bulk_110 : decode cX14_bulk 110 = .ok (.iconst 0, 1) := by decide +kernel
theorem dX14_bulk_111 : decode cX14_bulk 111 = .ok (.iadd, 1) := by decide +kernel
theorem dX14_bulk_112 : decode cX14_bulk 112 = .ok (.istore_n 2, 1) := by decide +kernel
theorem dX14_bulk_113 : decode cX14_bulk 113 = .ok (.aload_n 0, 1) := by decide +kernel
theorem dX14_bulk_114 : decode cX14_bulk 114 = .ok (.iload 6, 2) := by decide +kernel
theorem dX14_bulk_116 : decode cX14_bulk 116 = .ok (.ifCond .le 8, 3) := by decide +kernel
theorem dX14_bulk_119 : decode cX14_bulk 119 = .ok (.iload 4, 2) := by decide +kernel
theorem dX14_bulk_121 : decode cX14_bulk 121 = .ok (.goto 7, 3) := by decide +kernel
theorem dX14_bulk_124 : decode cX14_bulk 124 = .ok (.aload_n 0, 1) := by decide +kernel
theorem dX14_bulk_125 : decode cX14_bulk 125 = .ok (.getfield 38, 3) := by decide +kernel
theorem dX14_bulk_128 : decode cX14_bulk 128 = .ok (.putfield 38, 3) := by decide +kernel
theorem dX14_bulk_131 : decode cX14_bulk 131 = .ok (.iload 6, 2) := by decide +kernel
theorem dX14_bulk_133 : decode cX14_bulk 133 = .ok (.ifCond .le 7, 3) := by decide +kernel
theorem dX14_bulk_136 : decode cX14_bulk 136 = .ok (.iconst 0, 1) := by decide +kernel
theorem dX14_bulk_137 : decode cX14_bulk 137 = .ok (.goto 6, 3) := by decide +kernel
theorem dX14_bulk_140 : decode cX14_bulk 140 = .ok (.iload_n 3, 1) := by decide +kernel
theorem dX14_bulk_141 : decode cX14_bulk 141 = .ok (.iconst 1, 1) := by decide +kernel
theorem dX14_bulk_142 : decode cX14_bulk 142 = .ok (.iadd, 1) := by decide +kernel
theorem dX14_bulk_143 : decode cX14_bulk 143 = .ok (.istore_n 3, 1) := by decide +kernel
theorem dX14_bulk_144 : decode cX14_bulk 144 = .ok (.goto (-132), 3) := by decide +kernel
theorem dX14_bulk_147 : decode cX14_bulk 147 = .ok (.iload_n 2, 1) := by decide +kernel
theorem dX14_bulk_148 : decode cX14_bulk 148 = .ok (.ireturn, 1) := by decide +kernel
set_option maxRecDepth 100000 in
set_option maxHeartbeats 4000000 in
theorem m_bulk (l : Launch) (D : va_G) (cy : Nat → ClassId) {eda ca : Nat} {ia : Nat → Nat} {σ : SG} {K : KM} {g : GH} {n S hw : Nat} (h : Inv eda ia K g n S hw σ) (hY : nY g) (sz : Nat) : sgM l D cy eda ca ia σ sz yX14_bulk (Cond.code yX14_bulk cX14_bulk 7 (some .int) :: mWall) 13 324 (6 * hw + 18) (49 * hw + 146) [.ref (kA K)] (fun v σ2 => ∃ (y : Int32) (hw2 : Nat), v = some (.int y) ∧ Inv eda ia K g n S hw2 σ2 ∧ hw2 ≤ hw) := by
  refine sg_ofW (cc := cX14_bulk) (maxL := 7) (ret := (some .int)) (by decide) rfl (Nat.le_of_ble_eq_true rfl) (lv := [(0, .ref (kA K))]) rfl (fun p e s m below meth c ls H N hrt hnm F hB hl => ?_) sz
  have hx := F.1.1
  have hb := F.1.2.1
  have hown := F.1.2.2.2.1
  generalize hlo : ([] : List Loc) = locs at hB ⊢
  clear hlo
  obtain ⟨kc, hkc⟩ : ∃ kc : Nat, kc = 0 := ⟨_, rfl⟩
  refine W.widen (k := kc) (n := N) (by omega) (Nat.le_refl _) ?_
  have hlb := (inv_M h).2.2.1
  refine lv_iconst (v := 0) hx hb dX14_bulk_0 (by decide) ?_
  refine lv_istore_n (lv' := [(1, .int _), (0, .ref _)]) hx hb dX14_bulk_1 rfl hl (by decide) rfl (fun ls hl => ?_)
  refine lv_iconst (v := 0) hx hb dX14_bulk_2 (by decide) ?_
  refine lv_istore_n (lv' := [(2, .int _), (1, .int _), (0, .ref _)]) hx hb dX14_bulk_3 rfl hl (by decide) rfl (fun ls hl => ?_)
  refine lv_iconst (v := 0) hx hb dX14_bulk_4 (by decide) ?_
  refine lv_istore_n (lv' := [(3, .int _), (2, .int _), (1, .int _), (0, .ref _)]) hx hb dX14_bulk_5 rfl hl (by decide) rfl (fun ls hl => ?_)
  refine lv_aload_n hx hb dX14_bulk_6 rfl (lv_at hl 3 rfl) ?_
  refine gf_X14_38 F hB dX14_bulk_7 (inv_A h) ?_
  refine lv_istore (lv' := [(4, .int _), (3, .int _), (2, .int _), (1, .int _), (0, .ref _)]) hx hb dX14_bulk_10 hl (by decide) rfl (fun ls hl => ?_)
  have key12 : ∃ (σ3 : SG) (h3 nc : Nat) (b1 m2 i3 n4 : Int32), sgB D cy s σ σ3 H locs N nc ∧ lv_has ls 7 [(4, .int n4), (3, .int i3), (2, .int m2), (1, .int b1), (0, .ref (kA K))] ∧ Inv eda ia K g n S h3 σ3 ∧ h3 ≤ hw ∧ (-1 ≤ n4.toInt ∧ n4.toInt ≤ 11) ∧ (0 ≤ i3.toInt ∧ i3.toInt ≤ 12) ∧ (kc + 6 * h3 ≤ 6 * hw ∧ nc + 49 * h3 ≤ 49 * hw) := ⟨σ, hw, 0, _, _, _, _, hB, (lv_sub hl [0, 1, 2, 3, 4] rfl), h, Nat.le_refl _, hlb, ⟨by decide, by decide⟩, ⟨by omega, by omega⟩⟩
  clear hB hl hkc
  obtain ⟨σ3, h3, nc, b1, m2, i3, n4, hB, hl, hI3, hh3, hn4, hi3, hkn⟩ := key12
  obtain ⟨d12, hd12⟩ : ∃ d : Nat, d = h3 * 13 + (12 - i3.toInt.toNat) := ⟨_, rfl⟩
  induction d12 using Nat.strongRecOn generalizing H locs ls N σ3 h3 nc b1 m2 i3 n4 kc
  rename_i d12 ih12
  refine lv_iload_n hx hb dX14_bulk_12 rfl (lv_at hl 1 rfl) ?_
  refine lv_bipush (v := 12) hx hb dX14_bulk_13 (by decide) ?_
  refine lv_icmp_ge (tgt := 147) hx hb dX14_bulk_15 (by decide) (fun c15 => ?_) (fun c15 => ?_)
  · refine lv_iload_n hx hb dX14_bulk_147 rfl (lv_at hl 2 rfl) ?_
    exact sg_iret F hB hrt dX14_bulk_148 (by omega) (by omega) (⟨_, h3, rfl, hI3, hh3⟩)
  · refine lv_iload hx hb dX14_bulk_18 (lv_at hl 0 rfl) ?_
    refine lv_iconst (v := 1) hx hb dX14_bulk_20 (by decide) ?_
    refine lv_iadd hx hb dX14_bulk_21 ?_
    refine lv_bipush (v := 12) hx hb dX14_bulk_22 (by decide) ?_
    refine lv_irem hx hb dX14_bulk_24 (by decide) ?_
    refine lv_istore (lv' := [(4, .int _), (3, .int _), (2, .int _), (1, .int _), (0, .ref _)]) hx hb dX14_bulk_25 hl (by decide) rfl (fun ls hl => ?_)
    have hq := m_mod12 (x := n4 + 1) (by have := m_add1 (x := n4) (by omega) (by omega); omega) (by have := m_add1 (x := n4) (by omega) (by omega); omega)
    generalize (n4 + 1 - (n4 + 1) / 12 * 12) = q at hl hq
    have hkr : kc + 18 ≤ 6 * hw + 18 ∧ nc + 146 ≤ 49 * hw + 146 := by omega
    refine lv_aload_n hx hb dX14_bulk_27 rfl (lv_at hl 4 rfl) ?_
    refine gr_X14_18 F hB dX14_bulk_28 (inv_A hI3) (inv_r2 hI3) ?_
    refine lv_iload hx hb dX14_bulk_31 (lv_at hl 0 rfl) ?_
    refine sg_aald 9 hx hb F.2.1 hB.1 rfl rfl dX14_bulk_33 (inv_tP hI3).1 (by omega) (m_ltN (n := 12) (inv_tP hI3).2 (by omega)) (m_ltM (inv_tP hI3).2 (by decide)) ?_
    refine sg_split (fun hz34 => ?_) (fun b34 hz34 => ?_)
    · refine lv_ifnullN (tgt := 63) hx hb dX14_bulk_34 (by decide) ?_
      refine lv_iconst (v := 0) hx hb dX14_bulk_63 (by decide) ?_
      refine lv_istore (lv' := [(5, .int _), (4, .int _), (3, .int _), (2, .int _), (1, .int _), (0, .ref _)]) hx hb dX14_bulk_64 hl (by decide) rfl (fun ls hl => ?_)
      refine lv_iload hx hb dX14_bulk_66 (lv_at hl 0 rfl) ?_
      refine lv_if_eq (tgt := 80) hx hb dX14_bulk_68 (by decide) (fun c68 => ?_) (fun c68 => (by first | exact absurd c68 (by decide) | exact (c68 (by decide)).elim))
      refine lv_iconst (v := 0) hx hb dX14_bulk_80 (by decide) ?_
      refine lv_istore (lv' := [(6, .int _), (5, .int _), (4, .int _), (3, .int _), (2, .int _), (1, .int _), (0, .ref _)]) hx hb dX14_bulk_81 hl (by decide) rfl (fun ls hl => ?_)
      refine lv_iload_n hx hb dX14_bulk_83 rfl (lv_at hl 5 rfl) ?_
      refine lv_iload hx hb dX14_bulk_84 (lv_at hl 0 rfl) ?_
      refine lv_iconst (v := 2) hx hb dX14_bulk_86 (by decide) ?_
      refine lv_icmp_ne (tgt := 97) hx hb dX14_bulk_87 (by decide) (fun c87 => ?_) (fun c87 => (by first | exact absurd c87 (by decide) | exact (c87 (by decide)).elim))
      refine lv_iconst (v := 0) hx hb dX14_bulk_97 (by decide) ?_
      refine lv_ior hx hb dX14_bulk_98 ?_
      refine lv_istore_n (lv' := [(1, .int _), (6, .int _), (5, .int _), (4, .int _), (3, .int _), (2, .int _), (0, .ref _)]) hx hb dX14_bulk_99 rfl hl (by decide) rfl (fun ls hl => ?_)
      refine lv_iload_n hx hb dX14_bulk_100 rfl (lv_at hl 5 rfl) ?_
      refine lv_iload hx hb dX14_bulk_101 (lv_at hl 1 rfl) ?_
      refine lv_if_le (tgt := 110) hx hb dX14_bulk_103 (by decide) (fun c103 => ?_) (fun c103 => (by first | exact absurd c103 (by decide) | exact (c103 (by decide)).elim))
      refine lv_iconst (v := 0) hx hb dX14_bulk_110 (by decide) ?_
      refine lv_iadd hx hb dX14_bulk_111 ?_
      refine lv_istore_n (lv' := [(2, .int _), (1, .int _), (6, .int _), (5, .int _), (4, .int _), (3, .int _), (0, .ref _)]) hx hb dX14_bulk_112 rfl hl (by decide) rfl (fun ls hl => ?_)
      refine lv_aload_n hx hb dX14_bulk_113 rfl (lv_at hl 6 rfl) ?_
      refine lv_iload hx hb dX14_bulk_114 (lv_at hl 2 rfl) ?_
      refine lv_if_le (tgt := 124) hx hb dX14_bulk_116 (by decide) (fun c116 => ?_) (fun c116 => (by first | exact absurd c116 (by decide) | exact (c116 (by decide)).elim))
      refine lv_aload_n hx hb dX14_bulk_124 rfl (lv_at hl 6 rfl) ?_
      refine gf_X14_38 F hB dX14_bulk_125 (inv_A hI3) ?_
      refine pf_X14_38 F hB dX14_bulk_128 (inv_A hI3) (fun H locs hBn => ?_)
      clear hB; have hB := hBn; clear hBn
      have hI128 := inv_lbB hB hI3 (by first | exact ⟨by omega, hq.2⟩ | exact (inv_M hI3).2.2.1)
      refine lv_iload hx hb dX14_bulk_131 (lv_at hl 2 rfl) ?_
      refine lv_if_le (tgt := 140) hx hb dX14_bulk_133 (by decide) (fun c133 => ?_) (fun c133 => (by first | exact absurd c133 (by decide) | exact (c133 (by decide)).elim))
      refine lv_iload_n hx hb dX14_bulk_140 rfl (lv_at hl 5 rfl) ?_
      refine lv_iconst (v := 1) hx hb dX14_bulk_141 (by decide) ?_
      refine lv_iadd hx hb dX14_bulk_142 ?_
      refine lv_istore_n (lv' := [(3, .int _), (2, .int _), (1, .int _), (6, .int _), (5, .int _), (4, .int _), (0, .ref _)]) hx hb dX14_bulk_143 rfl hl (by decide) rfl (fun ls hl => ?_)
      refine lv_goto (tgt := 12) hx hb dX14_bulk_144 (by decide) ?_
      have hi4 := i_nle c15
      have m12 : (12 : Int32).toInt = 12 := rfl
      have e9 : (i3 + 1).toInt = i3.toInt + 1 := m_add1 (by omega) (by omega)
      first
        | exact ih12 _ (by subst hd12; rw [m_i0]; omega) _ _ _ _ _ _ _ _ _ _ _ _ hB (lv_sub hl [5, 0, 1, 2, 6] rfl) hI128 (by omega) ⟨by omega, hq.2⟩ ⟨by decide, by decide⟩ ⟨(by first | omega | (simp only [Nat.add_eq] at *; omega)), (by first | omega | (simp only [Nat.add_eq] at *; omega))⟩ rfl
        | exact ih12 _ (by subst hd12; rw [e9]; omega) _ _ _ _ _ _ _ _ _ _ _ _ hB (lv_sub hl [5, 0, 1, 2, 6] rfl) hI128 hh3 ⟨by omega, hq.2⟩ ⟨by rw [e9]; omega, by rw [e9]; omega⟩ ⟨(by first | omega | (simp only [Nat.add_eq] at *; omega)), (by first | omega | (simp only [Nat.add_eq] at *; omega))⟩ rfl
    · refine lv_ifnull hx hb dX14_bulk_34 ?_
      have tp := inv_pp hI3 (j := q.toInt.toNat) (by omega) hz34
      refine lv_aload_n hx hb dX14_bulk_37 rfl (lv_at hl 4 rfl) ?_
      refine gr_X14_18 F hB dX14_bulk_38 (inv_A hI3) (inv_r2 hI3) ?_
      refine lv_iload hx hb dX14_bulk_41 (lv_at hl 0 rfl) ?_
      refine sg_aaldR 9 hx hb F.2.1 hB.1 rfl rfl dX14_bulk_43 (inv_tP hI3).1 (by omega) (m_ltN (n := 12) (inv_tP hI3).2 (by omega)) (m_ltM (inv_tP hI3).2 (by decide)) hz34 ?_
      refine sg_callV (ci := 17) F hB (m_isPer l D cy tp _) (cwV 0 F.1.2.2.2.2 (mgV (mm_8 _ (List.mem_of_getElem? (i := 12) rfl)) (mm_8 _ (List.mem_of_getElem? (i := 13) rfl)) (mm_8 _ (List.mem_of_getElem? (i := 14) rfl)) (mm_8 _ (List.mem_of_getElem? (i := 15) rfl)) (mm_1 _ (List.mem_of_getElem? (i := 14) rfl))) rfl rfl rfl ⟨rfl, by decide, by decide, by decide +kernel⟩ ⟨Nat.le_of_ble_eq_true rfl, Nat.le_of_ble_eq_true rfl⟩) rfl rfl (by decide) rfl hl.1 rfl (Nat.le_of_ble_eq_true rfl) dX14_bulk_44 (by show _ ≤ 6 * hw + 18; omega) (Nat.add_le_add_right (by omega) _) tp (fun H locs v σ44 N hBn hX44 hP => ?_)
      clear hB; have hB := hBn; clear hBn
      obtain ⟨b44, rfl, rfl, hb44⟩ := hP
      refine lv_if_ne (tgt := 63) hx hb dX14_bulk_47 (by decide) (fun c47 => ?_) (fun c47 => ?_)
      · refine lv_iconst (v := 0) hx hb dX14_bulk_63 (by decide) ?_
        refine lv_istore (lv' := [(5, .int _), (4, .int _), (3, .int _), (2, .int _), (1, .int _), (0, .ref _)]) hx hb dX14_bulk_64 hl (by decide) rfl (fun ls hl => ?_)
        refine lv_iload hx hb dX14_bulk_66 (lv_at hl 0 rfl) ?_
        refine lv_if_eq (tgt := 80) hx hb dX14_bulk_68 (by decide) (fun c68 => ?_) (fun c68 => (by first | exact absurd c68 (by decide) | exact (c68 (by decide)).elim))
        refine lv_iconst (v := 0) hx hb dX14_bulk_80 (by decide) ?_
        refine lv_istore (lv' := [(6, .int _), (5, .int _), (4, .int _), (3, .int _), (2, .int _), (1, .int _), (0, .ref _)]) hx hb dX14_bulk_81 hl (by decide) rfl (fun ls hl => ?_)
        refine lv_iload_n hx hb dX14_bulk_83 rfl (lv_at hl 5 rfl) ?_
        refine lv_iload hx hb dX14_bulk_84 (lv_at hl 0 rfl) ?_
        refine lv_iconst (v := 2) hx hb dX14_bulk_86 (by decide) ?_
        refine lv_icmp_ne (tgt := 97) hx hb dX14_bulk_87 (by decide) (fun c87 => ?_) (fun c87 => (by first | exact absurd c87 (by decide) | exact (c87 (by decide)).elim))
        refine lv_iconst (v := 0) hx hb dX14_bulk_97 (by decide) ?_
        refine lv_ior hx hb dX14_bulk_98 ?_
        refine lv_istore_n (lv' := [(1, .int _), (6, .int _), (5, .int _), (4, .int _), (3, .int _), (2, .int _), (0, .ref _)]) hx hb dX14_bulk_99 rfl hl (by decide) rfl (fun ls hl => ?_)
        refine lv_iload_n hx hb dX14_bulk_100 rfl (lv_at hl 5 rfl) ?_
        refine lv_iload hx hb dX14_bulk_101 (lv_at hl 1 rfl) ?_
        refine lv_if_le (tgt := 110) hx hb dX14_bulk_103 (by decide) (fun c103 => ?_) (fun c103 => (by first | exact absurd c103 (by decide) | exact (c103 (by decide)).elim))
        refine lv_iconst (v := 0) hx hb dX14_bulk_110 (by decide) ?_
        refine lv_iadd hx hb dX14_bulk_111 ?_
        refine lv_istore_n (lv' := [(2, .int _), (1, .int _), (6, .int _), (5, .int _), (4, .int _), (3, .int _), (0, .ref _)]) hx hb dX14_bulk_112 rfl hl (by decide) rfl (fun ls hl => ?_)
        refine lv_aload_n hx hb dX14_bulk_113 rfl (lv_at hl 6 rfl) ?_
        refine lv_iload hx hb dX14_bulk_114 (lv_at hl 2 rfl) ?_
        refine lv_if_le (tgt := 124) hx hb dX14_bulk_116 (by decide) (fun c116 => ?_) (fun c116 => (by first | exact absurd c116 (by decide) | exact (c116 (by decide)).elim))
        refine lv_aload_n hx hb dX14_bulk_124 rfl (lv_at hl 6 rfl) ?_
        refine gf_X14_38 F hB dX14_bulk_125 (inv_A hI3) ?_
        refine pf_X14_38 F hB dX14_bulk_128 (inv_A hI3) (fun H locs hBn => ?_)
        clear hB; have hB := hBn; clear hBn
        have hI128 := inv_lbB hB hI3 (by first | exact ⟨by omega, hq.2⟩ | exact (inv_M hI3).2.2.1)
        refine lv_iload hx hb dX14_bulk_131 (lv_at hl 2 rfl) ?_
        refine lv_if_le (tgt := 140) hx hb dX14_bulk_133 (by decide) (fun c133 => ?_) (fun c133 => (by first | exact absurd c133 (by decide) | exact (c133 (by decide)).elim))
        refine lv_iload_n hx hb dX14_bulk_140 rfl (lv_at hl 5 rfl) ?_
        refine lv_iconst (v := 1) hx hb dX14_bulk_141 (by decide) ?_
        refine lv_iadd hx hb dX14_bulk_142 ?_
        refine lv_istore_n (lv' := [(3, .int _), (2, .int _), (1, .int _), (6, .int _), (5, .int _), (4, .int _), (0, .ref _)]) hx hb dX14_bulk_143 rfl hl (by decide) rfl (fun ls hl => ?_)
        refine lv_goto (tgt := 12) hx hb dX14_bulk_144 (by decide) ?_
        have hi4 := i_nle c15
        have m12 : (12 : Int32).toInt = 12 := rfl
        have e9 : (i3 + 1).toInt = i3.toInt + 1 := m_add1 (by omega) (by omega)
        first
          | exact ih12 _ (by subst hd12; rw [m_i0]; omega) _ _ _ _ _ _ _ _ _ _ _ _ hB (lv_sub hl [5, 0, 1, 2, 6] rfl) hI128 (by omega) ⟨by omega, hq.2⟩ ⟨by decide, by decide⟩ ⟨(by first | omega | (simp only [Nat.add_eq] at *; omega)), (by first | omega | (simp only [Nat.add_eq] at *; omega))⟩ rfl
          | exact ih12 _ (by subst hd12; rw [e9]; omega) _ _ _ _ _ _ _ _ _ _ _ _ hB (lv_sub hl [5, 0, 1, 2, 6] rfl) hI128 hh3 ⟨by omega, hq.2⟩ ⟨by rw [e9]; omega, by rw [e9]; omega⟩ ⟨(by first | omega | (simp only [Nat.add_eq] at *; omega)), (by first | omega | (simp only [Nat.add_eq] at *; omega))⟩ rfl
      · refine lv_iload_n hx hb dX14_bulk_50 rfl (lv_at hl 3 rfl) ?_
        refine lv_iload hx hb dX14_bulk_51 (lv_at hl 0 rfl) ?_
        refine lv_ishr hx hb dX14_bulk_53 ?_
        refine lv_iconst (v := 1) hx hb dX14_bulk_54 (by decide) ?_
        refine lv_iand hx hb dX14_bulk_55 ?_
        refine lv_if_ne (tgt := 63) hx hb dX14_bulk_56 (by decide) (fun c56 => ?_) (fun c56 => ?_)
        · refine lv_iconst (v := 0) hx hb dX14_bulk_63 (by decide) ?_
          refine lv_istore (lv' := [(5, .int _), (4, .int _), (3, .int _), (2, .int _), (1, .int _), (0, .ref _)]) hx hb dX14_bulk_64 hl (by decide) rfl (fun ls hl => ?_)
          refine lv_iload hx hb dX14_bulk_66 (lv_at hl 0 rfl) ?_
          refine lv_if_eq (tgt := 80) hx hb dX14_bulk_68 (by decide) (fun c68 => ?_) (fun c68 => (by first | exact absurd c68 (by decide) | exact (c68 (by decide)).elim))
          refine lv_iconst (v := 0) hx hb dX14_bulk_80 (by decide) ?_
          refine lv_istore (lv' := [(6, .int _), (5, .int _), (4, .int _), (3, .int _), (2, .int _), (1, .int _), (0, .ref _)]) hx hb dX14_bulk_81 hl (by decide) rfl (fun ls hl => ?_)
          refine lv_iload_n hx hb dX14_bulk_83 rfl (lv_at hl 5 rfl) ?_
          refine lv_iload hx hb dX14_bulk_84 (lv_at hl 0 rfl) ?_
          refine lv_iconst (v := 2) hx hb dX14_bulk_86 (by decide) ?_
          refine lv_icmp_ne (tgt := 97) hx hb dX14_bulk_87 (by decide) (fun c87 => ?_) (fun c87 => (by first | exact absurd c87 (by decide) | exact (c87 (by decide)).elim))
          refine lv_iconst (v := 0) hx hb dX14_bulk_97 (by decide) ?_
          refine lv_ior hx hb dX14_bulk_98 ?_
          refine lv_istore_n (lv' := [(1, .int _), (6, .int _), (5, .int _), (4, .int _), (3, .int _), (2, .int _), (0, .ref _)]) hx hb dX14_bulk_99 rfl hl (by decide) rfl (fun ls hl => ?_)
          refine lv_iload_n hx hb dX14_bulk_100 rfl (lv_at hl 5 rfl) ?_
          refine lv_iload hx hb dX14_bulk_101 (lv_at hl 1 rfl) ?_
          refine lv_if_le (tgt := 110) hx hb dX14_bulk_103 (by decide) (fun c103 => ?_) (fun c103 => (by first | exact absurd c103 (by decide) | exact (c103 (by decide)).elim))
          refine lv_iconst (v := 0) hx hb dX14_bulk_110 (by decide) ?_
          refine lv_iadd hx hb dX14_bulk_111 ?_
          refine lv_istore_n (lv' := [(2, .int _), (1, .int _), (6, .int _), (5, .int _), (4, .int _), (3, .int _), (0, .ref _)]) hx hb dX14_bulk_112 rfl hl (by decide) rfl (fun ls hl => ?_)
          refine lv_aload_n hx hb dX14_bulk_113 rfl (lv_at hl 6 rfl) ?_
          refine lv_iload hx hb dX14_bulk_114 (lv_at hl 2 rfl) ?_
          refine lv_if_le (tgt := 124) hx hb dX14_bulk_116 (by decide) (fun c116 => ?_) (fun c116 => (by first | exact absurd c116 (by decide) | exact (c116 (by decide)).elim))
          refine lv_aload_n hx hb dX14_bulk_124 rfl (lv_at hl 6 rfl) ?_
          refine gf_X14_38 F hB dX14_bulk_125 (inv_A hI3) ?_
          refine pf_X14_38 F hB dX14_bulk_128 (inv_A hI3) (fun H locs hBn => ?_)
          clear hB; have hB := hBn; clear hBn
          have hI128 := inv_lbB hB hI3 (by first | exact ⟨by omega, hq.2⟩ | exact (inv_M hI3).2.2.1)
          refine lv_iload hx hb dX14_bulk_131 (lv_at hl 2 rfl) ?_
          refine lv_if_le (tgt := 140) hx hb dX14_bulk_133 (by decide) (fun c133 => ?_) (fun c133 => (by first | exact absurd c133 (by decide) | exact (c133 (by decide)).elim))
          refine lv_iload_n hx hb dX14_bulk_140 rfl (lv_at hl 5 rfl) ?_
          refine lv_iconst (v := 1) hx hb dX14_bulk_141 (by decide) ?_
          refine lv_iadd hx hb dX14_bulk_142 ?_
          refine lv_istore_n (lv' := [(3, .int _), (2, .int _), (1, .int _), (6, .int _), (5, .int _), (4, .int _), (0, .ref _)]) hx hb dX14_bulk_143 rfl hl (by decide) rfl (fun ls hl => ?_)
          refine lv_goto (tgt := 12) hx hb dX14_bulk_144 (by decide) ?_
          have hi4 := i_nle c15
          have m12 : (12 : Int32).toInt = 12 := rfl
          have e9 : (i3 + 1).toInt = i3.toInt + 1 := m_add1 (by omega) (by omega)
          first
            | exact ih12 _ (by subst hd12; rw [m_i0]; omega) _ _ _ _ _ _ _ _ _ _ _ _ hB (lv_sub hl [5, 0, 1, 2, 6] rfl) hI128 (by omega) ⟨by omega, hq.2⟩ ⟨by decide, by decide⟩ ⟨(by first | omega | (simp only [Nat.add_eq] at *; omega)), (by first | omega | (simp only [Nat.add_eq] at *; omega))⟩ rfl
            | exact ih12 _ (by subst hd12; rw [e9]; omega) _ _ _ _ _ _ _ _ _ _ _ _ hB (lv_sub hl [5, 0, 1, 2, 6] rfl) hI128 hh3 ⟨by omega, hq.2⟩ ⟨by rw [e9]; omega, by rw [e9]; omega⟩ ⟨(by first | omega | (simp only [Nat.add_eq] at *; omega)), (by first | omega | (simp only [Nat.add_eq] at *; omega))⟩ rfl
        · refine lv_iconst (v := 1) hx hb dX14_bulk_59 (by decide) ?_
          refine lv_goto (tgt := 64) hx hb dX14_bulk_60 (by decide) ?_
          refine lv_istore (lv' := [(5, .int _), (4, .int _), (3, .int _), (2, .int _), (1, .int _), (0, .ref _)]) hx hb dX14_bulk_64 hl (by decide) rfl (fun ls hl => ?_)
          refine lv_iload hx hb dX14_bulk_66 (lv_at hl 0 rfl) ?_
          refine lv_if_eq (tgt := 80) hx hb dX14_bulk_68 (by decide) (fun c68 => (by first | exact absurd c68 (by decide) | exact (c68 (by decide)).elim)) (fun c68 => ?_)
          refine lv_aload_n hx hb dX14_bulk_71 rfl (lv_at hl 5 rfl) ?_
          refine lv_iload hx hb dX14_bulk_72 (lv_at hl 1 rfl) ?_
          refine sg_callVd (ci := 19) F hB (m_does l D cy hI3 hY q hq.1 hq.2 _) (cwV 1 F.1.2.2.2.2 (mgV (mm_13 _ (List.mem_of_getElem? (i := 2) rfl)) (mm_13 _ (List.mem_of_getElem? (i := 3) rfl)) (mm_13 _ (List.mem_of_getElem? (i := 4) rfl)) (mm_3 _ (List.mem_of_getElem? (i := 23) rfl)) (mm_13 _ (List.mem_of_getElem? (i := 1) rfl))) rfl rfl rfl ⟨rfl, by decide, by decide, by decide +kernel⟩ ⟨Nat.le_of_ble_eq_true rfl, Nat.le_of_ble_eq_true rfl⟩) rfl rfl (by decide) rfl hl.1 rfl (Nat.le_of_ble_eq_true rfl) dX14_bulk_74 (by show _ ≤ 6 * hw + 18; omega) (Nat.add_le_add_right (by omega) _) (inv_A hI3) m_doesF (fun H locs N hB hP => ?_) (fun H locs w74 σ74 N hw74 hB hP => ?_)
          · skip
            have hBn := hB
            clear hB; have hB := hBn; clear hBn
            refine lv_goto (tgt := 81) hx hb dX14_bulk_77 (by decide) ?_
            refine lv_istore (lv' := [(6, .int _), (5, .int _), (4, .int _), (3, .int _), (2, .int _), (1, .int _), (0, .ref _)]) hx hb dX14_bulk_81 hl (by decide) rfl (fun ls hl => ?_)
            refine lv_iload_n hx hb dX14_bulk_83 rfl (lv_at hl 5 rfl) ?_
            refine lv_iload hx hb dX14_bulk_84 (lv_at hl 0 rfl) ?_
            refine lv_iconst (v := 2) hx hb dX14_bulk_86 (by decide) ?_
            refine lv_icmp_ne (tgt := 97) hx hb dX14_bulk_87 (by decide) (fun c87 => ?_) (fun c87 => (by first | exact absurd c87 (by decide) | exact (c87 (by decide)).elim))
            refine lv_iconst (v := 0) hx hb dX14_bulk_97 (by decide) ?_
            refine lv_ior hx hb dX14_bulk_98 ?_
            refine lv_istore_n (lv' := [(1, .int _), (6, .int _), (5, .int _), (4, .int _), (3, .int _), (2, .int _), (0, .ref _)]) hx hb dX14_bulk_99 rfl hl (by decide) rfl (fun ls hl => ?_)
            refine lv_iload_n hx hb dX14_bulk_100 rfl (lv_at hl 5 rfl) ?_
            refine lv_iload hx hb dX14_bulk_101 (lv_at hl 1 rfl) ?_
            refine lv_if_le (tgt := 110) hx hb dX14_bulk_103 (by decide) (fun c103 => ?_) (fun c103 => (by first | exact absurd c103 (by decide) | exact (c103 (by decide)).elim))
            refine lv_iconst (v := 0) hx hb dX14_bulk_110 (by decide) ?_
            refine lv_iadd hx hb dX14_bulk_111 ?_
            refine lv_istore_n (lv' := [(2, .int _), (1, .int _), (6, .int _), (5, .int _), (4, .int _), (3, .int _), (0, .ref _)]) hx hb dX14_bulk_112 rfl hl (by decide) rfl (fun ls hl => ?_)
            refine lv_aload_n hx hb dX14_bulk_113 rfl (lv_at hl 6 rfl) ?_
            refine lv_iload hx hb dX14_bulk_114 (lv_at hl 2 rfl) ?_
            refine lv_if_le (tgt := 124) hx hb dX14_bulk_116 (by decide) (fun c116 => ?_) (fun c116 => (by first | exact absurd c116 (by decide) | exact (c116 (by decide)).elim))
            refine lv_aload_n hx hb dX14_bulk_124 rfl (lv_at hl 6 rfl) ?_
            refine gf_X14_38 F hB dX14_bulk_125 (inv_A hI3) ?_
            refine pf_X14_38 F hB dX14_bulk_128 (inv_A hI3) (fun H locs hBn => ?_)
            clear hB; have hB := hBn; clear hBn
            have hI128 := inv_lbB hB hI3 (by first | exact ⟨by omega, hq.2⟩ | exact (inv_M hI3).2.2.1)
            refine lv_iload hx hb dX14_bulk_131 (lv_at hl 2 rfl) ?_
            refine lv_if_le (tgt := 140) hx hb dX14_bulk_133 (by decide) (fun c133 => ?_) (fun c133 => (by first | exact absurd c133 (by decide) | exact (c133 (by decide)).elim))
            refine lv_iload_n hx hb dX14_bulk_140 rfl (lv_at hl 5 rfl) ?_
            refine lv_iconst (v := 1) hx hb dX14_bulk_141 (by decide) ?_
            refine lv_iadd hx hb dX14_bulk_142 ?_
            refine lv_istore_n (lv' := [(3, .int _), (2, .int _), (1, .int _), (6, .int _), (5, .int _), (4, .int _), (0, .ref _)]) hx hb dX14_bulk_143 rfl hl (by decide) rfl (fun ls hl => ?_)
            refine lv_goto (tgt := 12) hx hb dX14_bulk_144 (by decide) ?_
            have hi4 := i_nle c15
            have m12 : (12 : Int32).toInt = 12 := rfl
            have e9 : (i3 + 1).toInt = i3.toInt + 1 := m_add1 (by omega) (by omega)
            first
              | exact ih12 _ (by subst hd12; rw [m_i0]; omega) _ _ _ _ _ _ _ _ _ _ _ _ hB (lv_sub hl [5, 0, 1, 2, 6] rfl) hI128 (by omega) ⟨by omega, hq.2⟩ ⟨by decide, by decide⟩ ⟨(by first | omega | (simp only [Nat.add_eq] at *; omega)), (by first | omega | (simp only [Nat.add_eq] at *; omega))⟩ rfl
              | exact ih12 _ (by subst hd12; rw [e9]; omega) _ _ _ _ _ _ _ _ _ _ _ _ hB (lv_sub hl [5, 0, 1, 2, 6] rfl) hI128 hh3 ⟨by omega, hq.2⟩ ⟨by rw [e9]; omega, by rw [e9]; omega⟩ ⟨(by first | omega | (simp only [Nat.add_eq] at *; omega)), (by first | omega | (simp only [Nat.add_eq] at *; omega))⟩ rfl
          · skip
            have hBn := hB
            clear hB; have hB := hBn; clear hBn
            obtain ⟨h74, hI74, hc74, hc74b⟩ := m_doesN hw74 hP
            refine lv_goto (tgt := 81) hx hb dX14_bulk_77 (by decide) ?_
            refine lv_istore (lv' := [(6, .int _), (5, .int _), (4, .int _), (3, .int _), (2, .int _), (1, .int _), (0, .ref _)]) hx hb dX14_bulk_81 hl (by decide) rfl (fun ls hl => ?_)
            refine lv_iload_n hx hb dX14_bulk_83 rfl (lv_at hl 5 rfl) ?_
            refine lv_iload hx hb dX14_bulk_84 (lv_at hl 0 rfl) ?_
            refine lv_iconst (v := 2) hx hb dX14_bulk_86 (by decide) ?_
            refine lv_icmp_ne (tgt := 97) hx hb dX14_bulk_87 (by decide) (fun c87 => ?_) (fun c87 => ?_)
            · refine lv_iconst (v := 0) hx hb dX14_bulk_97 (by decide) ?_
              refine lv_ior hx hb dX14_bulk_98 ?_
              refine lv_istore_n (lv' := [(1, .int _), (6, .int _), (5, .int _), (4, .int _), (3, .int _), (2, .int _), (0, .ref _)]) hx hb dX14_bulk_99 rfl hl (by decide) rfl (fun ls hl => ?_)
              refine lv_iload_n hx hb dX14_bulk_100 rfl (lv_at hl 5 rfl) ?_
              refine lv_iload hx hb dX14_bulk_101 (lv_at hl 1 rfl) ?_
              refine lv_if_le (tgt := 110) hx hb dX14_bulk_103 (by decide) (fun c103 => (m_pos hc74 c103).elim) (fun c103 => ?_)
              refine lv_iconst (v := 1) hx hb dX14_bulk_106 (by decide) ?_
              refine lv_goto (tgt := 111) hx hb dX14_bulk_107 (by decide) ?_
              refine lv_iadd hx hb dX14_bulk_111 ?_
              refine lv_istore_n (lv' := [(2, .int _), (1, .int _), (6, .int _), (5, .int _), (4, .int _), (3, .int _), (0, .ref _)]) hx hb dX14_bulk_112 rfl hl (by decide) rfl (fun ls hl => ?_)
              refine lv_aload_n hx hb dX14_bulk_113 rfl (lv_at hl 6 rfl) ?_
              refine lv_iload hx hb dX14_bulk_114 (lv_at hl 2 rfl) ?_
              refine lv_if_le (tgt := 124) hx hb dX14_bulk_116 (by decide) (fun c116 => (m_pos hc74 c116).elim) (fun c116 => ?_)
              refine lv_iload hx hb dX14_bulk_119 (lv_at hl 4 rfl) ?_
              refine lv_goto (tgt := 128) hx hb dX14_bulk_121 (by decide) ?_
              refine pf_X14_38 F hB dX14_bulk_128 (inv_A hI74) (fun H locs hBn => ?_)
              clear hB; have hB := hBn; clear hBn
              have hI128 := inv_lbB hB hI74 (by first | exact ⟨by omega, hq.2⟩ | exact (inv_M hI74).2.2.1)
              refine lv_iload hx hb dX14_bulk_131 (lv_at hl 2 rfl) ?_
              refine lv_if_le (tgt := 140) hx hb dX14_bulk_133 (by decide) (fun c133 => (m_pos hc74 c133).elim) (fun c133 => ?_)
              refine lv_iconst (v := 0) hx hb dX14_bulk_136 (by decide) ?_
              refine lv_goto (tgt := 143) hx hb dX14_bulk_137 (by decide) ?_
              refine lv_istore_n (lv' := [(3, .int _), (2, .int _), (1, .int _), (6, .int _), (5, .int _), (4, .int _), (0, .ref _)]) hx hb dX14_bulk_143 rfl hl (by decide) rfl (fun ls hl => ?_)
              refine lv_goto (tgt := 12) hx hb dX14_bulk_144 (by decide) ?_
              have hi4 := i_nle c15
              have m12 : (12 : Int32).toInt = 12 := rfl
              have e9 : (i3 + 1).toInt = i3.toInt + 1 := m_add1 (by omega) (by omega)
              first
                | exact ih12 _ (by subst hd12; rw [m_i0]; omega) _ _ _ _ _ _ _ _ _ _ _ _ hB (lv_sub hl [5, 0, 1, 2, 6] rfl) hI128 (by omega) ⟨by omega, hq.2⟩ ⟨by decide, by decide⟩ ⟨(by first | omega | (simp only [Nat.add_eq] at *; omega)), (by first | omega | (simp only [Nat.add_eq] at *; omega))⟩ rfl
                | exact ih12 _ (by subst hd12; rw [e9]; omega) _ _ _ _ _ _ _ _ _ _ _ _ hB (lv_sub hl [5, 0, 1, 2, 6] rfl) hI128 hh3 ⟨by omega, hq.2⟩ ⟨by rw [e9]; omega, by rw [e9]; omega⟩ ⟨(by first | omega | (simp only [Nat.add_eq] at *; omega)), (by first | omega | (simp only [Nat.add_eq] at *; omega))⟩ rfl
            · refine lv_iconst (v := 1) hx hb dX14_bulk_90 (by decide) ?_
              refine lv_iload hx hb dX14_bulk_91 (lv_at hl 2 rfl) ?_
              refine lv_ishl hx hb dX14_bulk_93 ?_
              refine lv_goto (tgt := 98) hx hb dX14_bulk_94 (by decide) ?_
              refine lv_ior hx hb dX14_bulk_98 ?_
              refine lv_istore_n (lv' := [(1, .int _), (6, .int _), (5, .int _), (4, .int _), (3, .int _), (2, .int _), (0, .ref _)]) hx hb dX14_bulk_99 rfl hl (by decide) rfl (fun ls hl => ?_)
              refine lv_iload_n hx hb dX14_bulk_100 rfl (lv_at hl 5 rfl) ?_
              refine lv_iload hx hb dX14_bulk_101 (lv_at hl 1 rfl) ?_
              refine lv_if_le (tgt := 110) hx hb dX14_bulk_103 (by decide) (fun c103 => (m_pos hc74 c103).elim) (fun c103 => ?_)
              refine lv_iconst (v := 1) hx hb dX14_bulk_106 (by decide) ?_
              refine lv_goto (tgt := 111) hx hb dX14_bulk_107 (by decide) ?_
              refine lv_iadd hx hb dX14_bulk_111 ?_
              refine lv_istore_n (lv' := [(2, .int _), (1, .int _), (6, .int _), (5, .int _), (4, .int _), (3, .int _), (0, .ref _)]) hx hb dX14_bulk_112 rfl hl (by decide) rfl (fun ls hl => ?_)
              refine lv_aload_n hx hb dX14_bulk_113 rfl (lv_at hl 6 rfl) ?_
              refine lv_iload hx hb dX14_bulk_114 (lv_at hl 2 rfl) ?_
              refine lv_if_le (tgt := 124) hx hb dX14_bulk_116 (by decide) (fun c116 => (m_pos hc74 c116).elim) (fun c116 => ?_)
              refine lv_iload hx hb dX14_bulk_119 (lv_at hl 4 rfl) ?_
              refine lv_goto (tgt := 128) hx hb dX14_bulk_121 (by decide) ?_
              refine pf_X14_38 F hB dX14_bulk_128 (inv_A hI74) (fun H locs hBn => ?_)
              clear hB; have hB := hBn; clear hBn
              have hI128 := inv_lbB hB hI74 (by first | exact ⟨by omega, hq.2⟩ | exact (inv_M hI74).2.2.1)
              refine lv_iload hx hb dX14_bulk_131 (lv_at hl 2 rfl) ?_
              refine lv_if_le (tgt := 140) hx hb dX14_bulk_133 (by decide) (fun c133 => (m_pos hc74 c133).elim) (fun c133 => ?_)
              refine lv_iconst (v := 0) hx hb dX14_bulk_136 (by decide) ?_
              refine lv_goto (tgt := 143) hx hb dX14_bulk_137 (by decide) ?_
              refine lv_istore_n (lv' := [(3, .int _), (2, .int _), (1, .int _), (6, .int _), (5, .int _), (4, .int _), (0, .ref _)]) hx hb dX14_bulk_143 rfl hl (by decide) rfl (fun ls hl => ?_)
              refine lv_goto (tgt := 12) hx hb dX14_bulk_144 (by decide) ?_
              have hi4 := i_nle c15
              have m12 : (12 : Int32).toInt = 12 := rfl
              have e9 : (i3 + 1).toInt = i3.toInt + 1 := m_add1 (by omega) (by omega)
              first
                | exact ih12 _ (by subst hd12; rw [m_i0]; omega) _ _ _ _ _ _ _ _ _ _ _ _ hB (lv_sub hl [5, 0, 1, 2, 6] rfl) hI128 (by omega) ⟨by omega, hq.2⟩ ⟨by decide, by decide⟩ ⟨(by first | omega | (simp only [Nat.add_eq] at *; omega)), (by first | omega | (simp only [Nat.add_eq] at *; omega))⟩ rfl
                | exact ih12 _ (by subst hd12; rw [e9]; omega) _ _ _ _ _ _ _ _ _ _ _ _ hB (lv_sub hl [5, 0, 1, 2, 6] rfl) hI128 hh3 ⟨by omega, hq.2⟩ ⟨by rw [e9]; omega, by rw [e9]; omega⟩ ⟨(by first | omega | (simp only [Nat.add_eq] at *; omega)), (by first | omega | (simp only [Nat.add_eq] at *; omega))⟩ rfl
end MM32
