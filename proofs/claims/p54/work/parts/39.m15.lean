section MM15
/-- the way up -/
def iUp (g : GH) (σ : SG) : Nat → Int → Int
  | 0, z => z
  | m + 1, z => iUp g σ m (if z = -1 then -1 else iHb g σ z.toNat)
theorem iUp_none {g : GH} {σ : SG} : ∀ m, iUp g σ m (-1) = -1
  | 0 => rfl
  | m + 1 => by
    show iUp g σ m (if (-1 : Int) = -1 then -1 else _) = -1
    rw [if_pos rfl]; exact iUp_none m
def iBw (g : GH) (σ : SG) (x h : Int) : Prop := ∃ m, iUp g σ m x = h
theorem iBw_rf {g : GH} {σ : SG} {x : Int} : iBw g σ x x := ⟨0, rfl⟩
theorem iBw_none {g : GH} {σ : SG} {h : Int} (h0 : 0 ≤ h) : ¬ iBw g σ (-1) h := fun ⟨m, q⟩ => by rw [iUp_none] at q; omega
theorem iBw_st {g : GH} {σ : SG} {z h : Int} (hz : ¬ z = -1) (hh : ¬ z = h) : iBw g σ z h ↔ iBw g σ (iHb g σ z.toNat) h := by
  constructor
  · rintro ⟨m, q⟩
    match m, q with
    | 0, q => exact absurd q hh
    | m + 1, q =>
      refine ⟨m, ?_⟩
      have q : iUp g σ m (if z = -1 then -1 else iHb g σ z.toNat) = h := q
      rw [if_neg hz] at q
      exact q
  · rintro ⟨m, q⟩
    refine ⟨m + 1, ?_⟩
    show iUp g σ m (if z = -1 then -1 else iHb g σ z.toNat) = h
    rw [if_neg hz]; exact q
/-- an end, by numbers -/
def iEn (g : GH) (σ : SG) (k j : Nat) : Option Nat := match sgR σ (gDv g k) 13 with
  | some e => sgR σ e j
  | none => none
theorem iEn_of {g : GH} {σ : SG} {k j e : Nat} (h : sgR σ (gDv g k) 13 = some e) : iEn g σ k j = sgR σ e j := by unfold iEn; rw [h]
def nY (g : GH) : Prop := ∀ a, ¬ gY g a
theorem inv_ends {eda n S hw : Nat} {ia : Nat → Nat} {K : KM} {g : GH} {σ : SG} (h : Inv eda ia K g n S hw σ) {k : Nat} (hk : k < n) : ∃ e f l : Nat, sgR σ (gDv g k) 13 = some e ∧ sgR σ (gDv g k) 14 = some f ∧ sgR σ (gDv g k) 15 = some l ∧ sgT σ e = 108 ∧ sgN σ e = 4 ∧ sgT σ f = 101 ∧ sgN σ f = 4 ∧ sgT σ l = 100 ∧ sgN σ l = 4 := by
  obtain ⟨e, f, l, q1, q2, q3, q4, q5, q6, q7, q8, q9, q10⟩ := inv_D h _ (inv_dv h hk).2.1
  exact ⟨e, f, l, q1, q2, q3, q4, q5, q7, q8, q9, q10⟩
theorem inv_en {eda n S hw : Nat} {ia : Nat → Nat} {K : KM} {g : GH} {σ : SG} (h : Inv eda ia K g n S hw σ) {k j x : Nat} (hk : k < n) (hj : j < 4) (hx : iEn g σ k j = some x) : sgT σ x = 17 := by
  obtain ⟨e, f, l, q1, q2, q3, q4, q5, -⟩ := inv_ends h hk
  rw [iEn_of q1] at hx
  exact (inv_N h e q4 j x hj hx).1
/-- a pipe's end -/
theorem inv_pe {eda n S hw p : Nat} {ia : Nat → Nat} {K : KM} {g : GH} {σ : SG} (h : Inv eda ia K g n S hw σ) (hp : sgT σ p = 18) : ∃ e x : Nat, iPn σ n p ∧ sgR σ (pDv g σ p) 13 = some e ∧ sgT σ e = 108 ∧ sgN σ e = 4 ∧ sgR σ e (sgI σ p 1).toInt.toNat = some x ∧ sgT σ x = 17 := by
  obtain ⟨l, e, x, q1, q2, q3, q4, q5, q6, q7, q8, q9, q10, q11⟩ := inv_P h p hp
  obtain ⟨e2, f, l2, w1, w2, w3, w4, w5, w6, w7, w8, w9, w10⟩ := inv_D h _ q6
  rw [q7] at w1
  cases w1
  exact ⟨e, x, q5, q7, q8, w5, q9, q10⟩
/-- a plugged device has a plugged hub -/
theorem inv_up {eda n S hw k : Nat} {ia : Nat → Nat} {K : KM} {g : GH} {σ : SG} (h : Inv eda ia K g n S hw σ) (hY : nY g) (h1 : 1 ≤ k) (hk : k < n) (hu : ¬ iSt g σ k = 117) : 0 ≤ iHb g σ k ∧ iHb g σ k < n ∧ ¬ iSt g σ (iHb g σ k).toNat = 117 := by
  obtain ⟨⟨rk, w1⟩, w2, w3, -⟩ := inv_R h
  have hne : ¬ iHb g σ k = -1 := fun z => hu ((w3 k h1 hk (hY _)).mpr z)
  rcases w1 k hk with q | ⟨q1, q2, -⟩
  · exact absurd q hne
  · exact ⟨q1, q2, w2 k hk (hY _) hne⟩
theorem sgI_nk {σ : SG} {a b j k : Nat} {x : Int32} (h : j ≠ k) : sgI (sgPI σ a k x) b j = sgI σ b j := by rw [sgI_PI, if_neg (fun z => h z.2)]
theorem iSt_th {g : GH} {σ : SG} {a k : Nat} {x : Int32} : iSt g (sgPI σ a 0 x) k = iSt g σ k := sgI_nk (by decide)
theorem m_eqI {x y : Int32} (h : x = y) : x.toInt = y.toInt := by rw [h]
theorem m_neI {x y : Int32} (h : ¬ x = y) : ¬ x.toInt = y.toInt := fun z => h (i_eq.mpr z)
theorem sg_nfl {y : Int32} (h : y = 104 ∨ y = 102 ∨ y = 108) : narrow .char (.int y) = .int y := by
  rcases h with rfl | rfl | rfl <;> rfl
theorem dX14_isBelow_0 : decode cX14_isBelow 0 = .ok (.iload_n 1, 1) := by decide +kernel
theorem dX14_isBelow_1 : decode cX14_isBelow 1 = .ok (.istore_n 3, 1) := by decide +kernel
theorem dX14_isBelow_2 : decode cX14_isBelow 2 = .ok (.iload_n 3, 1) := by decide +kernel
theorem dX14_isBelow_3 : decode cX14_isBelow 3 = .ok (.iconst (-1), 1) := by decide +kernel
theorem dX14_isBelow_4 : decode cX14_isBelow 4 = .ok (.if_icmp .eq 26, 3) := by decide +kernel
theorem dX14_isBelow_7 : decode cX14_isBelow 7 = .ok (.iload_n 3, 1) := by decide +kernel
theorem dX14_isBelow_8 : decode cX14_isBelow 8 = .ok (.iload_n 2, 1) := by decide +kernel
theorem dX14_isBelow_9 : decode cX14_isBelow 9 = .ok (.if_icmp .eq 21, 3) := by decide +kernel
theorem dX14_isBelow_12 : decode cX14_isBelow 12 = .ok (.aload_n 0, 1) := by decide +kernel
theorem dX14_isBelow_13 : decode cX14_isBelow 13 = .ok (.getfield 10, 3) := by decide +kernel
theorem dX14_isBelow_16 : decode cX14_isBelow 16 = .ok (.iload_n 3, 1) := by decide +kernel
theorem dX14_isBelow_17 : decode cX14_isBelow 17 = .ok (.invokevirtual 76, 3) := by decide +kernel
theorem dX14_isBelow_20 : decode cX14_isBelow 20 = .ok (.checkcast 48, 3) := by decide +kernel
theorem dX14_isBelow_23 : decode cX14_isBelow 23 = .ok (.getfield 80, 3) := by decide +kernel
theorem dX14_isBelow_26 : decode cX14_isBelow 26 = .ok (.istore_n 3, 1) := by decide +kernel
theorem dX14_isBelow_27 : decode cX14_isBelow 27 = .ok (.goto (-25), 3) := by decide +kernel
theorem dX14_isBelow_30 : decode cX14_isBelow 30 = .ok (.iload_n 3, 1) := by decide +kernel
theorem dX14_isBelow_31 : decode cX14_isBelow 31 = .ok (.iload_n 2, 1) := by decide +kernel
theorem dX14_isBelow_32 : decode cX14_isBelow 32 = .ok (.if_icmp .ne 7, 3) := by decide +kernel
theorem dX14_isBelow_35 : decode cX14_isBelow 35 = .ok (.iconst 1, 1) := by decide +kernel
theorem dX14_isBelow_36 : decode cX14_isBelow 36 = .ok (.goto 4, 3) := by decide +kernel
theorem dX14_isBelow_39 : decode cX14_isBelow 39 = .ok (.iconst 0, 1) := by decide +kernel
theorem dX14_isBelow_40 : decode cX14_isBelow 40 = .ok (.ireturn, 1) := by decide +kernel
set_option maxRecDepth 100000 in
set_option maxHeartbeats 4000000 in
theorem m_isBelow (l : Launch) (D : va_G) (cy : Nat → ClassId) {eda ca : Nat} {ia : Nat → Nat} {σ : SG} {K : KM} {g : GH} {n S hw : Nat} (h : Inv eda ia K g n S hw σ) (x : Int32) (hx1 : 0 ≤ x.toInt) (hx2 : x.toInt < n) (h0 : Int32) (hh : 0 ≤ h0.toInt) (sz : Nat) : sgM l D cy eda ca ia σ sz yX14_isBelow (Cond.code yX14_isBelow cX14_isBelow 4 (some .boolean) :: mWall) 3 64 0 0 [.ref (kA K), .int x, .int h0] (fun v σ2 => ∃ b : Int32, v = some (.int b) ∧ σ = σ2 ∧ sgb b (iBw g σ x.toInt h0.toInt)) := by
  refine sg_ofW (cc := cX14_isBelow) (maxL := 4) (ret := (some .boolean)) (by decide) rfl (Nat.le_of_ble_eq_true rfl) (lv := [(0, .ref (kA K)), (1, .int x), (2, .int h0)]) rfl (fun p e s m below meth c ls H N hrt hnm F hB hl => ?_) sz
  have hx := F.1.1
  have hb := F.1.2.1
  have hown := F.1.2.2.2.1
  obtain ⟨m0, m1, m2, m3, m4, m5, m6, m7, ⟨d1, d2⟩, ⟨r1, r2⟩, ⟨y1, y2⟩, ⟨e1, e2⟩, ⟨g1, g2⟩, ⟨p1, p2⟩, ⟨h1, h2⟩, ⟨ev, n9, n10, n11⟩, n12⟩ := inv_Mr h
  obtain ⟨z1, z2, z3⟩ := inv_sz h
  obtain ⟨rk, hrk⟩ := inv_hub h
  generalize hlo : ([] : List Loc) = locs at hB ⊢
  clear hlo
  refine lv_iload_n hx hb dX14_isBelow_0 rfl (lv_at hl 1 rfl) ?_
  refine lv_istore_n (lv' := [(3, .int _), (0, .ref _), (1, .int _), (2, .int _)]) hx hb dX14_isBelow_1 rfl hl (by decide) rfl (fun ls hl => ?_)
  have key2 : ∃ z : Int32, sgB D cy s σ σ H locs N 0 ∧ lv_has ls 4 [(3, .int z), (2, .int h0), (0, .ref (kA K))] ∧ (z = -1 ∨ (0 ≤ z.toInt ∧ z.toInt < n)) ∧ (iBw g σ x.toInt h0.toInt ↔ iBw g σ z.toInt h0.toInt) := ⟨_, hB, (lv_sub hl [0, 3, 1] rfl), Or.inr ⟨hx1, hx2⟩, Iff.rfl⟩
  clear hB hl
  obtain ⟨z, hB, hl, hzr, hiff⟩ := key2
  obtain ⟨d, hd⟩ : ∃ d : Nat, d = (if z = -1 then 0 else rk z.toInt.toNat + 1) := ⟨_, rfl⟩
  induction d using Nat.strongRecOn generalizing H locs ls N z
  rename_i d ih
  refine lv_iload_n hx hb dX14_isBelow_2 rfl (lv_at hl 0 rfl) ?_
  refine lv_iconst (v := (-1)) hx hb dX14_isBelow_3 (by decide) ?_
  refine lv_icmp_eq (tgt := 30) hx hb dX14_isBelow_4 (by decide) (fun c4 => ?_) (fun c4 => ?_)
  · refine lv_iload_n hx hb dX14_isBelow_30 rfl (lv_at hl 0 rfl) ?_
    refine lv_iload_n hx hb dX14_isBelow_31 rfl (lv_at hl 1 rfl) ?_
    refine lv_icmp_ne (tgt := 39) hx hb dX14_isBelow_32 (by decide) (fun c32 => ?_) (fun c32 => ?_)
    · refine lv_iconst (v := 0) hx hb dX14_isBelow_39 (by decide) ?_
      exact sg_zret F hB hrt dX14_isBelow_40 (by decide) (by decide) rfl (by first | exact ⟨1, rfl, rfl, sgb_1 (hiff.mpr (by rw [m_eqI c32]; exact iBw_rf))⟩ | exact ⟨0, rfl, rfl, sgb_0 (fun q => absurd (hiff.mp q) (by rw [show z.toInt = -1 from m_eqI c4]; exact iBw_none hh))⟩ | exact absurd c9 c32)
    · refine lv_iconst (v := 1) hx hb dX14_isBelow_35 (by decide) ?_
      refine lv_goto (tgt := 40) hx hb dX14_isBelow_36 (by decide) ?_
      exact sg_zret F hB hrt dX14_isBelow_40 (by decide) (by decide) rfl (by first | exact ⟨1, rfl, rfl, sgb_1 (hiff.mpr (by rw [m_eqI c32]; exact iBw_rf))⟩ | exact ⟨0, rfl, rfl, sgb_0 (fun q => absurd (hiff.mp q) (by rw [show z.toInt = -1 from m_eqI c4]; exact iBw_none hh))⟩ | exact absurd c9 c32)
  · refine lv_iload_n hx hb dX14_isBelow_7 rfl (lv_at hl 0 rfl) ?_
    refine lv_iload_n hx hb dX14_isBelow_8 rfl (lv_at hl 1 rfl) ?_
    refine lv_icmp_eq (tgt := 30) hx hb dX14_isBelow_9 (by decide) (fun c9 => ?_) (fun c9 => ?_)
    · refine lv_iload_n hx hb dX14_isBelow_30 rfl (lv_at hl 0 rfl) ?_
      refine lv_iload_n hx hb dX14_isBelow_31 rfl (lv_at hl 1 rfl) ?_
      refine lv_icmp_ne (tgt := 39) hx hb dX14_isBelow_32 (by decide) (fun c32 => ?_) (fun c32 => ?_)
      · refine lv_iconst (v := 0) hx hb dX14_isBelow_39 (by decide) ?_
        exact sg_zret F hB hrt dX14_isBelow_40 (by decide) (by decide) rfl (by first | exact ⟨1, rfl, rfl, sgb_1 (hiff.mpr (by rw [m_eqI c32]; exact iBw_rf))⟩ | exact ⟨0, rfl, rfl, sgb_0 (fun q => absurd (hiff.mp q) (by rw [show z.toInt = -1 from m_eqI c4]; exact iBw_none hh))⟩ | exact absurd c9 c32)
      · refine lv_iconst (v := 1) hx hb dX14_isBelow_35 (by decide) ?_
        refine lv_goto (tgt := 40) hx hb dX14_isBelow_36 (by decide) ?_
        exact sg_zret F hB hrt dX14_isBelow_40 (by decide) (by decide) rfl (by first | exact ⟨1, rfl, rfl, sgb_1 (hiff.mpr (by rw [m_eqI c32]; exact iBw_rf))⟩ | exact ⟨0, rfl, rfl, sgb_0 (fun q => absurd (hiff.mp q) (by rw [show z.toInt = -1 from m_eqI c4]; exact iBw_none hh))⟩ | exact absurd c9 c32)
    · obtain ⟨z3, z4⟩ := hzr.resolve_left c4
      refine lv_aload_n hx hb dX14_isBelow_12 rfl (lv_at hl 2 rfl) ?_
      refine gr_X14_10 F hB dX14_isBelow_13 (by assumption) m1 ?_
      refine lv_iload_n hx hb dX14_isBelow_16 rfl (lv_at hl 0 rfl) ?_
      refine sg_callV (ci := 4) F hB (m_getD l D cy h z (by omega) (by omega) _) (cwV 1 F.1.2.2.2.2 (mgV (mm_4 _ (List.mem_of_getElem? (i := 3) rfl)) (mm_4 _ (List.mem_of_getElem? (i := 4) rfl)) (mm_4 _ (List.mem_of_getElem? (i := 5) rfl)) (mm_0 _ (List.mem_of_getElem? (i := 35) rfl)) (mm_3 _ (List.mem_of_getElem? (i := 34) rfl))) rfl rfl rfl ⟨rfl, by decide, by decide, by decide +kernel⟩ ⟨Nat.le_of_ble_eq_true rfl, Nat.le_of_ble_eq_true rfl⟩) rfl rfl (by decide) rfl hl.1 rfl (Nat.le_of_ble_eq_true rfl) dX14_isBelow_17 (Nat.le_of_ble_eq_true rfl) (Nat.add_le_add_right (Nat.le_of_ble_eq_true rfl) _) (by assumption) (fun H locs v σ17 N hBn hX17 hP => ?_)
      clear hB; have hB := hBn; clear hBn
      obtain ⟨rfl, rfl⟩ := hP
      have dv17 := (inv_dv h (k := (z : Int32).toInt.toNat) (by omega)).2.1
      refine va_castY hx hb hown (F.1.2.2.2.2 _ (List.mem_cons_of_mem _ (mm_4 _ (List.mem_of_getElem? (i := 2) rfl)))) (F.2.2.1.2.2 ("HubcascadeModel$Device", "HubcascadeModel$Device") (by decide +kernel)) (sg_recv (ci := 15) F.2.1 hB (by assumption) (by decide) rfl) dX14_isBelow_20 ?_
      refine gf_X14_80 F hB dX14_isBelow_23 (by assumption) ?_
      refine lv_istore_n (lv' := [(3, .int _), (2, .int _), (0, .ref _)]) hx hb dX14_isBelow_26 rfl hl (by decide) rfl (fun ls hl => ?_)
      refine lv_goto (tgt := 2) hx hb dX14_isBelow_27 (by decide) ?_
      refine ih _ ?_ _ _ _ _ _ hB (lv_sub hl [0, 1, 2] rfl) ?_ (hiff.trans (iBw_st (m_zN c4) (m_neI c9))) rfl
      · subst hd
        rw [if_neg c4]
        by_cases q9 : sgI σ (gDv g z.toInt.toNat) 7 = -1
        · rw [if_pos q9]; omega
        · rw [if_neg q9]
          have hk3 := (hrk z.toInt.toNat (by omega)).resolve_left (m_zN q9)
          have := hk3.2.2
          unfold iHb at this
          omega
      · rcases hrk z.toInt.toNat (by omega) with q | q
        · exact Or.inl (i_eq.mpr q)
        · exact Or.inr ⟨q.1, q.2.1⟩
theorem dX14_runs_0 : decode cX14_runs 0 = .ok (.bipush 104, 2) := by decide +kernel
theorem dX14_runs_2 : decode cX14_runs 2 = .ok (.istore_n 2, 1) := by decide +kernel
theorem dX14_runs_3 : decode cX14_runs 3 = .ok (.iload_n 1, 1) := by decide +kernel
theorem dX14_runs_4 : decode cX14_runs 4 = .ok (.istore_n 3, 1) := by decide +kernel
theorem dX14_runs_5 : decode cX14_runs 5 = .ok (.iload_n 3, 1) := by decide +kernel
theorem dX14_runs_6 : decode cX14_runs 6 = .ok (.iconst (-1), 1) := by decide +kernel
theorem dX14_runs_7 : decode cX14_runs 7 = .ok (.if_icmp .eq 69, 3) := by decide +kernel
theorem dX14_runs_10 : decode cX14_runs 10 = .ok (.aload_n 0, 1) := by decide +kernel
theorem dX14_runs_11 : decode cX14_runs 11 = .ok (.getfield 10, 3) := by decide +kernel
theorem dX14_runs_14 : decode cX14_runs 14 = .ok (.iload_n 3, 1) := by decide +kernel
theorem dX14_runs_15 : decode cX14_runs 15 = .ok (.invokevirtual 76, 3) := by decide +kernel
theorem dX14_runs_18 : decode cX14_runs 18 = .ok (.checkcast 48, 3) := by decide +kernel
theorem dX14_runs_21 : decode cX14_runs 21 = .ok (.getfield 83, 3) := by decide +kernel
theorem dX14_runs_24 : decode cX14_runs 24 = .ok (.istore 4, 2) := by decide +kernel
theorem dX14_runs_26 : decode cX14_runs 26 = .ok (.iload 4, 2) := by decide +kernel
theorem dX14_runs_28 : decode cX14_runs 28 = .ok (.bipush 108, 2) := by decide +kernel
theorem dX14_runs_30 : decode cX14_runs 30 = .ok (.if_icmp .eq 9, 3) := by decide +kernel
theorem dX14_runs_33 : decode cX14_runs 33 = .ok (.iload_n 2, 1) := by decide +kernel
theorem dX14_runs_34 : decode cX14_runs 34 = .ok (.bipush 108, 2) := by decide +kernel
theorem dX14_runs_36 : decode cX14_runs 36 = .ok (.if_icmp .ne 8, 3) := by decide +kernel
theorem dX14_runs_39 : decode cX14_runs 39 = .ok (.bipush 108, 2) := by decide +kernel
theorem dX14_runs_41 : decode cX14_runs 41 = .ok (.goto 16, 3) := by decide +kernel
theorem dX14_runs_44 : decode cX14_runs 44 = .ok (.iload 4, 2) := by decide +kernel
theorem dX14_runs_46 : decode cX14_runs 46 = .ok (.bipush 102, 2) := by decide +kernel
theorem dX14_runs_48 : decode cX14_runs 48 = .ok (.if_icmp .ne 8, 3) := by decide +kernel
theorem dX14_runs_51 : decode cX14_runs 51 = .ok (.bipush 102, 2) := by decide +kernel
theorem dX14_runs_53 : decode cX14_runs 53 = .ok (.goto 4, 3) := by decide +kernel
theorem dX14_runs_56 : decode cX14_runs 56 = .ok (.iload_n 2, 1) := by decide +kernel
theorem dX14_runs_57 : decode cX14_runs 57 = .ok (.istore_n 2, 1) := by decide +kernel
theorem dX14_runs_58 : decode cX14_runs 58 = .ok (.aload_n 0, 1) := by decide +kernel
theorem dX14_runs_59 : decode cX14_runs 59 = .ok (.getfield 10, 3) := by decide +kernel
theorem dX14_runs_62 : decode cX14_runs 62 = .ok (.iload_n 3, 1) := by decide +kernel
theorem dX14_runs_63 : decode cX14_runs 63 = .ok (.invokevirtual 76, 3) := by decide +kernel
theorem dX14_runs_66 : decode cX14_runs 66 = .ok (.checkcast 48, 3) := by decide +kernel
theorem dX14_runs_69 : decode cX14_runs 69 = .ok (.getfield 80, 3) := by decide +kernel
theorem dX14_runs_72 : decode cX14_runs 72 = .ok (.istore_n 3, 1) := by decide +kernel
theorem dX14_runs_73 : decode cX14_runs 73 = .ok (.goto (-68), 3) := by decide +kernel
theorem dX14_runs_76 : decode cX14_runs 76 = .ok (.iload_n 2, 1) := by decide +kernel
theorem dX14_runs_77 : decode cX14_runs 77 = .ok (.ireturn, 1) := by decide +kernel
set_option maxRecDepth 100000 in
set_option maxHeartbeats 4000000 in
theorem m_runs (l : Launch) (D : va_G) (cy : Nat → ClassId) {eda ca : Nat} {ia : Nat → Nat} {σ : SG} {K : KM} {g : GH} {n S hw : Nat} (h : Inv eda ia K g n S hw σ) (x : Int32) (hx1 : 0 ≤ x.toInt) (hx2 : x.toInt < n) (sz : Nat) : sgM l D cy eda ca ia σ sz yX14_runs (Cond.code yX14_runs cX14_runs 5 (some .char) :: mWall) 3 64 0 0 [.ref (kA K), .int x] (fun v σ2 => ∃ y : Int32, v = some (.int y) ∧ σ = σ2 ∧ (y = 104 ∨ y = 102 ∨ y = 108) ∧ (x = 0 → y = 104)) := by
  refine sg_ofW (cc := cX14_runs) (maxL := 5) (ret := (some .char)) (by decide) rfl (Nat.le_of_ble_eq_true rfl) (lv := [(0, .ref (kA K)), (1, .int x)]) rfl (fun p e s m below meth c ls H N hrt hnm F hB hl => ?_) sz
  have hx := F.1.1
  have hb := F.1.2.1
  have hown := F.1.2.2.2.1
  obtain ⟨m0, m1, m2, m3, m4, m5, m6, m7, ⟨d1, d2⟩, ⟨r1, r2⟩, ⟨y1, y2⟩, ⟨e1, e2⟩, ⟨g1, g2⟩, ⟨p1, p2⟩, ⟨h1, h2⟩, ⟨ev, n9, n10, n11⟩, n12⟩ := inv_Mr h
  obtain ⟨z1, z2, z3⟩ := inv_sz h
  obtain ⟨rk, hrk⟩ := inv_hub h
  have hR0 := (inv_R h).2.2.2
  generalize hlo : ([] : List Loc) = locs at hB ⊢
  clear hlo
  refine lv_bipush (v := 104) hx hb dX14_runs_0 (by decide) ?_
  refine lv_istore_n (lv' := [(2, .int _), (0, .ref _), (1, .int _)]) hx hb dX14_runs_2 rfl hl (by decide) rfl (fun ls hl => ?_)
  refine lv_iload_n hx hb dX14_runs_3 rfl (lv_at hl 2 rfl) ?_
  refine lv_istore_n (lv' := [(3, .int _), (2, .int _), (0, .ref _), (1, .int _)]) hx hb dX14_runs_4 rfl hl (by decide) rfl (fun ls hl => ?_)
  have key5 : ∃ z y : Int32, sgB D cy s σ σ H locs N 0 ∧ lv_has ls 5 [(3, .int z), (2, .int y), (0, .ref (kA K))] ∧ (z = -1 ∨ (0 ≤ z.toInt ∧ z.toInt < n)) ∧ (y = 104 ∨ y = 102 ∨ y = 108) ∧ (x = 0 → y = 104 ∧ (z = 0 ∨ z = -1)) := ⟨_, _, hB, (lv_sub hl [0, 1, 2] rfl), Or.inr ⟨hx1, hx2⟩, Or.inl rfl, fun q => ⟨rfl, Or.inl q⟩⟩
  clear hB hl
  obtain ⟨z, y, hB, hl, hzr, hy, hx0⟩ := key5
  obtain ⟨d, hd⟩ : ∃ d : Nat, d = (if z = -1 then 0 else rk z.toInt.toNat + 1) := ⟨_, rfl⟩
  induction d using Nat.strongRecOn generalizing H locs ls N z y
  rename_i d ih
  refine lv_iload_n hx hb dX14_runs_5 rfl (lv_at hl 0 rfl) ?_
  refine lv_iconst (v := (-1)) hx hb dX14_runs_6 (by decide) ?_
  refine lv_icmp_eq (tgt := 76) hx hb dX14_runs_7 (by decide) (fun c7 => ?_) (fun c7 => ?_)
  · refine lv_iload_n hx hb dX14_runs_76 rfl (lv_at hl 1 rfl) ?_
    exact sg_zret F hB hrt dX14_runs_77 (by decide) (by decide) (sg_nfl hy) (⟨_, rfl, rfl, hy, fun q => (hx0 q).1⟩)
  · obtain ⟨z3, z4⟩ := hzr.resolve_left c7
    refine lv_aload_n hx hb dX14_runs_10 rfl (lv_at hl 2 rfl) ?_
    refine gr_X14_10 F hB dX14_runs_11 (by assumption) m1 ?_
    refine lv_iload_n hx hb dX14_runs_14 rfl (lv_at hl 0 rfl) ?_
    refine sg_callV (ci := 4) F hB (m_getD l D cy h z (by omega) (by omega) _) (cwV 1 F.1.2.2.2.2 (mgV (mm_4 _ (List.mem_of_getElem? (i := 3) rfl)) (mm_4 _ (List.mem_of_getElem? (i := 4) rfl)) (mm_4 _ (List.mem_of_getElem? (i := 5) rfl)) (mm_0 _ (List.mem_of_getElem? (i := 35) rfl)) (mm_3 _ (List.mem_of_getElem? (i := 34) rfl))) rfl rfl rfl ⟨rfl, by decide, by decide, by decide +kernel⟩ ⟨Nat.le_of_ble_eq_true rfl, Nat.le_of_ble_eq_true rfl⟩) rfl rfl (by decide) rfl hl.1 rfl (Nat.le_of_ble_eq_true rfl) dX14_runs_15 (Nat.le_of_ble_eq_true rfl) (Nat.add_le_add_right (Nat.le_of_ble_eq_true rfl) _) (by assumption) (fun H locs v σ15 N hBn hX15 hP => ?_)
    clear hB; have hB := hBn; clear hBn
    obtain ⟨rfl, rfl⟩ := hP
    have dv15 := (inv_dv h (k := (z : Int32).toInt.toNat) (by omega)).2.1
    refine va_castY hx hb hown (F.1.2.2.2.2 _ (List.mem_cons_of_mem _ (mm_4 _ (List.mem_of_getElem? (i := 2) rfl)))) (F.2.2.1.2.2 ("HubcascadeModel$Device", "HubcascadeModel$Device") (by decide +kernel)) (sg_recv (ci := 15) F.2.1 hB (by assumption) (by decide) rfl) dX14_runs_18 ?_
    refine gf_X14_83 F hB dX14_runs_21 (by assumption) ?_
    refine lv_istore (lv' := [(4, .int _), (3, .int _), (2, .int _), (0, .ref _)]) hx hb dX14_runs_24 hl (by decide) rfl (fun ls hl => ?_)
    refine lv_iload hx hb dX14_runs_26 (lv_at hl 0 rfl) ?_
    refine lv_bipush (v := 108) hx hb dX14_runs_28 (by decide) ?_
    refine lv_icmp_eq (tgt := 39) hx hb dX14_runs_30 (by decide) (fun c30 => ?_) (fun c30 => ?_)
    · refine lv_bipush (v := 108) hx hb dX14_runs_39 (by decide) ?_
      refine lv_goto (tgt := 57) hx hb dX14_runs_41 (by decide) ?_
      refine lv_istore_n (lv' := [(2, .int _), (4, .int _), (3, .int _), (0, .ref _)]) hx hb dX14_runs_57 rfl hl (by decide) rfl (fun ls hl => ?_)
      refine lv_aload_n hx hb dX14_runs_58 rfl (lv_at hl 3 rfl) ?_
      refine gr_X14_10 F hB dX14_runs_59 (by assumption) m1 ?_
      refine lv_iload_n hx hb dX14_runs_62 rfl (lv_at hl 2 rfl) ?_
      refine sg_callV (ci := 4) F hB (m_getD l D cy h z (by omega) (by omega) _) (cwV 1 F.1.2.2.2.2 (mgV (mm_4 _ (List.mem_of_getElem? (i := 3) rfl)) (mm_4 _ (List.mem_of_getElem? (i := 4) rfl)) (mm_4 _ (List.mem_of_getElem? (i := 5) rfl)) (mm_0 _ (List.mem_of_getElem? (i := 35) rfl)) (mm_3 _ (List.mem_of_getElem? (i := 34) rfl))) rfl rfl rfl ⟨rfl, by decide, by decide, by decide +kernel⟩ ⟨Nat.le_of_ble_eq_true rfl, Nat.le_of_ble_eq_true rfl⟩) rfl rfl (by decide) rfl hl.1 rfl (Nat.le_of_ble_eq_true rfl) dX14_runs_63 (Nat.le_of_ble_eq_true rfl) (Nat.add_le_add_right (Nat.le_of_ble_eq_true rfl) _) (by assumption) (fun H locs v σ63 N hBn hX63 hP => ?_)
      clear hB; have hB := hBn; clear hBn
      obtain ⟨rfl, rfl⟩ := hP
      have dv63 := (inv_dv h (k := (z : Int32).toInt.toNat) (by omega)).2.1
      refine va_castY hx hb hown (F.1.2.2.2.2 _ (List.mem_cons_of_mem _ (mm_4 _ (List.mem_of_getElem? (i := 2) rfl)))) (F.2.2.1.2.2 ("HubcascadeModel$Device", "HubcascadeModel$Device") (by decide +kernel)) (sg_recv (ci := 15) F.2.1 hB (by assumption) (by decide) rfl) dX14_runs_66 ?_
      refine gf_X14_80 F hB dX14_runs_69 (by assumption) ?_
      refine lv_istore_n (lv' := [(3, .int _), (2, .int _), (4, .int _), (0, .ref _)]) hx hb dX14_runs_72 rfl hl (by decide) rfl (fun ls hl => ?_)
      refine lv_goto (tgt := 5) hx hb dX14_runs_73 (by decide) ?_
      refine ih _ ?_ _ _ _ _ _ _ hB (lv_sub hl [0, 1, 3] rfl) ?_ (by first | exact Or.inl rfl | exact Or.inr (Or.inl rfl) | exact Or.inr (Or.inr rfl) | exact hy) ?_ rfl
      · subst hd
        rw [if_neg c7]
        by_cases q9 : sgI σ (gDv g z.toInt.toNat) 7 = -1
        · rw [if_pos q9]; omega
        · rw [if_neg q9]
          have hk3 := (hrk z.toInt.toNat (by omega)).resolve_left (m_zN q9)
          have := hk3.2.2
          unfold iHb at this
          omega
      · rcases hrk z.toInt.toNat (by omega) with q | q
        · exact Or.inl (i_eq.mpr q)
        · exact Or.inr ⟨q.1, q.2.1⟩
      · intro q
        obtain ⟨y1, y2⟩ := hx0 q
        have z0 : z = 0 := y2.resolve_right c7
        subst z0
        have e0 : sgI σ (gDv g (0 : Int32).toInt.toNat) 0 = 104 := hR0.2.2
        refine ⟨?_, Or.inr (i_eq.mpr hR0.1)⟩
        first | exact y1 | exact absurd (e0.symm.trans c30) (by decide) | exact absurd (y1.symm.trans c36) (by decide) | exact absurd (e0.symm.trans c48) (by decide) | exact absurd (y1.symm.trans (Classical.not_not.mp c36)) (by decide) | exact absurd (e0.symm.trans (Classical.not_not.mp c48)) (by decide)
    · refine lv_iload_n hx hb dX14_runs_33 rfl (lv_at hl 2 rfl) ?_
      refine lv_bipush (v := 108) hx hb dX14_runs_34 (by decide) ?_
      refine lv_icmp_ne (tgt := 44) hx hb dX14_runs_36 (by decide) (fun c36 => ?_) (fun c36 => ?_)
      · refine lv_iload hx hb dX14_runs_44 (lv_at hl 0 rfl) ?_
        refine lv_bipush (v := 102) hx hb dX14_runs_46 (by decide) ?_
        refine lv_icmp_ne (tgt := 56) hx hb dX14_runs_48 (by decide) (fun c48 => ?_) (fun c48 => ?_)
        · refine lv_iload_n hx hb dX14_runs_56 rfl (lv_at hl 2 rfl) ?_
          refine lv_istore_n (lv' := [(2, .int _), (4, .int _), (3, .int _), (0, .ref _)]) hx hb dX14_runs_57 rfl hl (by decide) rfl (fun ls hl => ?_)
          refine lv_aload_n hx hb dX14_runs_58 rfl (lv_at hl 3 rfl) ?_
          refine gr_X14_10 F hB dX14_runs_59 (by assumption) m1 ?_
          refine lv_iload_n hx hb dX14_runs_62 rfl (lv_at hl 2 rfl) ?_
          refine sg_callV (ci := 4) F hB (m_getD l D cy h z (by omega) (by omega) _) (cwV 1 F.1.2.2.2.2 (mgV (mm_4 _ (List.mem_of_getElem? (i := 3) rfl)) (mm_4 _ (List.mem_of_getElem? (i := 4) rfl)) (mm_4 _ (List.mem_of_getElem? (i := 5) rfl)) (mm_0 _ (List.mem_of_getElem? (i := 35) rfl)) (mm_3 _ (List.mem_of_getElem? (i := 34) rfl))) rfl rfl rfl ⟨rfl, by decide, by decide, by decide +kernel⟩ ⟨Nat.le_of_ble_eq_true rfl, Nat.le_of_ble_eq_true rfl⟩) rfl rfl (by decide) rfl hl.1 rfl (Nat.le_of_ble_eq_true rfl) dX14_runs_63 (Nat.le_of_ble_eq_true rfl) (Nat.add_le_add_right (Nat.le_of_ble_eq_true rfl) _) (by assumption) (fun H locs v σ63 N hBn hX63 hP => ?_)
          clear hB; have hB := hBn; clear hBn
          obtain ⟨rfl, rfl⟩ := hP
          have dv63 := (inv_dv h (k := (z : Int32).toInt.toNat) (by omega)).2.1
          refine va_castY hx hb hown (F.1.2.2.2.2 _ (List.mem_cons_of_mem _ (mm_4 _ (List.mem_of_getElem? (i := 2) rfl)))) (F.2.2.1.2.2 ("HubcascadeModel$Device", "HubcascadeModel$Device") (by decide +kernel)) (sg_recv (ci := 15) F.2.1 hB (by assumption) (by decide) rfl) dX14_runs_66 ?_
          refine gf_X14_80 F hB dX14_runs_69 (by assumption) ?_
          refine lv_istore_n (lv' := [(3, .int _), (2, .int _), (4, .int _), (0, .ref _)]) hx hb dX14_runs_72 rfl hl (by decide) rfl (fun ls hl => ?_)
          refine lv_goto (tgt := 5) hx hb dX14_runs_73 (by decide) ?_
          refine ih _ ?_ _ _ _ _ _ _ hB (lv_sub hl [0, 1, 3] rfl) ?_ (by first | exact Or.inl rfl | exact Or.inr (Or.inl rfl) | exact Or.inr (Or.inr rfl) | exact hy) ?_ rfl
          · subst hd
            rw [if_neg c7]
            by_cases q9 : sgI σ (gDv g z.toInt.toNat) 7 = -1
            · rw [if_pos q9]; omega
            · rw [if_neg q9]
              have hk3 := (hrk z.toInt.toNat (by omega)).resolve_left (m_zN q9)
              have := hk3.2.2
              unfold iHb at this
              omega
          · rcases hrk z.toInt.toNat (by omega) with q | q
            · exact Or.inl (i_eq.mpr q)
            · exact Or.inr ⟨q.1, q.2.1⟩
          · intro q
            obtain ⟨y1, y2⟩ := hx0 q
            have z0 : z = 0 := y2.resolve_right c7
            subst z0
            have e0 : sgI σ (gDv g (0 : Int32).toInt.toNat) 0 = 104 := hR0.2.2
            refine ⟨?_, Or.inr (i_eq.mpr hR0.1)⟩
            first | exact y1 | exact absurd (e0.symm.trans c30) (by decide) | exact absurd (y1.symm.trans c36) (by decide) | exact absurd (e0.symm.trans c48) (by decide) | exact absurd (y1.symm.trans (Classical.not_not.mp c36)) (by decide) | exact absurd (e0.symm.trans (Classical.not_not.mp c48)) (by decide)
        · refine lv_bipush (v := 102) hx hb dX14_runs_51 (by decide) ?_
          refine lv_goto (tgt := 57) hx hb dX14_runs_53 (by decide) ?_
          refine lv_istore_n (lv' := [(2, .int _), (4, .int _), (3, .int _), (0, .ref _)]) hx hb dX14_runs_57 rfl hl (by decide) rfl (fun ls hl => ?_)
          refine lv_aload_n hx hb dX14_runs_58 rfl (lv_at hl 3 rfl) ?_
          refine gr_X14_10 F hB dX14_runs_59 (by assumption) m1 ?_
          refine lv_iload_n hx hb dX14_runs_62 rfl (lv_at hl 2 rfl) ?_
          refine sg_callV (ci := 4) F hB (m_getD l D cy h z (by omega) (by omega) _) (cwV 1 F.1.2.2.2.2 (mgV (mm_4 _ (List.mem_of_getElem? (i := 3) rfl)) (mm_4 _ (List.mem_of_getElem? (i := 4) rfl)) (mm_4 _ (List.mem_of_getElem? (i := 5) rfl)) (mm_0 _ (List.mem_of_getElem? (i := 35) rfl)) (mm_3 _ (List.mem_of_getElem? (i := 34) rfl))) rfl rfl rfl ⟨rfl, by decide, by decide, by decide +kernel⟩ ⟨Nat.le_of_ble_eq_true rfl, Nat.le_of_ble_eq_true rfl⟩) rfl rfl (by decide) rfl hl.1 rfl (Nat.le_of_ble_eq_true rfl) dX14_runs_63 (Nat.le_of_ble_eq_true rfl) (Nat.add_le_add_right (Nat.le_of_ble_eq_true rfl) _) (by assumption) (fun H locs v σ63 N hBn hX63 hP => ?_)
          clear hB; have hB := hBn; clear hBn
          obtain ⟨rfl, rfl⟩ := hP
          have dv63 := (inv_dv h (k := (z : Int32).toInt.toNat) (by omega)).2.1
          refine va_castY hx hb hown (F.1.2.2.2.2 _ (List.mem_cons_of_mem _ (mm_4 _ (List.mem_of_getElem? (i := 2) rfl)))) (F.2.2.1.2.2 ("HubcascadeModel$Device", "HubcascadeModel$Device") (by decide +kernel)) (sg_recv (ci := 15) F.2.1 hB (by assumption) (by decide) rfl) dX14_runs_66 ?_
          refine gf_X14_80 F hB dX14_runs_69 (by assumption) ?_
          refine lv_istore_n (lv' := [(3, .int _), (2, .int _), (4, .int _), (0, .ref _)]) hx hb dX14_runs_72 rfl hl (by decide) rfl (fun ls hl => ?_)
          refine lv_goto (tgt := 5) hx hb dX14_runs_73 (by decide) ?_
          refine ih _ ?_ _ _ _ _ _ _ hB (lv_sub hl [0, 1, 3] rfl) ?_ (by first | exact Or.inl rfl | exact Or.inr (Or.inl rfl) | exact Or.inr (Or.inr rfl) | exact hy) ?_ rfl
          · subst hd
            rw [if_neg c7]
            by_cases q9 : sgI σ (gDv g z.toInt.toNat) 7 = -1
            · rw [if_pos q9]; omega
            · rw [if_neg q9]
              have hk3 := (hrk z.toInt.toNat (by omega)).resolve_left (m_zN q9)
              have := hk3.2.2
              unfold iHb at this
              omega
          · rcases hrk z.toInt.toNat (by omega) with q | q
            · exact Or.inl (i_eq.mpr q)
            · exact Or.inr ⟨q.1, q.2.1⟩
          · intro q
            obtain ⟨y1, y2⟩ := hx0 q
            have z0 : z = 0 := y2.resolve_right c7
            subst z0
            have e0 : sgI σ (gDv g (0 : Int32).toInt.toNat) 0 = 104 := hR0.2.2
            refine ⟨?_, Or.inr (i_eq.mpr hR0.1)⟩
            first | exact y1 | exact absurd (e0.symm.trans c30) (by decide) | exact absurd (y1.symm.trans c36) (by decide) | exact absurd (e0.symm.trans c48) (by decide) | exact absurd (y1.symm.trans (Classical.not_not.mp c36)) (by decide) | exact absurd (e0.symm.trans (Classical.not_not.mp c48)) (by decide)
      · refine lv_bipush (v := 108) hx hb dX14_runs_39 (by decide) ?_
        refine lv_goto (tgt := 57) hx hb dX14_runs_41 (by decide) ?_
        refine lv_istore_n (lv' := [(2, .int _), (4, .int _), (3, .int _), (0, .ref _)]) hx hb dX14_runs_57 rfl hl (by decide) rfl (fun ls hl => ?_)
        refine lv_aload_n hx hb dX14_runs_58 rfl (lv_at hl 3 rfl) ?_
        refine gr_X14_10 F hB dX14_runs_59 (by assumption) m1 ?_
        refine lv_iload_n hx hb dX14_runs_62 rfl (lv_at hl 2 rfl) ?_
        refine sg_callV (ci := 4) F hB (m_getD l D cy h z (by omega) (by omega) _) (cwV 1 F.1.2.2.2.2 (mgV (mm_4 _ (List.mem_of_getElem? (i := 3) rfl)) (mm_4 _ (List.mem_of_getElem? (i := 4) rfl)) (mm_4 _ (List.mem_of_getElem? (i := 5) rfl)) (mm_0 _ (List.mem_of_getElem? (i := 35) rfl)) (mm_3 _ (List.mem_of_getElem? (i := 34) rfl))) rfl rfl rfl ⟨rfl, by decide, by decide, by decide +kernel⟩ ⟨Nat.le_of_ble_eq_true rfl, Nat.le_of_ble_eq_true rfl⟩) rfl rfl (by decide) rfl hl.1 rfl (Nat.le_of_ble_eq_true rfl) dX14_runs_63 (Nat.le_of_ble_eq_true rfl) (Nat.add_le_add_right (Nat.le_of_ble_eq_true rfl) _) (by assumption) (fun H locs v σ63 N hBn hX63 hP => ?_)
        clear hB; have hB := hBn; clear hBn
        obtain ⟨rfl, rfl⟩ := hP
        have dv63 := (inv_dv h (k := (z : Int32).toInt.toNat) (by omega)).2.1
        refine va_castY hx hb hown (F.1.2.2.2.2 _ (List.mem_cons_of_mem _ (mm_4 _ (List.mem_of_getElem? (i := 2) rfl)))) (F.2.2.1.2.2 ("HubcascadeModel$Device", "HubcascadeModel$Device") (by decide +kernel)) (sg_recv (ci := 15) F.2.1 hB (by assumption) (by decide) rfl) dX14_runs_66 ?_
        refine gf_X14_80 F hB dX14_runs_69 (by assumption) ?_
        refine lv_istore_n (lv' := [(3, .int _), (2, .int _), (4, .int _), (0, .ref _)]) hx hb dX14_runs_72 rfl hl (by decide) rfl (fun ls hl => ?_)
        refine lv_goto (tgt := 5) hx hb dX14_runs_73 (by decide) ?_
        refine ih _ ?_ _ _ _ _ _ _ hB (lv_sub hl [0, 1, 3] rfl) ?_ (by first | exact Or.inl rfl | exact Or.inr (Or.inl rfl) | exact Or.inr (Or.inr rfl) | exact hy) ?_ rfl
        · subst hd
          rw [if_neg c7]
          by_cases q9 : sgI σ (gDv g z.toInt.toNat) 7 = -1
          · rw [if_pos q9]; omega
          · rw [if_neg q9]
            have hk3 := (hrk z.toInt.toNat (by omega)).resolve_left (m_zN q9)
            have := hk3.2.2
            unfold iHb at this
            omega
        · rcases hrk z.toInt.toNat (by omega) with q | q
          · exact Or.inl (i_eq.mpr q)
          · exact Or.inr ⟨q.1, q.2.1⟩
        · intro q
          obtain ⟨y1, y2⟩ := hx0 q
          have z0 : z = 0 := y2.resolve_right c7
          subst z0
          have e0 : sgI σ (gDv g (0 : Int32).toInt.toNat) 0 = 104 := hR0.2.2
          refine ⟨?_, Or.inr (i_eq.mpr hR0.1)⟩
          first | exact y1 | exact absurd (e0.symm.trans c30) (by decide) | exact absurd (y1.symm.trans c36) (by decide) | exact absurd (e0.symm.trans c48) (by decide) | exact absurd (y1.symm.trans (Classical.not_not.mp c36)) (by decide) | exact absurd (e0.symm.trans (Classical.not_not.mp c48)) (by decide)
theorem dX14_translatorOf_0 : decode cX14_translatorOf 0 = .ok (.aload_n 0, 1) := by decide +kernel
theorem dX14_translatorOf_1 : decode cX14_translatorOf 1 = .ok (.getfield 10, 3) := by decide +kernel
theorem dX14_translatorOf_4 : decode cX14_translatorOf 4 = .ok (.iload_n 1, 1) := by decide +kernel
theorem dX14_translatorOf_5 : decode cX14_translatorOf 5 = .ok (.invokevirtual 76, 3) := by decide +kernel
theorem dX14_translatorOf_8 : decode cX14_translatorOf 8 = .ok (.checkcast 48, 3) := by decide +kernel
theorem dX14_translatorOf_11 : decode cX14_translatorOf 11 = .ok (.getfield 80, 3) := by decide +kernel
theorem dX14_translatorOf_14 : decode cX14_translatorOf 14 = .ok (.istore_n 2, 1) := by decide +kernel
theorem dX14_translatorOf_15 : decode cX14_translatorOf 15 = .ok (.aload_n 0, 1) := by decide +kernel
theorem dX14_translatorOf_16 : decode cX14_translatorOf 16 = .ok (.iload_n 2, 1) := by decide +kernel
theorem dX14_translatorOf_17 : decode cX14_translatorOf 17 = .ok (.invokevirtual 86, 3) := by decide +kernel
theorem dX14_translatorOf_20 : decode cX14_translatorOf 20 = .ok (.bipush 104, 2) := by decide +kernel
theorem dX14_translatorOf_22 : decode cX14_translatorOf 22 = .ok (.if_icmp .eq 21, 3) := by decide +kernel
theorem dX14_translatorOf_25 : decode cX14_translatorOf 25 = .ok (.aload_n 0, 1) := by decide +kernel
theorem dX14_translatorOf_26 : decode cX14_translatorOf 26 = .ok (.getfield 10, 3) := by decide +kernel
theorem dX14_translatorOf_29 : decode cX14_translatorOf 29 = .ok (.iload_n 2, 1) := by decide +kernel
theorem dX14_translatorOf_30 : decode cX14_translatorOf 30 = .ok (.invokevirtual 76, 3) := by decide +kernel
theorem dX14_translatorOf_33 : decode cX14_translatorOf 33 = .ok (.checkcast 48, 3) := by decide +kernel
theorem dX14_translatorOf_36 : decode cX14_translatorOf 36 = .ok (.getfield 80, 3) := by decide +kernel
theorem dX14_translatorOf_39 : decode cX14_translatorOf 39 = .ok (.istore_n 2, 1) := by decide +kernel
theorem dX14_translatorOf_40 : decode cX14_translatorOf 40 = .ok (.goto (-25), 3) := by decide +kernel
theorem dX14_translatorOf_43 : decode cX14_translatorOf 43 = .ok (.iload_n 2, 1) := by decide +kernel
theorem dX14_translatorOf_44 : decode cX14_translatorOf 44 = .ok (.ireturn, 1) := by decide +kernel
set_option maxRecDepth 100000 in
set_option maxHeartbeats 4000000 in
theorem m_translatorOf (l : Launch) (D : va_G) (cy : Nat → ClassId) {eda ca : Nat} {ia : Nat → Nat} {σ : SG} {K : KM} {g : GH} {n S hw : Nat} (h : Inv eda ia K g n S hw σ) (hY : nY g) (x : Int32) (hx1 : 1 ≤ x.toInt) (hx2 : x.toInt < n) (hu : ¬ iSt g σ x.toInt.toNat = 117) (sz : Nat) : sgM l D cy eda ca ia σ sz yX14_translatorOf (Cond.code yX14_translatorOf cX14_translatorOf 3 (some .int) :: mWall) 4 88 0 0 [.ref (kA K), .int x] (fun v σ2 => ∃ y : Int32, v = some (.int y) ∧ σ = σ2 ∧ 0 ≤ y.toInt ∧ y.toInt < n) := by
  refine sg_ofW (cc := cX14_translatorOf) (maxL := 3) (ret := (some .int)) (by decide) rfl (Nat.le_of_ble_eq_true rfl) (lv := [(0, .ref (kA K)), (1, .int x)]) rfl (fun p e s m below meth c ls H N hrt hnm F hB hl => ?_) sz
  have hx := F.1.1
  have hb := F.1.2.1
  have hown := F.1.2.2.2.1
  obtain ⟨m0, m1, m2, m3, m4, m5, m6, m7, ⟨d1, d2⟩, ⟨r1, r2⟩, ⟨y1, y2⟩, ⟨e1, e2⟩, ⟨g1, g2⟩, ⟨p1, p2⟩, ⟨h1, h2⟩, ⟨ev, n9, n10, n11⟩, n12⟩ := inv_Mr h
  obtain ⟨z1, z2, z3⟩ := inv_sz h
  obtain ⟨rk, hrk⟩ := inv_hub h
  have hup := inv_up h hY (k := x.toInt.toNat) (by omega) (by omega) hu
  generalize hlo : ([] : List Loc) = locs at hB ⊢
  clear hlo
  refine lv_aload_n hx hb dX14_translatorOf_0 rfl (lv_at hl 0 rfl) ?_
  refine gr_X14_10 F hB dX14_translatorOf_1 (by assumption) m1 ?_
  refine lv_iload_n hx hb dX14_translatorOf_4 rfl (lv_at hl 1 rfl) ?_
  refine sg_callV (ci := 4) F hB (m_getD l D cy h x (by omega) (by omega) _) (cwV 1 F.1.2.2.2.2 (mgV (mm_4 _ (List.mem_of_getElem? (i := 3) rfl)) (mm_4 _ (List.mem_of_getElem? (i := 4) rfl)) (mm_4 _ (List.mem_of_getElem? (i := 5) rfl)) (mm_0 _ (List.mem_of_getElem? (i := 35) rfl)) (mm_3 _ (List.mem_of_getElem? (i := 34) rfl))) rfl rfl rfl ⟨rfl, by decide, by decide, by decide +kernel⟩ ⟨Nat.le_of_ble_eq_true rfl, Nat.le_of_ble_eq_true rfl⟩) rfl rfl (by decide) rfl hl.1 rfl (Nat.le_of_ble_eq_true rfl) dX14_translatorOf_5 (Nat.le_of_ble_eq_true rfl) (Nat.add_le_add_right (Nat.le_of_ble_eq_true rfl) _) (by assumption) (fun H locs v σ5 N hBn hX5 hP => ?_)
  clear hB; have hB := hBn; clear hBn
  obtain ⟨rfl, rfl⟩ := hP
  have dv5 := (inv_dv h (k := (x : Int32).toInt.toNat) (by omega)).2.1
  refine va_castY hx hb hown (F.1.2.2.2.2 _ (List.mem_cons_of_mem _ (mm_4 _ (List.mem_of_getElem? (i := 2) rfl)))) (F.2.2.1.2.2 ("HubcascadeModel$Device", "HubcascadeModel$Device") (by decide +kernel)) (sg_recv (ci := 15) F.2.1 hB (by assumption) (by decide) rfl) dX14_translatorOf_8 ?_
  refine gf_X14_80 F hB dX14_translatorOf_11 (by assumption) ?_
  refine lv_istore_n (lv' := [(2, .int _), (0, .ref _), (1, .int _)]) hx hb dX14_translatorOf_14 rfl hl (by decide) rfl (fun ls hl => ?_)
  have key15 : ∃ z : Int32, sgB D cy s σ σ H locs N 0 ∧ lv_has ls 3 [(2, .int z), (0, .ref (kA K))] ∧ 0 ≤ z.toInt ∧ z.toInt < n ∧ ¬ iSt g σ z.toInt.toNat = 117 := ⟨_, hB, (lv_sub hl [0, 1] rfl), hup⟩
  clear hB hl
  obtain ⟨z, hB, hl, hz1, hz2, hzu⟩ := key15
  obtain ⟨d, hd⟩ : ∃ d : Nat, d = rk z.toInt.toNat := ⟨_, rfl⟩
  induction d using Nat.strongRecOn generalizing H locs ls N z
  rename_i d ih
  refine lv_aload_n hx hb dX14_translatorOf_15 rfl (lv_at hl 1 rfl) ?_
  refine lv_iload_n hx hb dX14_translatorOf_16 rfl (lv_at hl 0 rfl) ?_
  refine sg_callV (ci := 19) F hB (m_runs l D cy h z hz1 hz2 _) (cwV 1 F.1.2.2.2.2 (mgV (mm_4 _ (List.mem_of_getElem? (i := 9) rfl)) (mm_4 _ (List.mem_of_getElem? (i := 10) rfl)) (mm_4 _ (List.mem_of_getElem? (i := 11) rfl)) (mm_3 _ (List.mem_of_getElem? (i := 23) rfl)) (mm_4 _ (List.mem_of_getElem? (i := 8) rfl))) rfl rfl rfl ⟨rfl, by decide, by decide, by decide +kernel⟩ ⟨Nat.le_of_ble_eq_true rfl, Nat.le_of_ble_eq_true rfl⟩) rfl rfl (by decide) rfl hl.1 rfl (Nat.le_of_ble_eq_true rfl) dX14_translatorOf_17 (Nat.le_of_ble_eq_true rfl) (Nat.add_le_add_right (Nat.le_of_ble_eq_true rfl) _) (by assumption) (fun H locs v σ17 N hBn hX17 hP => ?_)
  clear hB; have hB := hBn; clear hBn
  obtain ⟨y17, rfl, rfl, hy16, hy17⟩ := hP
  refine lv_bipush (v := 104) hx hb dX14_translatorOf_20 (by decide) ?_
  refine lv_icmp_eq (tgt := 43) hx hb dX14_translatorOf_22 (by decide) (fun c22 => ?_) (fun c22 => ?_)
  · refine lv_iload_n hx hb dX14_translatorOf_43 rfl (lv_at hl 0 rfl) ?_
    exact sg_iret F hB hrt dX14_translatorOf_44 (by decide) (by decide) (⟨_, rfl, rfl, hz1, hz2⟩)
  · have hz0 : 1 ≤ z.toInt := by
          by_cases q : z = 0
          · exact absurd (hy17 q) c22
          · have := m_neI q; have e0 : (0 : Int32).toInt = 0 := rfl; omega
    have hu3 := inv_up h hY (k := z.toInt.toNat) (by omega) (by omega) hzu
    have hk3 := ((hrk z.toInt.toNat (by omega)).resolve_left (by omega)).2.2
    refine lv_aload_n hx hb dX14_translatorOf_25 rfl (lv_at hl 1 rfl) ?_
    refine gr_X14_10 F hB dX14_translatorOf_26 (by assumption) m1 ?_
    refine lv_iload_n hx hb dX14_translatorOf_29 rfl (lv_at hl 0 rfl) ?_
    refine sg_callV (ci := 4) F hB (m_getD l D cy h z (by omega) (by omega) _) (cwV 1 F.1.2.2.2.2 (mgV (mm_4 _ (List.mem_of_getElem? (i := 3) rfl)) (mm_4 _ (List.mem_of_getElem? (i := 4) rfl)) (mm_4 _ (List.mem_of_getElem? (i := 5) rfl)) (mm_0 _ (List.mem_of_getElem? (i := 35) rfl)) (mm_3 _ (List.mem_of_getElem? (i := 34) rfl))) rfl rfl rfl ⟨rfl, by decide, by decide, by decide +kernel⟩ ⟨Nat.le_of_ble_eq_true rfl, Nat.le_of_ble_eq_true rfl⟩) rfl rfl (by decide) rfl hl.1 rfl (Nat.le_of_ble_eq_true rfl) dX14_translatorOf_30 (Nat.le_of_ble_eq_true rfl) (Nat.add_le_add_right (Nat.le_of_ble_eq_true rfl) _) (by assumption) (fun H locs v σ30 N hBn hX30 hP => ?_)
    clear hB; have hB := hBn; clear hBn
    obtain ⟨rfl, rfl⟩ := hP
    have dv30 := (inv_dv h (k := (z : Int32).toInt.toNat) (by omega)).2.1
    refine va_castY hx hb hown (F.1.2.2.2.2 _ (List.mem_cons_of_mem _ (mm_4 _ (List.mem_of_getElem? (i := 2) rfl)))) (F.2.2.1.2.2 ("HubcascadeModel$Device", "HubcascadeModel$Device") (by decide +kernel)) (sg_recv (ci := 15) F.2.1 hB (by assumption) (by decide) rfl) dX14_translatorOf_33 ?_
    refine gf_X14_80 F hB dX14_translatorOf_36 (by assumption) ?_
    refine lv_istore_n (lv' := [(2, .int _), (0, .ref _)]) hx hb dX14_translatorOf_39 rfl hl (by decide) rfl (fun ls hl => ?_)
    refine lv_goto (tgt := 15) hx hb dX14_translatorOf_40 (by decide) ?_
    exact ih _ (by subst hd; exact hk3) _ _ _ _ _ hB (lv_sub hl [0, 1] rfl) hu3.1 hu3.2.1 hu3.2.2 rfl
theorem dX14_depthOf_0 : decode cX14_depthOf 0 = .ok (.aload_n 0, 1) := by decide +kernel
theorem dX14_depthOf_1 : decode cX14_depthOf 1 = .ok (.iload_n 1, 1) := by decide +kernel
theorem dX14_depthOf_2 : decode cX14_depthOf 2 = .ok (.invokevirtual 90, 3) := by decide +kernel
theorem dX14_depthOf_5 : decode cX14_depthOf 5 = .ok (.ifCond .eq 7, 3) := by decide +kernel
theorem dX14_depthOf_8 : decode cX14_depthOf 8 = .ok (.iconst 0, 1) := by decide +kernel
theorem dX14_depthOf_9 : decode cX14_depthOf 9 = .ok (.goto 20, 3) := by decide +kernel
theorem dX14_depthOf_12 : decode cX14_depthOf 12 = .ok (.aload_n 0, 1) := by decide +kernel
theorem dX14_depthOf_13 : decode cX14_depthOf 13 = .ok (.iload_n 1, 1) := by decide +kernel
theorem dX14_depthOf_14 : decode cX14_depthOf 14 = .ok (.invokevirtual 93, 3) := by decide +kernel
theorem dX14_depthOf_17 : decode cX14_depthOf 17 = .ok (.ifCond .eq 11, 3) := by decide +kernel
theorem dX14_depthOf_20 : decode cX14_depthOf 20 = .ok (.aload_n 0, 1) := by decide +kernel
theorem dX14_depthOf_21 : decode cX14_depthOf 21 = .ok (.iload_n 1, 1) := by decide +kernel
theorem dX14_depthOf_22 : decode cX14_depthOf 22 = .ok (.invokevirtual 125, 3) := by decide +kernel
theorem dX14_depthOf_25 : decode cX14_depthOf 25 = .ok (.goto 4, 3) := by decide +kernel
theorem dX14_depthOf_28 : decode cX14_depthOf 28 = .ok (.iconst (-1), 1) := by decide +kernel
theorem dX14_depthOf_29 : decode cX14_depthOf 29 = .ok (.ireturn, 1) := by decide +kernel
set_option maxRecDepth 100000 in
set_option maxHeartbeats 4000000 in
theorem m_depthOf (l : Launch) (D : va_G) (cy : Nat → ClassId) {eda ca : Nat} {ia : Nat → Nat} {σ : SG} {K : KM} {g : GH} {n S hw : Nat} (h : Inv eda ia K g n S hw σ) (x : Int32) (sz : Nat) : sgM l D cy eda ca ia σ sz yX14_depthOf (Cond.code yX14_depthOf cX14_depthOf 2 (some .int) :: mWall) 4 87 0 0 [.ref (kA K), .int x] (fun v σ2 => (∃ y : Int32, v = some (.int y)) ∧ Inv eda ia K g n S hw σ2) := by
  refine sg_ofW (cc := cX14_depthOf) (maxL := 2) (ret := (some .int)) (by decide) rfl (Nat.le_of_ble_eq_true rfl) (lv := [(0, .ref (kA K)), (1, .int x)]) rfl (fun p e s m below meth c ls H N hrt hnm F hB hl => ?_) sz
  have hx := F.1.1
  have hb := F.1.2.1
  have hown := F.1.2.2.2.1
  obtain ⟨m0, m1, m2, m3, m4, m5, m6, m7, ⟨d1, d2⟩, ⟨r1, r2⟩, ⟨y1, y2⟩, ⟨e1, e2⟩, ⟨g1, g2⟩, ⟨p1, p2⟩, ⟨h1, h2⟩, ⟨ev, n9, n10, n11⟩, n12⟩ := inv_Mr h
  refine lv_aload_n hx hb dX14_depthOf_0 rfl (lv_at hl 0 rfl) ?_
  refine lv_iload_n hx hb dX14_depthOf_1 rfl (lv_at hl 1 rfl) ?_
  refine sg_callV (ci := 19) F hB (m_noDevice l D cy h x _) (cwV 1 F.1.2.2.2.2 (mgV (mm_4 _ (List.mem_of_getElem? (i := 17) rfl)) (mm_4 _ (List.mem_of_getElem? (i := 18) rfl)) (mm_4 _ (List.mem_of_getElem? (i := 19) rfl)) (mm_3 _ (List.mem_of_getElem? (i := 23) rfl)) (mm_3 _ (List.mem_of_getElem? (i := 24) rfl))) rfl rfl rfl ⟨rfl, by decide, by decide, by decide +kernel⟩ ⟨Nat.le_of_ble_eq_true rfl, Nat.le_of_ble_eq_true rfl⟩) rfl rfl (by decide) rfl hl.1 rfl (Nat.le_of_ble_eq_true rfl) dX14_depthOf_2 (Nat.le_of_ble_eq_true rfl) (Nat.add_le_add_right (Nat.le_of_ble_eq_true rfl) _) (by assumption) (fun H locs v σ2 N hBn hX2 hP => ?_)
  clear hB; have hB := hBn; clear hBn
  obtain ⟨y, b, rfl, rfl, hb9⟩ := hP
  have h2 := inv_th h y
  refine lv_if_eq (tgt := 12) hx hb dX14_depthOf_5 (by decide) (fun c5 => ?_) (fun c5 => ?_)
  · have hx5 := Classical.not_not.mp (sgb_f hb9 c5)
    refine lv_aload_n hx hb dX14_depthOf_12 rfl (lv_at hl 0 rfl) ?_
    refine lv_iload_n hx hb dX14_depthOf_13 rfl (lv_at hl 1 rfl) ?_
    refine sg_callV (ci := 19) F hB (m_isPlugged l D cy h2 x hx5.1 hx5.2 _) (cwV 1 F.1.2.2.2.2 (mgV (mm_4 _ (List.mem_of_getElem? (i := 20) rfl)) (mm_4 _ (List.mem_of_getElem? (i := 21) rfl)) (mm_4 _ (List.mem_of_getElem? (i := 22) rfl)) (mm_3 _ (List.mem_of_getElem? (i := 23) rfl)) (mm_4 _ (List.mem_of_getElem? (i := 6) rfl))) rfl rfl rfl ⟨rfl, by decide, by decide, by decide +kernel⟩ ⟨Nat.le_of_ble_eq_true rfl, Nat.le_of_ble_eq_true rfl⟩) rfl rfl (by decide) rfl hl.1 rfl (Nat.le_of_ble_eq_true rfl) dX14_depthOf_14 (Nat.le_of_ble_eq_true rfl) (Nat.add_le_add_right (Nat.le_of_ble_eq_true rfl) _) (by assumption) (fun H locs v σ14 N hBn hX14 hP => ?_)
    clear hB; have hB := hBn; clear hBn
    obtain ⟨b3, rfl, rfl, hb3⟩ := hP
    refine lv_if_eq (tgt := 28) hx hb dX14_depthOf_17 (by decide) (fun c17 => ?_) (fun c17 => ?_)
    · refine lv_iconst (v := (-1)) hx hb dX14_depthOf_28 (by decide) ?_
      exact sg_iret F hB hrt dX14_depthOf_29 (by decide) (by decide) (⟨⟨_, rfl⟩, h2⟩)
    · refine lv_aload_n hx hb dX14_depthOf_20 rfl (lv_at hl 0 rfl) ?_
      refine lv_iload_n hx hb dX14_depthOf_21 rfl (lv_at hl 1 rfl) ?_
      refine sg_callV (ci := 19) F hB (m_depth l D cy h2 x hx5.1 hx5.2 _) (cwV 1 F.1.2.2.2.2 (mgV (mm_5 _ (List.mem_of_getElem? (i := 15) rfl)) (mm_5 _ (List.mem_of_getElem? (i := 16) rfl)) (mm_5 _ (List.mem_of_getElem? (i := 17) rfl)) (mm_3 _ (List.mem_of_getElem? (i := 23) rfl)) (mm_4 _ (List.mem_of_getElem? (i := 1) rfl))) rfl rfl rfl ⟨rfl, by decide, by decide, by decide +kernel⟩ ⟨Nat.le_of_ble_eq_true rfl, Nat.le_of_ble_eq_true rfl⟩) rfl rfl (by decide) rfl hl.1 rfl (Nat.le_of_ble_eq_true rfl) dX14_depthOf_22 (Nat.le_of_ble_eq_true rfl) (Nat.add_le_add_right (Nat.le_of_ble_eq_true rfl) _) (by assumption) (fun H locs v σ22 N hBn hX22 hP => ?_)
      clear hB; have hB := hBn; clear hBn
      obtain ⟨⟨y3, rfl⟩, rfl⟩ := hP
      refine lv_goto (tgt := 29) hx hb dX14_depthOf_25 (by decide) ?_
      exact sg_iret F hB hrt dX14_depthOf_29 (by decide) (by decide) (⟨⟨_, rfl⟩, h2⟩)
  · refine lv_iconst (v := 0) hx hb dX14_depthOf_8 (by decide) ?_
    refine lv_goto (tgt := 29) hx hb dX14_depthOf_9 (by decide) ?_
    exact sg_iret F hB hrt dX14_depthOf_29 (by decide) (by decide) (⟨⟨_, rfl⟩, h2⟩)
theorem dX14_speedOf_0 : decode cX14_speedOf 0 = .ok (.aload_n 0, 1) := by decide +kernel
theorem dX14_speedOf_1 : decode cX14_speedOf 1 = .ok (.iload_n 1, 1) := by decide +kernel
theorem dX14_speedOf_2 : decode cX14_speedOf 2 = .ok (.invokevirtual 90, 3) := by decide +kernel
theorem dX14_speedOf_5 : decode cX14_speedOf 5 = .ok (.ifCond .eq 8, 3) := by decide +kernel
theorem dX14_speedOf_8 : decode cX14_speedOf 8 = .ok (.bipush 32, 2) := by decide +kernel
theorem dX14_speedOf_10 : decode cX14_speedOf 10 = .ok (.goto 8, 3) := by decide +kernel
theorem dX14_speedOf_13 : decode cX14_speedOf 13 = .ok (.aload_n 0, 1) := by decide +kernel
theorem dX14_speedOf_14 : decode cX14_speedOf 14 = .ok (.iload_n 1, 1) := by decide +kernel
theorem dX14_speedOf_15 : decode cX14_speedOf 15 = .ok (.invokevirtual 86, 3) := by decide +kernel
theorem dX14_speedOf_18 : decode cX14_speedOf 18 = .ok (.ireturn, 1) := by decide +kernel
set_option maxRecDepth 100000 in
set_option maxHeartbeats 4000000 in
theorem m_speedOf (l : Launch) (D : va_G) (cy : Nat → ClassId) {eda ca : Nat} {ia : Nat → Nat} {σ : SG} {K : KM} {g : GH} {n S hw : Nat} (h : Inv eda ia K g n S hw σ) (x : Int32) (sz : Nat) : sgM l D cy eda ca ia σ sz yX14_speedOf (Cond.code yX14_speedOf cX14_speedOf 2 (some .char) :: mWall) 4 88 0 0 [.ref (kA K), .int x] (fun v σ2 => (∃ y : Int32, v = some (.int y)) ∧ Inv eda ia K g n S hw σ2) := by
  refine sg_ofW (cc := cX14_speedOf) (maxL := 2) (ret := (some .char)) (by decide) rfl (Nat.le_of_ble_eq_true rfl) (lv := [(0, .ref (kA K)), (1, .int x)]) rfl (fun p e s m below meth c ls H N hrt hnm F hB hl => ?_) sz
  have hx := F.1.1
  have hb := F.1.2.1
  have hown := F.1.2.2.2.1
  obtain ⟨m0, m1, m2, m3, m4, m5, m6, m7, ⟨d1, d2⟩, ⟨r1, r2⟩, ⟨y1, y2⟩, ⟨e1, e2⟩, ⟨g1, g2⟩, ⟨p1, p2⟩, ⟨h1, h2⟩, ⟨ev, n9, n10, n11⟩, n12⟩ := inv_Mr h
  refine lv_aload_n hx hb dX14_speedOf_0 rfl (lv_at hl 0 rfl) ?_
  refine lv_iload_n hx hb dX14_speedOf_1 rfl (lv_at hl 1 rfl) ?_
  refine sg_callV (ci := 19) F hB (m_noDevice l D cy h x _) (cwV 1 F.1.2.2.2.2 (mgV (mm_4 _ (List.mem_of_getElem? (i := 17) rfl)) (mm_4 _ (List.mem_of_getElem? (i := 18) rfl)) (mm_4 _ (List.mem_of_getElem? (i := 19) rfl)) (mm_3 _ (List.mem_of_getElem? (i := 23) rfl)) (mm_3 _ (List.mem_of_getElem? (i := 24) rfl))) rfl rfl rfl ⟨rfl, by decide, by decide, by decide +kernel⟩ ⟨Nat.le_of_ble_eq_true rfl, Nat.le_of_ble_eq_true rfl⟩) rfl rfl (by decide) rfl hl.1 rfl (Nat.le_of_ble_eq_true rfl) dX14_speedOf_2 (Nat.le_of_ble_eq_true rfl) (Nat.add_le_add_right (Nat.le_of_ble_eq_true rfl) _) (by assumption) (fun H locs v σ2 N hBn hX2 hP => ?_)
  clear hB; have hB := hBn; clear hBn
  obtain ⟨y, b, rfl, rfl, hb9⟩ := hP
  have h2 := inv_th h y
  refine lv_if_eq (tgt := 13) hx hb dX14_speedOf_5 (by decide) (fun c5 => ?_) (fun c5 => ?_)
  · have hx5 := Classical.not_not.mp (sgb_f hb9 c5)
    refine lv_aload_n hx hb dX14_speedOf_13 rfl (lv_at hl 0 rfl) ?_
    refine lv_iload_n hx hb dX14_speedOf_14 rfl (lv_at hl 1 rfl) ?_
    refine sg_callV (ci := 19) F hB (m_runs l D cy h2 x hx5.1 hx5.2 _) (cwV 1 F.1.2.2.2.2 (mgV (mm_4 _ (List.mem_of_getElem? (i := 9) rfl)) (mm_4 _ (List.mem_of_getElem? (i := 10) rfl)) (mm_4 _ (List.mem_of_getElem? (i := 11) rfl)) (mm_3 _ (List.mem_of_getElem? (i := 23) rfl)) (mm_4 _ (List.mem_of_getElem? (i := 8) rfl))) rfl rfl rfl ⟨rfl, by decide, by decide, by decide +kernel⟩ ⟨Nat.le_of_ble_eq_true rfl, Nat.le_of_ble_eq_true rfl⟩) rfl rfl (by decide) rfl hl.1 rfl (Nat.le_of_ble_eq_true rfl) dX14_speedOf_15 (Nat.le_of_ble_eq_true rfl) (Nat.add_le_add_right (Nat.le_of_ble_eq_true rfl) _) (by assumption) (fun H locs v σ15 N hBn hX15 hP => ?_)
    clear hB; have hB := hBn; clear hBn
    obtain ⟨y3, rfl, rfl, hy3, -⟩ := hP
    exact sg_zret F hB hrt dX14_speedOf_18 (by decide) (by decide) (by first | rfl | exact sg_nfl hy3) (⟨⟨_, rfl⟩, h2⟩)
  · refine lv_bipush (v := 32) hx hb dX14_speedOf_8 (by decide) ?_
    refine lv_goto (tgt := 18) hx hb dX14_speedOf_10 (by decide) ?_
    exact sg_zret F hB hrt dX14_speedOf_18 (by decide) (by decide) (by first | rfl | exact sg_nfl hy3) (⟨⟨_, rfl⟩, h2⟩)
theorem dX14_translator_0 : decode cX14_translator 0 = .ok (.aload_n 0, 1) := by decide +kernel
theorem dX14_translator_1 : decode cX14_translator 1 = .ok (.iload_n 1, 1) := by decide +kernel
theorem dX14_translator_2 : decode cX14_translator 2 = .ok (.invokevirtual 90, 3) := by decide +kernel
theorem dX14_translator_5 : decode cX14_translator 5 = .ok (.ifCond .eq 5, 3) := by decide +kernel
theorem dX14_translator_8 : decode cX14_translator 8 = .ok (.iconst 0, 1) := by decide +kernel
theorem dX14_translator_9 : decode cX14_translator 9 = .ok (.ireturn, 1) := by decide +kernel
theorem dX14_translator_10 : decode cX14_translator 10 = .ok (.aload_n 0, 1) := by decide +kernel
theorem dX14_translator_11 : decode cX14_translator 11 = .ok (.iload_n 1, 1) := by decide +kernel
theorem dX14_translator_12 : decode cX14_translator 12 = .ok (.ifCond .eq 11, 3) := by decide +kernel
theorem dX14_translator_15 : decode cX14_translator 15 = .ok (.aload_n 0, 1) := by decide +kernel
theorem dX14_translator_16 : decode cX14_translator 16 = .ok (.iload_n 1, 1) := by decide +kernel
theorem dX14_translator_17 : decode cX14_translator 17 = .ok (.invokevirtual 93, 3) := by decide +kernel
theorem dX14_translator_20 : decode cX14_translator 20 = .ok (.ifCond .ne 7, 3) := by decide +kernel
theorem dX14_translator_23 : decode cX14_translator 23 = .ok (.iconst 2, 1) := by decide +kernel
theorem dX14_translator_24 : decode cX14_translator 24 = .ok (.goto 4, 3) := by decide +kernel
theorem dX14_translator_27 : decode cX14_translator 27 = .ok (.iconst 0, 1) := by decide +kernel
theorem dX14_translator_28 : decode cX14_translator 28 = .ok (.putfield 61, 3) := by decide +kernel
theorem dX14_translator_31 : decode cX14_translator 31 = .ok (.aload_n 0, 1) := by decide +kernel
theorem dX14_translator_32 : decode cX14_translator 32 = .ok (.getfield 61, 3) := by decide +kernel
theorem dX14_translator_35 : decode cX14_translator 35 = .ok (.ifCond .le 7, 3) := by decide +kernel
theorem dX14_translator_38 : decode cX14_translator 38 = .ok (.iconst 0, 1) := by decide +kernel
theorem dX14_translator_39 : decode cX14_translator 39 = .ok (.goto 8, 3) := by decide +kernel
theorem dX14_translator_42 : decode cX14_translator 42 = .ok (.aload_n 0, 1) := by decide +kernel
theorem dX14_translator_43 : decode cX14_translator 43 = .ok (.iload_n 1, 1) := by decide +kernel
theorem dX14_translator_44 : decode cX14_translator 44 = .ok (.invokevirtual 156, 3) := by decide +kernel
theorem dX14_translator_47 : decode cX14_translator 47 = .ok (.ireturn, 1) := by decide +kernel
set_option maxRecDepth 100000 in
set_option maxHeartbeats 4000000 in
theorem m_translator (l : Launch) (D : va_G) (cy : Nat → ClassId) {eda ca : Nat} {ia : Nat → Nat} {σ : SG} {K : KM} {g : GH} {n S hw : Nat} (h : Inv eda ia K g n S hw σ) (hY : nY g) (x : Int32) (sz : Nat) : sgM l D cy eda ca ia σ sz yX14_translator (Cond.code yX14_translator cX14_translator 2 (some .int) :: mWall) 5 110 0 0 [.ref (kA K), .int x] (fun v σ2 => (∃ y : Int32, v = some (.int y)) ∧ Inv eda ia K g n S hw σ2) := by
  refine sg_ofW (cc := cX14_translator) (maxL := 2) (ret := (some .int)) (by decide) rfl (Nat.le_of_ble_eq_true rfl) (lv := [(0, .ref (kA K)), (1, .int x)]) rfl (fun p e s m below meth c ls H N hrt hnm F hB hl => ?_) sz
  have hx := F.1.1
  have hb := F.1.2.1
  have hown := F.1.2.2.2.1
  obtain ⟨m0, m1, m2, m3, m4, m5, m6, m7, ⟨d1, d2⟩, ⟨r1, r2⟩, ⟨y1, y2⟩, ⟨e1, e2⟩, ⟨g1, g2⟩, ⟨p1, p2⟩, ⟨h1, h2⟩, ⟨ev, n9, n10, n11⟩, n12⟩ := inv_Mr h
  refine lv_aload_n hx hb dX14_translator_0 rfl (lv_at hl 0 rfl) ?_
  refine lv_iload_n hx hb dX14_translator_1 rfl (lv_at hl 1 rfl) ?_
  refine sg_callV (ci := 19) F hB (m_noDevice l D cy h x _) (cwV 1 F.1.2.2.2.2 (mgV (mm_4 _ (List.mem_of_getElem? (i := 17) rfl)) (mm_4 _ (List.mem_of_getElem? (i := 18) rfl)) (mm_4 _ (List.mem_of_getElem? (i := 19) rfl)) (mm_3 _ (List.mem_of_getElem? (i := 23) rfl)) (mm_3 _ (List.mem_of_getElem? (i := 24) rfl))) rfl rfl rfl ⟨rfl, by decide, by decide, by decide +kernel⟩ ⟨Nat.le_of_ble_eq_true rfl, Nat.le_of_ble_eq_true rfl⟩) rfl rfl (by decide) rfl hl.1 rfl (Nat.le_of_ble_eq_true rfl) dX14_translator_2 (Nat.le_of_ble_eq_true rfl) (Nat.add_le_add_right (Nat.le_of_ble_eq_true rfl) _) (by assumption) (fun H locs v σ2 N hBn hX2 hP => ?_)
  clear hB; have hB := hBn; clear hBn
  obtain ⟨y, b, rfl, rfl, hb9⟩ := hP
  have h2 := inv_th h y
  refine lv_if_eq (tgt := 10) hx hb dX14_translator_5 (by decide) (fun c5 => ?_) (fun c5 => ?_)
  · have hx5 := Classical.not_not.mp (sgb_f hb9 c5)
    refine lv_aload_n hx hb dX14_translator_10 rfl (lv_at hl 0 rfl) ?_
    refine lv_iload_n hx hb dX14_translator_11 rfl (lv_at hl 1 rfl) ?_
    refine lv_if_eq (tgt := 23) hx hb dX14_translator_12 (by decide) (fun c12 => ?_) (fun c12 => ?_)
    · refine lv_iconst (v := 2) hx hb dX14_translator_23 (by decide) ?_
      refine lv_goto (tgt := 28) hx hb dX14_translator_24 (by decide) ?_
      refine pf_X14_61 F hB dX14_translator_28 (by assumption) (fun H locs hBn => ?_)
      clear hB; have hB := hBn; clear hBn
      refine lv_aload_n hx hb dX14_translator_31 rfl (lv_at hl 0 rfl) ?_
      refine gf_X14_61 F hB dX14_translator_32 (by assumption) ?_
      rw [sgI_PI, if_pos ⟨rfl, rfl⟩]
      refine lv_if_le (tgt := 42) hx hb dX14_translator_35 (by decide) (fun c35 => (by first | exact absurd c35 (by decide) | exact (c35 (by decide)).elim)) (fun c35 => ?_)
      refine lv_iconst (v := 0) hx hb dX14_translator_38 (by decide) ?_
      refine lv_goto (tgt := 47) hx hb dX14_translator_39 (by decide) ?_
      exact sg_iret F hB hrt dX14_translator_47 (by decide) (by decide) (by first | exact ⟨⟨_, rfl⟩, h3⟩ | exact ⟨⟨_, rfl⟩, inv_th h2 _⟩ | exact ⟨⟨_, rfl⟩, h2⟩)
    · refine lv_aload_n hx hb dX14_translator_15 rfl (lv_at hl 0 rfl) ?_
      refine lv_iload_n hx hb dX14_translator_16 rfl (lv_at hl 1 rfl) ?_
      refine sg_callV (ci := 19) F hB (m_isPlugged l D cy h2 x hx5.1 hx5.2 _) (cwV 1 F.1.2.2.2.2 (mgV (mm_4 _ (List.mem_of_getElem? (i := 20) rfl)) (mm_4 _ (List.mem_of_getElem? (i := 21) rfl)) (mm_4 _ (List.mem_of_getElem? (i := 22) rfl)) (mm_3 _ (List.mem_of_getElem? (i := 23) rfl)) (mm_4 _ (List.mem_of_getElem? (i := 6) rfl))) rfl rfl rfl ⟨rfl, by decide, by decide, by decide +kernel⟩ ⟨Nat.le_of_ble_eq_true rfl, Nat.le_of_ble_eq_true rfl⟩) rfl rfl (by decide) rfl hl.1 rfl (Nat.le_of_ble_eq_true rfl) dX14_translator_17 (Nat.le_of_ble_eq_true rfl) (Nat.add_le_add_right (Nat.le_of_ble_eq_true rfl) _) (by assumption) (fun H locs v σ17 N hBn hX17 hP => ?_)
      clear hB; have hB := hBn; clear hBn
      obtain ⟨b3, rfl, rfl, hb3⟩ := hP
      refine lv_if_ne (tgt := 27) hx hb dX14_translator_20 (by decide) (fun c20 => ?_) (fun c20 => ?_)
      · refine lv_iconst (v := 0) hx hb dX14_translator_27 (by decide) ?_
        refine pf_X14_61 F hB dX14_translator_28 (by assumption) (fun H locs hBn => ?_)
        clear hB; have hB := hBn; clear hBn
        refine lv_aload_n hx hb dX14_translator_31 rfl (lv_at hl 0 rfl) ?_
        refine gf_X14_61 F hB dX14_translator_32 (by assumption) ?_
        rw [sgI_PI, if_pos ⟨rfl, rfl⟩]
        refine lv_if_le (tgt := 42) hx hb dX14_translator_35 (by decide) (fun c35 => ?_) (fun c35 => (by first | exact absurd c35 (by decide) | exact (c35 (by decide)).elim))
        have h3 := inv_th h2 0
        have hx6 : 1 ≤ x.toInt := by
            have := m_neI c12; have e0 : (0 : Int32).toInt = 0 := rfl; omega
        refine lv_aload_n hx hb dX14_translator_42 rfl (lv_at hl 0 rfl) ?_
        refine lv_iload_n hx hb dX14_translator_43 rfl (lv_at hl 1 rfl) ?_
        refine sg_callV (ci := 19) F hB (m_translatorOf l D cy h3 hY x hx6 hx5.2 (by rw [iSt_th]; exact sgb_t hb3 c20) _) (cwV 1 F.1.2.2.2.2 (mgV (mm_6 _ (List.mem_of_getElem? (i := 17) rfl)) (mm_6 _ (List.mem_of_getElem? (i := 18) rfl)) (mm_6 _ (List.mem_of_getElem? (i := 19) rfl)) (mm_3 _ (List.mem_of_getElem? (i := 23) rfl)) (mm_4 _ (List.mem_of_getElem? (i := 12) rfl))) rfl rfl rfl ⟨rfl, by decide, by decide, by decide +kernel⟩ ⟨Nat.le_of_ble_eq_true rfl, Nat.le_of_ble_eq_true rfl⟩) rfl rfl (by decide) rfl hl.1 rfl (Nat.le_of_ble_eq_true rfl) dX14_translator_44 (Nat.le_of_ble_eq_true rfl) (Nat.add_le_add_right (Nat.le_of_ble_eq_true rfl) _) (by assumption) (fun H locs v σ44 N hBn hX44 hP => ?_)
        clear hB; have hB := hBn; clear hBn
        obtain ⟨y3, rfl, rfl, -⟩ := hP
        exact sg_iret F hB hrt dX14_translator_47 (by decide) (by decide) (by first | exact ⟨⟨_, rfl⟩, h3⟩ | exact ⟨⟨_, rfl⟩, inv_th h2 _⟩ | exact ⟨⟨_, rfl⟩, h2⟩)
      · refine lv_iconst (v := 2) hx hb dX14_translator_23 (by decide) ?_
        refine lv_goto (tgt := 28) hx hb dX14_translator_24 (by decide) ?_
        refine pf_X14_61 F hB dX14_translator_28 (by assumption) (fun H locs hBn => ?_)
        clear hB; have hB := hBn; clear hBn
        refine lv_aload_n hx hb dX14_translator_31 rfl (lv_at hl 0 rfl) ?_
        refine gf_X14_61 F hB dX14_translator_32 (by assumption) ?_
        rw [sgI_PI, if_pos ⟨rfl, rfl⟩]
        refine lv_if_le (tgt := 42) hx hb dX14_translator_35 (by decide) (fun c35 => (by first | exact absurd c35 (by decide) | exact (c35 (by decide)).elim)) (fun c35 => ?_)
        refine lv_iconst (v := 0) hx hb dX14_translator_38 (by decide) ?_
        refine lv_goto (tgt := 47) hx hb dX14_translator_39 (by decide) ?_
        exact sg_iret F hB hrt dX14_translator_47 (by decide) (by decide) (by first | exact ⟨⟨_, rfl⟩, h3⟩ | exact ⟨⟨_, rfl⟩, inv_th h2 _⟩ | exact ⟨⟨_, rfl⟩, h2⟩)
  · refine lv_iconst (v := 0) hx hb dX14_translator_8 (by decide) ?_
    exact sg_iret F hB hrt dX14_translator_9 (by decide) (by decide) (by first | exact ⟨⟨_, rfl⟩, h3⟩ | exact ⟨⟨_, rfl⟩, inv_th h2 _⟩ | exact ⟨⟨_, rfl⟩, h2⟩)
theorem dX14_given_0 : decode cX14_given 0 = .ok (.aload_n 0, 1) := by decide +kernel
theorem dX14_given_1 : decode cX14_given 1 = .ok (.getfield 10, 3) := by decide +kernel
theorem dX14_given_4 : decode cX14_given 4 = .ok (.aload_n 1, 1) := by decide +kernel
theorem dX14_given_5 : decode cX14_given 5 = .ok (.getfield 80, 3) := by decide +kernel
theorem dX14_given_8 : decode cX14_given 8 = .ok (.invokevirtual 76, 3) := by decide +kernel
theorem dX14_given_11 : decode cX14_given 11 = .ok (.checkcast 48, 3) := by decide +kernel
theorem dX14_given_14 : decode cX14_given 14 = .ok (.getfield 159, 3) := by decide +kernel
theorem dX14_given_17 : decode cX14_given 17 = .ok (.ifCond .eq 7, 3) := by decide +kernel
theorem dX14_given_20 : decode cX14_given 20 = .ok (.iconst 5, 1) := by decide +kernel
theorem dX14_given_21 : decode cX14_given 21 = .ok (.goto 4, 3) := by decide +kernel
theorem dX14_given_24 : decode cX14_given 24 = .ok (.iconst 1, 1) := by decide +kernel
theorem dX14_given_25 : decode cX14_given 25 = .ok (.ireturn, 1) := by decide +kernel
set_option maxRecDepth 100000 in
set_option maxHeartbeats 4000000 in
theorem m_given (l : Launch) (D : va_G) (cy : Nat → ClassId) {eda ca : Nat} {ia : Nat → Nat} {σ : SG} {K : KM} {g : GH} {n S hw : Nat} (h : Inv eda ia K g n S hw σ) {d : Nat} (hd : sgT σ d = 16) (hh1 : 0 ≤ (sgI σ d 7).toInt) (hh2 : (sgI σ d 7).toInt < n) (sz : Nat) : sgM l D cy eda ca ia σ sz yX14_given (Cond.code yX14_given cX14_given 2 (some .int) :: mWall) 3 64 0 0 [.ref (kA K), .ref d] (fun v σ2 => (∃ y : Int32, v = some (.int y)) ∧ σ = σ2) := by
  refine sg_ofW (cc := cX14_given) (maxL := 2) (ret := (some .int)) (by decide) rfl (Nat.le_of_ble_eq_true rfl) (lv := [(0, .ref (kA K)), (1, .ref d)]) rfl (fun p e s m below meth c ls H N hrt hnm F hB hl => ?_) sz
  have hx := F.1.1
  have hb := F.1.2.1
  have hown := F.1.2.2.2.1
  obtain ⟨m0, m1, m2, m3, m4, m5, m6, m7, ⟨d1, d2⟩, ⟨r1, r2⟩, ⟨y1, y2⟩, ⟨e1, e2⟩, ⟨g1, g2⟩, ⟨p1, p2⟩, ⟨h1, h2⟩, ⟨ev, n9, n10, n11⟩, n12⟩ := inv_Mr h
  obtain ⟨z1, z2, z3⟩ := inv_sz h
  refine lv_aload_n hx hb dX14_given_0 rfl (lv_at hl 0 rfl) ?_
  refine gr_X14_10 F hB dX14_given_1 (by assumption) m1 ?_
  refine lv_aload_n hx hb dX14_given_4 rfl (lv_at hl 1 rfl) ?_
  refine gf_X14_80 F hB dX14_given_5 (by assumption) ?_
  refine sg_callV (ci := 4) F hB (m_getD l D cy h (sgI σ d 7) (by omega) (by omega) _) (cwV 1 F.1.2.2.2.2 (mgV (mm_4 _ (List.mem_of_getElem? (i := 3) rfl)) (mm_4 _ (List.mem_of_getElem? (i := 4) rfl)) (mm_4 _ (List.mem_of_getElem? (i := 5) rfl)) (mm_0 _ (List.mem_of_getElem? (i := 35) rfl)) (mm_3 _ (List.mem_of_getElem? (i := 34) rfl))) rfl rfl rfl ⟨rfl, by decide, by decide, by decide +kernel⟩ ⟨Nat.le_of_ble_eq_true rfl, Nat.le_of_ble_eq_true rfl⟩) rfl rfl (by decide) rfl hl.1 rfl (Nat.le_of_ble_eq_true rfl) dX14_given_8 (Nat.le_of_ble_eq_true rfl) (Nat.add_le_add_right (Nat.le_of_ble_eq_true rfl) _) (by assumption) (fun H locs v σ8 N hBn hX8 hP => ?_)
  clear hB; have hB := hBn; clear hBn
  obtain ⟨rfl, rfl⟩ := hP
  have dv8 := (inv_dv h (k := ((sgI σ d 7) : Int32).toInt.toNat) (by omega)).2.1
  refine va_castY hx hb hown (F.1.2.2.2.2 _ (List.mem_cons_of_mem _ (mm_4 _ (List.mem_of_getElem? (i := 2) rfl)))) (F.2.2.1.2.2 ("HubcascadeModel$Device", "HubcascadeModel$Device") (by decide +kernel)) (sg_recv (ci := 15) F.2.1 hB (by assumption) (by decide) rfl) dX14_given_11 ?_
  refine gf_X14_159 F hB dX14_given_14 (by assumption) ?_
  refine lv_if_eq (tgt := 24) hx hb dX14_given_17 (by decide) (fun c17 => ?_) (fun c17 => ?_)
  · refine lv_iconst (v := 1) hx hb dX14_given_24 (by decide) ?_
    exact sg_iret F hB hrt dX14_given_25 (by decide) (by decide) (⟨⟨_, rfl⟩, rfl⟩)
  · refine lv_iconst (v := 5) hx hb dX14_given_20 (by decide) ?_
    refine lv_goto (tgt := 25) hx hb dX14_given_21 (by decide) ?_
    exact sg_iret F hB hrt dX14_given_25 (by decide) (by decide) (⟨⟨_, rfl⟩, rfl⟩)
theorem dX14_hostCost_0 : decode cX14_hostCost 0 = .ok (.iconst 2, 1) := by decide +kernel
theorem dX14_hostCost_1 : decode cX14_hostCost 1 = .ok (.iload_n 0, 1) := by decide +kernel
theorem dX14_hostCost_2 : decode cX14_hostCost 2 = .ok (.iadd, 1) := by decide +kernel
theorem dX14_hostCost_3 : decode cX14_hostCost 3 = .ok (.ireturn, 1) := by decide +kernel
set_option maxRecDepth 100000 in
set_option maxHeartbeats 4000000 in
theorem m_hostCost (l : Launch) (D : va_G) (cy : Nat → ClassId) {eda ca : Nat} {ia : Nat → Nat} {σ : SG} (x : Int32) (sz : Nat) : sgM l D cy eda ca ia σ sz yX14_hostCost (Cond.code yX14_hostCost cX14_hostCost 1 (some .int) :: mWall) 0 0 0 0 [.int x] (fun v σ2 => v = some (.int (2 + x)) ∧ σ = σ2) := by
  refine sg_ofW (cc := cX14_hostCost) (maxL := 1) (ret := (some .int)) (by decide) rfl (Nat.le_of_ble_eq_true rfl) (lv := [(0, .int x)]) rfl (fun p e s m below meth c ls H N hrt hnm F hB hl => ?_) sz
  have hx := F.1.1
  have hb := F.1.2.1
  have hown := F.1.2.2.2.1
  refine lv_iconst (v := 2) hx hb dX14_hostCost_0 (by decide) ?_
  refine lv_iload_n hx hb dX14_hostCost_1 rfl (lv_at hl 0 rfl) ?_
  refine lv_iadd hx hb dX14_hostCost_2 ?_
  exact sg_iret F hB hrt dX14_hostCost_3 (by decide) (by decide) (⟨rfl, rfl⟩)
theorem dX14_hubCost_0 : decode cX14_hubCost 0 = .ok (.aload_n 0, 1) := by decide +kernel
theorem dX14_hubCost_1 : decode cX14_hubCost 1 = .ok (.iload_n 1, 1) := by decide +kernel
theorem dX14_hubCost_2 : decode cX14_hubCost 2 = .ok (.invokevirtual 86, 3) := by decide +kernel
theorem dX14_hubCost_5 : decode cX14_hubCost 5 = .ok (.istore_n 3, 1) := by decide +kernel
theorem dX14_hubCost_6 : decode cX14_hubCost 6 = .ok (.iload_n 3, 1) := by decide +kernel
theorem dX14_hubCost_7 : decode cX14_hubCost 7 = .ok (.bipush 104, 2) := by decide +kernel
theorem dX14_hubCost_9 : decode cX14_hubCost 9 = .ok (.if_icmp .ne 7, 3) := by decide +kernel
theorem dX14_hubCost_12 : decode cX14_hubCost 12 = .ok (.iconst 0, 1) := by decide +kernel
theorem dX14_hubCost_13 : decode cX14_hubCost 13 = .ok (.goto 24, 3) := by decide +kernel
theorem dX14_hubCost_16 : decode cX14_hubCost 16 = .ok (.iload_n 3, 1) := by decide +kernel
theorem dX14_hubCost_17 : decode cX14_hubCost 17 = .ok (.bipush 102, 2) := by decide +kernel
theorem dX14_hubCost_19 : decode cX14_hubCost 19 = .ok (.if_icmp .ne 11, 3) := by decide +kernel
theorem dX14_hubCost_22 : decode cX14_hubCost 22 = .ok (.iconst 4, 1) := by decide +kernel
theorem dX14_hubCost_23 : decode cX14_hubCost 23 = .ok (.iconst 2, 1) := by decide +kernel
theorem dX14_hubCost_24 : decode cX14_hubCost 24 = .ok (.iload_n 2, 1) := by decide +kernel
theorem dX14_hubCost_25 : decode cX14_hubCost 25 = .ok (.imul, 1) := by decide +kernel
theorem dX14_hubCost_26 : decode cX14_hubCost 26 = .ok (.iadd, 1) := by decide +kernel
theorem dX14_hubCost_27 : decode cX14_hubCost 27 = .ok (.goto 10, 3) := by decide +kernel
theorem dX14_hubCost_30 : decode cX14_hubCost 30 = .ok (.bipush 8, 2) := by decide +kernel
theorem dX14_hubCost_32 : decode cX14_hubCost 32 = .ok (.bipush 8, 2) := by decide +kernel
theorem dX14_hubCost_34 : decode cX14_hubCost 34 = .ok (.iload_n 2, 1) := by decide +kernel
theorem dX14_hubCost_35 : decode cX14_hubCost 35 = .ok (.imul, 1) := by decide +kernel
theorem dX14_hubCost_36 : decode cX14_hubCost 36 = .ok (.iadd, 1) := by decide +kernel
theorem dX14_hubCost_37 : decode cX14_hubCost 37 = .ok (.ireturn, 1) := by decide +kernel
set_option maxRecDepth 100000 in
set_option maxHeartbeats 4000000 in
theorem m_hubCost (l : Launch) (D : va_G) (cy : Nat → ClassId) {eda ca : Nat} {ia : Nat → Nat} {σ : SG} {K : KM} {g : GH} {n S hw : Nat} (h : Inv eda ia K g n S hw σ) (x : Int32) (hx1 : 0 ≤ x.toInt) (hx2 : x.toInt < n) (b0 : Int32) (sz : Nat) : sgM l D cy eda ca ia σ sz yX14_hubCost (Cond.code yX14_hubCost cX14_hubCost 4 (some .int) :: mWall) 4 88 0 0 [.ref (kA K), .int x, .int b0] (fun v σ2 => ∃ y : Int32, v = some (.int y) ∧ σ = σ2 ∧ (y = 0 ∨ y = 4 + 2 * b0 ∨ y = 8 + 8 * b0)) := by
  refine sg_ofW (cc := cX14_hubCost) (maxL := 4) (ret := (some .int)) (by decide) rfl (Nat.le_of_ble_eq_true rfl) (lv := [(0, .ref (kA K)), (1, .int x), (2, .int b0)]) rfl (fun p e s m below meth c ls H N hrt hnm F hB hl => ?_) sz
  have hx := F.1.1
  have hb := F.1.2.1
  have hown := F.1.2.2.2.1
  obtain ⟨m0, m1, m2, m3, m4, m5, m6, m7, ⟨d1, d2⟩, ⟨r1, r2⟩, ⟨y1, y2⟩, ⟨e1, e2⟩, ⟨g1, g2⟩, ⟨p1, p2⟩, ⟨h1, h2⟩, ⟨ev, n9, n10, n11⟩, n12⟩ := inv_Mr h
  refine lv_aload_n hx hb dX14_hubCost_0 rfl (lv_at hl 0 rfl) ?_
  refine lv_iload_n hx hb dX14_hubCost_1 rfl (lv_at hl 1 rfl) ?_
  refine sg_callV (ci := 19) F hB (m_runs l D cy h x hx1 hx2 _) (cwV 1 F.1.2.2.2.2 (mgV (mm_4 _ (List.mem_of_getElem? (i := 9) rfl)) (mm_4 _ (List.mem_of_getElem? (i := 10) rfl)) (mm_4 _ (List.mem_of_getElem? (i := 11) rfl)) (mm_3 _ (List.mem_of_getElem? (i := 23) rfl)) (mm_4 _ (List.mem_of_getElem? (i := 8) rfl))) rfl rfl rfl ⟨rfl, by decide, by decide, by decide +kernel⟩ ⟨Nat.le_of_ble_eq_true rfl, Nat.le_of_ble_eq_true rfl⟩) rfl rfl (by decide) rfl hl.1 rfl (Nat.le_of_ble_eq_true rfl) dX14_hubCost_2 (Nat.le_of_ble_eq_true rfl) (Nat.add_le_add_right (Nat.le_of_ble_eq_true rfl) _) (by assumption) (fun H locs v σ2 N hBn hX2 hP => ?_)
  clear hB; have hB := hBn; clear hBn
  obtain ⟨y3, rfl, rfl, hy3, -⟩ := hP
  refine lv_istore_n (lv' := [(3, .int _), (0, .ref _), (1, .int _), (2, .int _)]) hx hb dX14_hubCost_5 rfl hl (by decide) rfl (fun ls hl => ?_)
  refine lv_iload_n hx hb dX14_hubCost_6 rfl (lv_at hl 0 rfl) ?_
  refine lv_bipush (v := 104) hx hb dX14_hubCost_7 (by decide) ?_
  refine lv_icmp_ne (tgt := 16) hx hb dX14_hubCost_9 (by decide) (fun c9 => ?_) (fun c9 => ?_)
  · refine lv_iload_n hx hb dX14_hubCost_16 rfl (lv_at hl 0 rfl) ?_
    refine lv_bipush (v := 102) hx hb dX14_hubCost_17 (by decide) ?_
    refine lv_icmp_ne (tgt := 30) hx hb dX14_hubCost_19 (by decide) (fun c19 => ?_) (fun c19 => ?_)
    · refine lv_bipush (v := 8) hx hb dX14_hubCost_30 (by decide) ?_
      refine lv_bipush (v := 8) hx hb dX14_hubCost_32 (by decide) ?_
      refine lv_iload_n hx hb dX14_hubCost_34 rfl (lv_at hl 3 rfl) ?_
      refine lv_imul hx hb dX14_hubCost_35 ?_
      refine lv_iadd hx hb dX14_hubCost_36 ?_
      exact sg_iret F hB hrt dX14_hubCost_37 (by decide) (by decide) (by first | exact ⟨_, rfl, rfl, Or.inl rfl⟩ | exact ⟨_, rfl, rfl, Or.inr (Or.inl rfl)⟩ | exact ⟨_, rfl, rfl, Or.inr (Or.inr rfl)⟩)
    · refine lv_iconst (v := 4) hx hb dX14_hubCost_22 (by decide) ?_
      refine lv_iconst (v := 2) hx hb dX14_hubCost_23 (by decide) ?_
      refine lv_iload_n hx hb dX14_hubCost_24 rfl (lv_at hl 3 rfl) ?_
      refine lv_imul hx hb dX14_hubCost_25 ?_
      refine lv_iadd hx hb dX14_hubCost_26 ?_
      refine lv_goto (tgt := 37) hx hb dX14_hubCost_27 (by decide) ?_
      exact sg_iret F hB hrt dX14_hubCost_37 (by decide) (by decide) (by first | exact ⟨_, rfl, rfl, Or.inl rfl⟩ | exact ⟨_, rfl, rfl, Or.inr (Or.inl rfl)⟩ | exact ⟨_, rfl, rfl, Or.inr (Or.inr rfl)⟩)
  · refine lv_iconst (v := 0) hx hb dX14_hubCost_12 (by decide) ?_
    refine lv_goto (tgt := 37) hx hb dX14_hubCost_13 (by decide) ?_
    exact sg_iret F hB hrt dX14_hubCost_37 (by decide) (by decide) (by first | exact ⟨_, rfl, rfl, Or.inl rfl⟩ | exact ⟨_, rfl, rfl, Or.inr (Or.inl rfl)⟩ | exact ⟨_, rfl, rfl, Or.inr (Or.inr rfl)⟩)
theorem dX14_isEnd_0 : decode cX14_isEnd 0 = .ok (.aload_n 0, 1) := by decide +kernel
theorem dX14_isEnd_1 : decode cX14_isEnd 1 = .ok (.iload_n 1, 1) := by decide +kernel
theorem dX14_isEnd_2 : decode cX14_isEnd 2 = .ok (.invokevirtual 72, 3) := by decide +kernel
theorem dX14_isEnd_5 : decode cX14_isEnd 5 = .ok (.ifCond .eq 35, 3) := by decide +kernel
theorem dX14_isEnd_8 : decode cX14_isEnd 8 = .ok (.iload_n 2, 1) := by decide +kernel
theorem dX14_isEnd_9 : decode cX14_isEnd 9 = .ok (.iconst 1, 1) := by decide +kernel
theorem dX14_isEnd_10 : decode cX14_isEnd 10 = .ok (.iconst 3, 1) := by decide +kernel
theorem dX14_isEnd_11 : decode cX14_isEnd 11 = .ok (.invokestatic 68, 3) := by decide +kernel
theorem dX14_isEnd_14 : decode cX14_isEnd 14 = .ok (.ifCond .eq 26, 3) := by decide +kernel
theorem dX14_isEnd_17 : decode cX14_isEnd 17 = .ok (.aload_n 0, 1) := by decide +kernel
theorem dX14_isEnd_18 : decode cX14_isEnd 18 = .ok (.getfield 10, 3) := by decide +kernel
theorem dX14_isEnd_21 : decode cX14_isEnd 21 = .ok (.iload_n 1, 1) := by decide +kernel
theorem dX14_isEnd_22 : decode cX14_isEnd 22 = .ok (.invokevirtual 76, 3) := by decide +kernel
theorem dX14_isEnd_25 : decode cX14_isEnd 25 = .ok (.checkcast 48, 3) := by decide +kernel
theorem dX14_isEnd_28 : decode cX14_isEnd 28 = .ok (.getfield 96, 3) := by decide +kernel
theorem dX14_isEnd_31 : decode cX14_isEnd 31 = .ok (.iload_n 2, 1) := by decide +kernel
theorem dX14_isEnd_32 : decode cX14_isEnd 32 = .ok (.aaload, 1) := by decide +kernel
theorem dX14_isEnd_33 : decode cX14_isEnd 33 = .ok (.ifnull 7, 3) := by decide +kernel
theorem dX14_isEnd_36 : decode cX14_isEnd 36 = .ok (.iconst 1, 1) := by decide +kernel
theorem dX14_isEnd_37 : decode cX14_isEnd 37 = .ok (.goto 4, 3) := by decide +kernel
theorem dX14_isEnd_40 : decode cX14_isEnd 40 = .ok (.iconst 0, 1) := by decide +kernel
theorem dX14_isEnd_41 : decode cX14_isEnd 41 = .ok (.ireturn, 1) := by decide +kernel
set_option maxRecDepth 100000 in
set_option maxHeartbeats 4000000 in
theorem m_isEnd (l : Launch) (D : va_G) (cy : Nat → ClassId) {eda ca : Nat} {ia : Nat → Nat} {σ : SG} {K : KM} {g : GH} {n S hw : Nat} (h : Inv eda ia K g n S hw σ) (x y : Int32) (sz : Nat) : sgM l D cy eda ca ia σ sz yX14_isEnd (Cond.code yX14_isEnd cX14_isEnd 3 (some .boolean) :: mWall) 3 64 0 0 [.ref (kA K), .int x, .int y] (fun v σ2 => ∃ b : Int32, v = some (.int b) ∧ σ = σ2 ∧ sgb b ((0 ≤ x.toInt ∧ x.toInt < n) ∧ (1 ≤ y.toInt ∧ y.toInt ≤ 3) ∧ ∃ q, iEn g σ x.toInt.toNat y.toInt.toNat = some q)) := by
  refine sg_ofW (cc := cX14_isEnd) (maxL := 3) (ret := (some .boolean)) (by decide) rfl (Nat.le_of_ble_eq_true rfl) (lv := [(0, .ref (kA K)), (1, .int x), (2, .int y)]) rfl (fun p e s m below meth c ls H N hrt hnm F hB hl => ?_) sz
  have hx := F.1.1
  have hb := F.1.2.1
  have hown := F.1.2.2.2.1
  obtain ⟨m0, m1, m2, m3, m4, m5, m6, m7, ⟨d1, d2⟩, ⟨r1, r2⟩, ⟨y1, y2⟩, ⟨e1, e2⟩, ⟨g1, g2⟩, ⟨p1, p2⟩, ⟨h1, h2⟩, ⟨ev, n9, n10, n11⟩, n12⟩ := inv_Mr h
  refine lv_aload_n hx hb dX14_isEnd_0 rfl (lv_at hl 0 rfl) ?_
  refine lv_iload_n hx hb dX14_isEnd_1 rfl (lv_at hl 1 rfl) ?_
  refine sg_callV (ci := 19) F hB (m_isDevice l D cy h x _) (cwV 1 F.1.2.2.2.2 (mgV (mm_3 _ (List.mem_of_getElem? (i := 25) rfl)) (mm_3 _ (List.mem_of_getElem? (i := 26) rfl)) (mm_3 _ (List.mem_of_getElem? (i := 27) rfl)) (mm_3 _ (List.mem_of_getElem? (i := 23) rfl)) (mm_3 _ (List.mem_of_getElem? (i := 17) rfl))) rfl rfl rfl ⟨rfl, by decide, by decide, by decide +kernel⟩ ⟨Nat.le_of_ble_eq_true rfl, Nat.le_of_ble_eq_true rfl⟩) rfl rfl (by decide) rfl hl.1 rfl (Nat.le_of_ble_eq_true rfl) dX14_isEnd_2 (Nat.le_of_ble_eq_true rfl) (Nat.add_le_add_right (Nat.le_of_ble_eq_true rfl) _) (by assumption) (fun H locs v σ2 N hBn hX2 hP => ?_)
  clear hB; have hB := hBn; clear hBn
  obtain ⟨b3, rfl, rfl, hb3⟩ := hP
  refine lv_if_eq (tgt := 40) hx hb dX14_isEnd_5 (by decide) (fun c5 => ?_) (fun c5 => ?_)
  · refine lv_iconst (v := 0) hx hb dX14_isEnd_40 (by decide) ?_
    exact sg_zret F hB hrt dX14_isEnd_41 (by decide) (by decide) rfl (by first | exact ⟨0, rfl, rfl, sgb_0 (fun q => sgb_f hb3 c5 q.1)⟩ | exact ⟨0, rfl, rfl, sgb_0 (fun q => sgb_f hb4 c14 q.2.1)⟩ | exact ⟨1, rfl, rfl, sgb_1 ⟨hx5, hy5, _, (iEn_of en1).trans hz33⟩⟩ | exact ⟨0, rfl, rfl, sgb_0 (fun ⟨_, _, q, hq⟩ => by rw [iEn_of en1, hz33] at hq; cases hq)⟩)
  · have hx5 := sgb_t hb3 c5
    obtain ⟨e, f, lf, en1, en2, en3, en4, en5, en6, en7, en8, en9⟩ := inv_ends h (k := x.toInt.toNat) (by omega)
    refine lv_iload_n hx hb dX14_isEnd_8 rfl (lv_at hl 2 rfl) ?_
    refine lv_iconst (v := 1) hx hb dX14_isEnd_9 (by decide) ?_
    refine lv_iconst (v := 3) hx hb dX14_isEnd_10 (by decide) ?_
    refine sg_callS F hB (m_in l D cy y 1 3 _) (cwS 3 F.1.2.2.2.2 (mgS (mm_3 _ (List.mem_of_getElem? (i := 21) rfl)) (mm_3 _ (List.mem_of_getElem? (i := 22) rfl)) (mm_3 _ (List.mem_of_getElem? (i := 23) rfl)) (mm_1 _ (List.mem_of_getElem? (i := 19) rfl))) rfl rfl rfl ⟨rfl, by decide, by decide, by decide +kernel⟩ ⟨Nat.le_of_ble_eq_true rfl, Nat.le_of_ble_eq_true rfl⟩) rfl hl.1 rfl (Nat.le_of_ble_eq_true rfl) dX14_isEnd_11 (Nat.le_of_ble_eq_true rfl) (Nat.add_le_add_right (Nat.le_of_ble_eq_true rfl) _)  (fun H locs v σ11 N hBn hX11 hP => ?_)
    clear hB; have hB := hBn; clear hBn
    obtain ⟨b4, rfl, rfl, hb4⟩ := hP
    refine lv_if_eq (tgt := 40) hx hb dX14_isEnd_14 (by decide) (fun c14 => ?_) (fun c14 => ?_)
    · refine lv_iconst (v := 0) hx hb dX14_isEnd_40 (by decide) ?_
      exact sg_zret F hB hrt dX14_isEnd_41 (by decide) (by decide) rfl (by first | exact ⟨0, rfl, rfl, sgb_0 (fun q => sgb_f hb3 c5 q.1)⟩ | exact ⟨0, rfl, rfl, sgb_0 (fun q => sgb_f hb4 c14 q.2.1)⟩ | exact ⟨1, rfl, rfl, sgb_1 ⟨hx5, hy5, _, (iEn_of en1).trans hz33⟩⟩ | exact ⟨0, rfl, rfl, sgb_0 (fun ⟨_, _, q, hq⟩ => by rw [iEn_of en1, hz33] at hq; cases hq)⟩)
    · have hy5 : 1 ≤ y.toInt ∧ y.toInt ≤ 3 := sgb_t hb4 c14
      refine lv_aload_n hx hb dX14_isEnd_17 rfl (lv_at hl 0 rfl) ?_
      refine gr_X14_10 F hB dX14_isEnd_18 (by assumption) m1 ?_
      refine lv_iload_n hx hb dX14_isEnd_21 rfl (lv_at hl 1 rfl) ?_
      refine sg_callV (ci := 4) F hB (m_getD l D cy h x (by omega) (by omega) _) (cwV 1 F.1.2.2.2.2 (mgV (mm_4 _ (List.mem_of_getElem? (i := 3) rfl)) (mm_4 _ (List.mem_of_getElem? (i := 4) rfl)) (mm_4 _ (List.mem_of_getElem? (i := 5) rfl)) (mm_0 _ (List.mem_of_getElem? (i := 35) rfl)) (mm_3 _ (List.mem_of_getElem? (i := 34) rfl))) rfl rfl rfl ⟨rfl, by decide, by decide, by decide +kernel⟩ ⟨Nat.le_of_ble_eq_true rfl, Nat.le_of_ble_eq_true rfl⟩) rfl rfl (by decide) rfl hl.1 rfl (Nat.le_of_ble_eq_true rfl) dX14_isEnd_22 (Nat.le_of_ble_eq_true rfl) (Nat.add_le_add_right (Nat.le_of_ble_eq_true rfl) _) (by assumption) (fun H locs v σ22 N hBn hX22 hP => ?_)
      clear hB; have hB := hBn; clear hBn
      obtain ⟨rfl, rfl⟩ := hP
      have dv22 := (inv_dv h (k := (x : Int32).toInt.toNat) (by omega)).2.1
      refine va_castY hx hb hown (F.1.2.2.2.2 _ (List.mem_cons_of_mem _ (mm_4 _ (List.mem_of_getElem? (i := 2) rfl)))) (F.2.2.1.2.2 ("HubcascadeModel$Device", "HubcascadeModel$Device") (by decide +kernel)) (sg_recv (ci := 15) F.2.1 hB (by assumption) (by decide) rfl) dX14_isEnd_25 ?_
      refine gr_X14_96 F hB dX14_isEnd_28 (by assumption) en1 ?_
      refine lv_iload_n hx hb dX14_isEnd_31 rfl (lv_at hl 2 rfl) ?_
      refine sg_aald 8 hx hb F.2.1 hB.1 rfl rfl dX14_isEnd_32 (by assumption) (by omega) (by rw [en5]; omega) (by rw [en5]; omega) ?_
      refine sg_split (fun hz33 => ?_) (fun b33 hz33 => ?_)
      · refine lv_ifnullN (tgt := 40) hx hb dX14_isEnd_33 (by decide) ?_
        refine lv_iconst (v := 0) hx hb dX14_isEnd_40 (by decide) ?_
        exact sg_zret F hB hrt dX14_isEnd_41 (by decide) (by decide) rfl (by first | exact ⟨0, rfl, rfl, sgb_0 (fun q => sgb_f hb3 c5 q.1)⟩ | exact ⟨0, rfl, rfl, sgb_0 (fun q => sgb_f hb4 c14 q.2.1)⟩ | exact ⟨1, rfl, rfl, sgb_1 ⟨hx5, hy5, _, (iEn_of en1).trans hz33⟩⟩ | exact ⟨0, rfl, rfl, sgb_0 (fun ⟨_, _, q, hq⟩ => by rw [iEn_of en1, hz33] at hq; cases hq)⟩)
      · refine lv_ifnull hx hb dX14_isEnd_33 ?_
        refine lv_iconst (v := 1) hx hb dX14_isEnd_36 (by decide) ?_
        refine lv_goto (tgt := 41) hx hb dX14_isEnd_37 (by decide) ?_
        exact sg_zret F hB hrt dX14_isEnd_41 (by decide) (by decide) rfl (by first | exact ⟨0, rfl, rfl, sgb_0 (fun q => sgb_f hb3 c5 q.1)⟩ | exact ⟨0, rfl, rfl, sgb_0 (fun q => sgb_f hb4 c14 q.2.1)⟩ | exact ⟨1, rfl, rfl, sgb_1 ⟨hx5, hy5, _, (iEn_of en1).trans hz33⟩⟩ | exact ⟨0, rfl, rfl, sgb_0 (fun ⟨_, _, q, hq⟩ => by rw [iEn_of en1, hz33] at hq; cases hq)⟩)
theorem dX14_endOf_0 : decode cX14_endOf 0 = .ok (.aload_n 0, 1) := by decide +kernel
theorem dX14_endOf_1 : decode cX14_endOf 1 = .ok (.getfield 10, 3) := by decide +kernel
theorem dX14_endOf_4 : decode cX14_endOf 4 = .ok (.aload_n 1, 1) := by decide +kernel
theorem dX14_endOf_5 : decode cX14_endOf 5 = .ok (.getfield 133, 3) := by decide +kernel
theorem dX14_endOf_8 : decode cX14_endOf 8 = .ok (.invokevirtual 76, 3) := by decide +kernel
theorem dX14_endOf_11 : decode cX14_endOf 11 = .ok (.checkcast 48, 3) := by decide +kernel
theorem dX14_endOf_14 : decode cX14_endOf 14 = .ok (.getfield 96, 3) := by decide +kernel
theorem dX14_endOf_17 : decode cX14_endOf 17 = .ok (.aload_n 1, 1) := by decide +kernel
theorem dX14_endOf_18 : decode cX14_endOf 18 = .ok (.getfield 235, 3) := by decide +kernel
theorem dX14_endOf_21 : decode cX14_endOf 21 = .ok (.aaload, 1) := by decide +kernel
theorem dX14_endOf_22 : decode cX14_endOf 22 = .ok (.areturn, 1) := by decide +kernel
set_option maxRecDepth 100000 in
set_option maxHeartbeats 4000000 in
theorem m_endOf (l : Launch) (D : va_G) (cy : Nat → ClassId) {eda ca : Nat} {ia : Nat → Nat} {σ : SG} {K : KM} {g : GH} {n S hw : Nat} (h : Inv eda ia K g n S hw σ) {p0 : Nat} (hp : sgT σ p0 = 18) (sz : Nat) : sgM l D cy eda ca ia σ sz yX14_endOf (Cond.code yX14_endOf cX14_endOf 2 (some (.object "HubcascadeModel$End")) :: mWall) 3 64 0 0 [.ref (kA K), .ref p0] (fun v σ2 => ∃ x : Nat, v = some (.ref x) ∧ σ = σ2 ∧ sgT σ x = 17 ∧ iEn g σ (sgI σ p0 0).toInt.toNat (sgI σ p0 1).toInt.toNat = some x) := by
  refine sg_ofW (cc := cX14_endOf) (maxL := 2) (ret := (some (.object "HubcascadeModel$End"))) (by decide) rfl (Nat.le_of_ble_eq_true rfl) (lv := [(0, .ref (kA K)), (1, .ref p0)]) rfl (fun p e s m below meth c ls H N hrt hnm F hB hl => ?_) sz
  have hx := F.1.1
  have hb := F.1.2.1
  have hown := F.1.2.2.2.1
  obtain ⟨m0, m1, m2, m3, m4, m5, m6, m7, ⟨d1, d2⟩, ⟨r1, r2⟩, ⟨y1, y2⟩, ⟨e1, e2⟩, ⟨g1, g2⟩, ⟨p1, p2⟩, ⟨h1, h2⟩, ⟨ev, n9, n10, n11⟩, n12⟩ := inv_Mr h
  obtain ⟨z1, z2, z3⟩ := inv_sz h
  obtain ⟨e, x, pn, en1, en4, en5, en6, en7⟩ := inv_pe h hp
  obtain ⟨pn1, pn2, pn3, pn4, -⟩ := pn
  refine lv_aload_n hx hb dX14_endOf_0 rfl (lv_at hl 0 rfl) ?_
  refine gr_X14_10 F hB dX14_endOf_1 (by assumption) m1 ?_
  refine lv_aload_n hx hb dX14_endOf_4 rfl (lv_at hl 1 rfl) ?_
  refine gf_X14_133 F hB dX14_endOf_5 (by assumption) ?_
  refine sg_callV (ci := 4) F hB (m_getD l D cy h (sgI σ p0 0) (by omega) (by omega) _) (cwV 1 F.1.2.2.2.2 (mgV (mm_4 _ (List.mem_of_getElem? (i := 3) rfl)) (mm_4 _ (List.mem_of_getElem? (i := 4) rfl)) (mm_4 _ (List.mem_of_getElem? (i := 5) rfl)) (mm_0 _ (List.mem_of_getElem? (i := 35) rfl)) (mm_3 _ (List.mem_of_getElem? (i := 34) rfl))) rfl rfl rfl ⟨rfl, by decide, by decide, by decide +kernel⟩ ⟨Nat.le_of_ble_eq_true rfl, Nat.le_of_ble_eq_true rfl⟩) rfl rfl (by decide) rfl hl.1 rfl (Nat.le_of_ble_eq_true rfl) dX14_endOf_8 (Nat.le_of_ble_eq_true rfl) (Nat.add_le_add_right (Nat.le_of_ble_eq_true rfl) _) (by assumption) (fun H locs v σ8 N hBn hX8 hP => ?_)
  clear hB; have hB := hBn; clear hBn
  obtain ⟨rfl, rfl⟩ := hP
  have dv8 := (inv_dv h (k := ((sgI σ p0 0) : Int32).toInt.toNat) (by omega)).2.1
  refine va_castY hx hb hown (F.1.2.2.2.2 _ (List.mem_cons_of_mem _ (mm_4 _ (List.mem_of_getElem? (i := 2) rfl)))) (F.2.2.1.2.2 ("HubcascadeModel$Device", "HubcascadeModel$Device") (by decide +kernel)) (sg_recv (ci := 15) F.2.1 hB (by assumption) (by decide) rfl) dX14_endOf_11 ?_
  refine gr_X14_96 F hB dX14_endOf_14 (by assumption) en1 ?_
  refine lv_aload_n hx hb dX14_endOf_17 rfl (lv_at hl 1 rfl) ?_
  refine gf_X14_235 F hB dX14_endOf_18 (by assumption) ?_
  refine sg_aaldR 8 hx hb F.2.1 hB.1 rfl rfl dX14_endOf_21 (by assumption) (by omega) (by rw [en5]; omega) (by rw [en5]; omega) en6 ?_
  exact sg_aret F hB hrt (Or.inl ⟨_, rfl⟩) (Or.inr ⟨_, rfl⟩) dX14_endOf_22 (by decide) (by decide) (⟨x, rfl, rfl, en7, (iEn_of en1).trans en6⟩)
theorem dX14_noPipe_0 : decode cX14_noPipe 0 = .ok (.aload_n 0, 1) := by decide +kernel
theorem dX14_noPipe_1 : decode cX14_noPipe 1 = .ok (.iload_n 1, 1) := by decide +kernel
theorem dX14_noPipe_2 : decode cX14_noPipe 2 = .ok (.iconst 0, 1) := by decide +kernel
theorem dX14_noPipe_3 : decode cX14_noPipe 3 = .ok (.bipush 11, 2) := by decide +kernel
theorem dX14_noPipe_5 : decode cX14_noPipe 5 = .ok (.invokestatic 68, 3) := by decide +kernel
theorem dX14_noPipe_8 : decode cX14_noPipe 8 = .ok (.ifCond .eq 16, 3) := by decide +kernel
theorem dX14_noPipe_11 : decode cX14_noPipe 11 = .ok (.aload_n 0, 1) := by decide +kernel
theorem dX14_noPipe_12 : decode cX14_noPipe 12 = .ok (.getfield 18, 3) := by decide +kernel
theorem dX14_noPipe_15 : decode cX14_noPipe 15 = .ok (.iload_n 1, 1) := by decide +kernel
theorem dX14_noPipe_16 : decode cX14_noPipe 16 = .ok (.aaload, 1) := by decide +kernel
theorem dX14_noPipe_17 : decode cX14_noPipe 17 = .ok (.ifnull 7, 3) := by decide +kernel
theorem dX14_noPipe_20 : decode cX14_noPipe 20 = .ok (.iconst 0, 1) := by decide +kernel
theorem dX14_noPipe_21 : decode cX14_noPipe 21 = .ok (.goto 4, 3) := by decide +kernel
theorem dX14_noPipe_24 : decode cX14_noPipe 24 = .ok (.iconst 1, 1) := by decide +kernel
theorem dX14_noPipe_25 : decode cX14_noPipe 25 = .ok (.putfield 61, 3) := by decide +kernel
theorem dX14_noPipe_28 : decode cX14_noPipe 28 = .ok (.aload_n 0, 1) := by decide +kernel
theorem dX14_noPipe_29 : decode cX14_noPipe 29 = .ok (.getfield 61, 3) := by decide +kernel
theorem dX14_noPipe_32 : decode cX14_noPipe 32 = .ok (.ifCond .le 7, 3) := by decide +kernel
theorem dX14_noPipe_35 : decode cX14_noPipe 35 = .ok (.iconst 1, 1) := by decide +kernel
theorem dX14_noPipe_36 : decode cX14_noPipe 36 = .ok (.goto 4, 3) := by decide +kernel
theorem dX14_noPipe_39 : decode cX14_noPipe 39 = .ok (.iconst 0, 1) := by decide +kernel
theorem dX14_noPipe_40 : decode cX14_noPipe 40 = .ok (.ireturn, 1) := by decide +kernel
set_option maxRecDepth 100000 in
set_option maxHeartbeats 4000000 in
theorem m_noPipe (l : Launch) (D : va_G) (cy : Nat → ClassId) {eda ca : Nat} {ia : Nat → Nat} {σ : SG} {K : KM} {g : GH} {n S hw : Nat} (h : Inv eda ia K g n S hw σ) (x : Int32) (sz : Nat) : sgM l D cy eda ca ia σ sz yX14_noPipe (Cond.code yX14_noPipe cX14_noPipe 2 (some .boolean) :: mWall) 1 22 0 0 [.ref (kA K), .int x] (fun v σ2 => ∃ (y b : Int32), v = some (.int b) ∧ sgPI σ (kA K) 0 y = σ2 ∧ sgb b (¬ ((0 ≤ x.toInt ∧ x.toInt ≤ 11) ∧ ∃ p, sgR σ (kP K) x.toInt.toNat = some p))) := by
  refine sg_ofW (cc := cX14_noPipe) (maxL := 2) (ret := (some .boolean)) (by decide) rfl (Nat.le_of_ble_eq_true rfl) (lv := [(0, .ref (kA K)), (1, .int x)]) rfl (fun p e s m below meth c ls H N hrt hnm F hB hl => ?_) sz
  have hx := F.1.1
  have hb := F.1.2.1
  have hown := F.1.2.2.2.1
  obtain ⟨m0, m1, m2, m3, m4, m5, m6, m7, ⟨d1, d2⟩, ⟨r1, r2⟩, ⟨y1, y2⟩, ⟨e1, e2⟩, ⟨g1, g2⟩, ⟨p1, p2⟩, ⟨h1, h2⟩, ⟨ev, n9, n10, n11⟩, n12⟩ := inv_Mr h
  refine lv_aload_n hx hb dX14_noPipe_0 rfl (lv_at hl 0 rfl) ?_
  refine lv_iload_n hx hb dX14_noPipe_1 rfl (lv_at hl 1 rfl) ?_
  refine lv_iconst (v := 0) hx hb dX14_noPipe_2 (by decide) ?_
  refine lv_bipush (v := 11) hx hb dX14_noPipe_3 (by decide) ?_
  refine sg_callS F hB (m_in l D cy x 0 11 _) (cwS 3 F.1.2.2.2.2 (mgS (mm_3 _ (List.mem_of_getElem? (i := 21) rfl)) (mm_3 _ (List.mem_of_getElem? (i := 22) rfl)) (mm_3 _ (List.mem_of_getElem? (i := 23) rfl)) (mm_1 _ (List.mem_of_getElem? (i := 19) rfl))) rfl rfl rfl ⟨rfl, by decide, by decide, by decide +kernel⟩ ⟨Nat.le_of_ble_eq_true rfl, Nat.le_of_ble_eq_true rfl⟩) rfl hl.1 rfl (Nat.le_of_ble_eq_true rfl) dX14_noPipe_5 (Nat.le_of_ble_eq_true rfl) (Nat.add_le_add_right (Nat.le_of_ble_eq_true rfl) _)  (fun H locs v σ5 N hBn hX5 hP => ?_)
  clear hB; have hB := hBn; clear hBn
  obtain ⟨b4, rfl, rfl, hb4⟩ := hP
  refine lv_if_eq (tgt := 24) hx hb dX14_noPipe_8 (by decide) (fun c8 => ?_) (fun c8 => ?_)
  · refine lv_iconst (v := 1) hx hb dX14_noPipe_24 (by decide) ?_
    refine pf_X14_61 F hB dX14_noPipe_25 (by assumption) (fun H locs hBn => ?_)
    clear hB; have hB := hBn; clear hBn
    refine lv_aload_n hx hb dX14_noPipe_28 rfl (lv_at hl 0 rfl) ?_
    refine gf_X14_61 F hB dX14_noPipe_29 (by assumption) ?_
    rw [sgI_PI, if_pos ⟨rfl, rfl⟩]
    refine lv_if_le (tgt := 39) hx hb dX14_noPipe_32 (by decide) (fun c32 => (by first | exact absurd c32 (by decide) | exact (c32 (by decide)).elim)) (fun c32 => ?_)
    refine lv_iconst (v := 1) hx hb dX14_noPipe_35 (by decide) ?_
    refine lv_goto (tgt := 40) hx hb dX14_noPipe_36 (by decide) ?_
    exact sg_zret F hB hrt dX14_noPipe_40 (by decide) (by decide) rfl (by first | exact ⟨_, 1, rfl, rfl, sgb_1 (fun q => sgb_f hb4 c8 q.1)⟩ | exact ⟨_, 0, rfl, rfl, sgb_0 (fun q => q ⟨hx5, _, hz17⟩)⟩ | exact ⟨_, 1, rfl, rfl, sgb_1 (fun ⟨_, q, hq⟩ => by rw [hz17] at hq; cases hq)⟩)
  · have hx5 : 0 ≤ x.toInt ∧ x.toInt ≤ 11 := sgb_t hb4 c8
    refine lv_aload_n hx hb dX14_noPipe_11 rfl (lv_at hl 0 rfl) ?_
    refine gr_X14_18 F hB dX14_noPipe_12 (by assumption) m2 ?_
    refine lv_iload_n hx hb dX14_noPipe_15 rfl (lv_at hl 1 rfl) ?_
    refine sg_aald 9 hx hb F.2.1 hB.1 rfl rfl dX14_noPipe_16 (by assumption) (by omega) (by rw [p2]; omega) (by rw [p2]; omega) ?_
    refine sg_split (fun hz17 => ?_) (fun b17 hz17 => ?_)
    · refine lv_ifnullN (tgt := 24) hx hb dX14_noPipe_17 (by decide) ?_
      refine lv_iconst (v := 1) hx hb dX14_noPipe_24 (by decide) ?_
      refine pf_X14_61 F hB dX14_noPipe_25 (by assumption) (fun H locs hBn => ?_)
      clear hB; have hB := hBn; clear hBn
      refine lv_aload_n hx hb dX14_noPipe_28 rfl (lv_at hl 0 rfl) ?_
      refine gf_X14_61 F hB dX14_noPipe_29 (by assumption) ?_
      rw [sgI_PI, if_pos ⟨rfl, rfl⟩]
      refine lv_if_le (tgt := 39) hx hb dX14_noPipe_32 (by decide) (fun c32 => (by first | exact absurd c32 (by decide) | exact (c32 (by decide)).elim)) (fun c32 => ?_)
      refine lv_iconst (v := 1) hx hb dX14_noPipe_35 (by decide) ?_
      refine lv_goto (tgt := 40) hx hb dX14_noPipe_36 (by decide) ?_
      exact sg_zret F hB hrt dX14_noPipe_40 (by decide) (by decide) rfl (by first | exact ⟨_, 1, rfl, rfl, sgb_1 (fun q => sgb_f hb4 c8 q.1)⟩ | exact ⟨_, 0, rfl, rfl, sgb_0 (fun q => q ⟨hx5, _, hz17⟩)⟩ | exact ⟨_, 1, rfl, rfl, sgb_1 (fun ⟨_, q, hq⟩ => by rw [hz17] at hq; cases hq)⟩)
    · refine lv_ifnull hx hb dX14_noPipe_17 ?_
      refine lv_iconst (v := 0) hx hb dX14_noPipe_20 (by decide) ?_
      refine lv_goto (tgt := 25) hx hb dX14_noPipe_21 (by decide) ?_
      refine pf_X14_61 F hB dX14_noPipe_25 (by assumption) (fun H locs hBn => ?_)
      clear hB; have hB := hBn; clear hBn
      refine lv_aload_n hx hb dX14_noPipe_28 rfl (lv_at hl 0 rfl) ?_
      refine gf_X14_61 F hB dX14_noPipe_29 (by assumption) ?_
      rw [sgI_PI, if_pos ⟨rfl, rfl⟩]
      refine lv_if_le (tgt := 39) hx hb dX14_noPipe_32 (by decide) (fun c32 => ?_) (fun c32 => (by first | exact absurd c32 (by decide) | exact (c32 (by decide)).elim))
      refine lv_iconst (v := 0) hx hb dX14_noPipe_39 (by decide) ?_
      exact sg_zret F hB hrt dX14_noPipe_40 (by decide) (by decide) rfl (by first | exact ⟨_, 1, rfl, rfl, sgb_1 (fun q => sgb_f hb4 c8 q.1)⟩ | exact ⟨_, 0, rfl, rfl, sgb_0 (fun q => q ⟨hx5, _, hz17⟩)⟩ | exact ⟨_, 1, rfl, rfl, sgb_1 (fun ⟨_, q, hq⟩ => by rw [hz17] at hq; cases hq)⟩)
theorem dX14_noEnd_0 : decode cX14_noEnd 0 = .ok (.aload_n 0, 1) := by decide +kernel
theorem dX14_noEnd_1 : decode cX14_noEnd 1 = .ok (.aload_n 0, 1) := by decide +kernel
theorem dX14_noEnd_2 : decode cX14_noEnd 2 = .ok (.iload_n 1, 1) := by decide +kernel
theorem dX14_noEnd_3 : decode cX14_noEnd 3 = .ok (.iload_n 2, 1) := by decide +kernel
theorem dX14_noEnd_4 : decode cX14_noEnd 4 = .ok (.invokevirtual 256, 3) := by decide +kernel
theorem dX14_noEnd_7 : decode cX14_noEnd 7 = .ok (.ifCond .ne 7, 3) := by decide +kernel
theorem dX14_noEnd_10 : decode cX14_noEnd 10 = .ok (.iconst 1, 1) := by decide +kernel
theorem dX14_noEnd_11 : decode cX14_noEnd 11 = .ok (.goto 31, 3) := by decide +kernel
theorem dX14_noEnd_14 : decode cX14_noEnd 14 = .ok (.aload_n 0, 1) := by decide +kernel
theorem dX14_noEnd_15 : decode cX14_noEnd 15 = .ok (.getfield 10, 3) := by decide +kernel
theorem dX14_noEnd_18 : decode cX14_noEnd 18 = .ok (.iload_n 1, 1) := by decide +kernel
theorem dX14_noEnd_19 : decode cX14_noEnd 19 = .ok (.invokevirtual 76, 3) := by decide +kernel
theorem dX14_noEnd_22 : decode cX14_noEnd 22 = .ok (.checkcast 48, 3) := by decide +kernel
theorem dX14_noEnd_25 : decode cX14_noEnd 25 = .ok (.getfield 96, 3) := by decide +kernel
theorem dX14_noEnd_28 : decode cX14_noEnd 28 = .ok (.iload_n 2, 1) := by decide +kernel
theorem dX14_noEnd_29 : decode cX14_noEnd 29 = .ok (.aaload, 1) := by decide +kernel
theorem dX14_noEnd_30 : decode cX14_noEnd 30 = .ok (.getfield 300, 3) := by decide +kernel
theorem dX14_noEnd_33 : decode cX14_noEnd 33 = .ok (.iload_n 3, 1) := by decide +kernel
theorem dX14_noEnd_34 : decode cX14_noEnd 34 = .ok (.if_icmp .eq 7, 3) := by decide +kernel
theorem dX14_noEnd_37 : decode cX14_noEnd 37 = .ok (.iconst 2, 1) := by decide +kernel
theorem dX14_noEnd_38 : decode cX14_noEnd 38 = .ok (.goto 4, 3) := by decide +kernel
theorem dX14_noEnd_41 : decode cX14_noEnd 41 = .ok (.iconst 0, 1) := by decide +kernel
theorem dX14_noEnd_42 : decode cX14_noEnd 42 = .ok (.putfield 61, 3) := by decide +kernel
theorem dX14_noEnd_45 : decode cX14_noEnd 45 = .ok (.aload_n 0, 1) := by decide +kernel
theorem dX14_noEnd_46 : decode cX14_noEnd 46 = .ok (.getfield 61, 3) := by decide +kernel
theorem dX14_noEnd_49 : decode cX14_noEnd 49 = .ok (.ifCond .le 7, 3) := by decide +kernel
theorem dX14_noEnd_52 : decode cX14_noEnd 52 = .ok (.iconst 1, 1) := by decide +kernel
theorem dX14_noEnd_53 : decode cX14_noEnd 53 = .ok (.goto 4, 3) := by decide +kernel
theorem dX14_noEnd_56 : decode cX14_noEnd 56 = .ok (.iconst 0, 1) := by decide +kernel
theorem dX14_noEnd_57 : decode cX14_noEnd 57 = .ok (.ireturn, 1) := by decide +kernel
set_option maxRecDepth 100000 in
set_option maxHeartbeats 4000000 in
theorem m_noEnd (l : Launch) (D : va_G) (cy : Nat → ClassId) {eda ca : Nat} {ia : Nat → Nat} {σ : SG} {K : KM} {g : GH} {n S hw : Nat} (h : Inv eda ia K g n S hw σ) (x y i0 : Int32) (sz : Nat) : sgM l D cy eda ca ia σ sz yX14_noEnd (Cond.code yX14_noEnd cX14_noEnd 4 (some .boolean) :: mWall) 4 86 0 0 [.ref (kA K), .int x, .int y, .int i0] (fun v σ2 => ∃ (u b : Int32), v = some (.int b) ∧ sgPI σ (kA K) 0 u = σ2 ∧ sgb b (¬ (((0 ≤ x.toInt ∧ x.toInt < n) ∧ (1 ≤ y.toInt ∧ y.toInt ≤ 3) ∧ ∃ q, iEn g σ x.toInt.toNat y.toInt.toNat = some q) ∧ b = 0))) := by
  refine sg_ofW (cc := cX14_noEnd) (maxL := 4) (ret := (some .boolean)) (by decide) rfl (Nat.le_of_ble_eq_true rfl) (lv := [(0, .ref (kA K)), (1, .int x), (2, .int y), (3, .int i0)]) rfl (fun p e s m below meth c ls H N hrt hnm F hB hl => ?_) sz
  have hx := F.1.1
  have hb := F.1.2.1
  have hown := F.1.2.2.2.1
  obtain ⟨m0, m1, m2, m3, m4, m5, m6, m7, ⟨d1, d2⟩, ⟨r1, r2⟩, ⟨y1, y2⟩, ⟨e1, e2⟩, ⟨g1, g2⟩, ⟨p1, p2⟩, ⟨h1, h2⟩, ⟨ev, n9, n10, n11⟩, n12⟩ := inv_Mr h
  refine lv_aload_n hx hb dX14_noEnd_0 rfl (lv_at hl 0 rfl) ?_
  refine lv_aload_n hx hb dX14_noEnd_1 rfl (lv_at hl 0 rfl) ?_
  refine lv_iload_n hx hb dX14_noEnd_2 rfl (lv_at hl 1 rfl) ?_
  refine lv_iload_n hx hb dX14_noEnd_3 rfl (lv_at hl 2 rfl) ?_
  refine sg_callV (ci := 19) F hB (m_isEnd l D cy h x y _) (cwV 2 F.1.2.2.2.2 (mgV (mm_8 _ (List.mem_of_getElem? (i := 29) rfl)) (mm_8 _ (List.mem_of_getElem? (i := 30) rfl)) (mm_8 _ (List.mem_of_getElem? (i := 31) rfl)) (mm_3 _ (List.mem_of_getElem? (i := 23) rfl)) (mm_8 _ (List.mem_of_getElem? (i := 27) rfl))) rfl rfl rfl ⟨rfl, by decide, by decide, by decide +kernel⟩ ⟨Nat.le_of_ble_eq_true rfl, Nat.le_of_ble_eq_true rfl⟩) rfl rfl (by decide) rfl hl.1 rfl (Nat.le_of_ble_eq_true rfl) dX14_noEnd_4 (Nat.le_of_ble_eq_true rfl) (Nat.add_le_add_right (Nat.le_of_ble_eq_true rfl) _) (by assumption) (fun H locs v σ4 N hBn hX4 hP => ?_)
  clear hB; have hB := hBn; clear hBn
  obtain ⟨b3, rfl, rfl, hb3⟩ := hP
  refine lv_if_ne (tgt := 14) hx hb dX14_noEnd_7 (by decide) (fun c7 => ?_) (fun c7 => ?_)
  · obtain ⟨hx5, hy5, q5, hq5⟩ := sgb_t hb3 c7
    obtain ⟨e, f, lf, en1, en2, en3, en4, en5, en6, en7, en8, en9⟩ := inv_ends h (k := x.toInt.toNat) (by omega)
    have hq6 := hq5
    rw [iEn_of en1] at hq6
    have hq7 := inv_en h (k := x.toInt.toNat) (by omega) (by omega) hq5
    refine lv_aload_n hx hb dX14_noEnd_14 rfl (lv_at hl 0 rfl) ?_
    refine gr_X14_10 F hB dX14_noEnd_15 (by assumption) m1 ?_
    refine lv_iload_n hx hb dX14_noEnd_18 rfl (lv_at hl 1 rfl) ?_
    refine sg_callV (ci := 4) F hB (m_getD l D cy h x (by omega) (by omega) _) (cwV 1 F.1.2.2.2.2 (mgV (mm_4 _ (List.mem_of_getElem? (i := 3) rfl)) (mm_4 _ (List.mem_of_getElem? (i := 4) rfl)) (mm_4 _ (List.mem_of_getElem? (i := 5) rfl)) (mm_0 _ (List.mem_of_getElem? (i := 35) rfl)) (mm_3 _ (List.mem_of_getElem? (i := 34) rfl))) rfl rfl rfl ⟨rfl, by decide, by decide, by decide +kernel⟩ ⟨Nat.le_of_ble_eq_true rfl, Nat.le_of_ble_eq_true rfl⟩) rfl rfl (by decide) rfl hl.1 rfl (Nat.le_of_ble_eq_true rfl) dX14_noEnd_19 (Nat.le_of_ble_eq_true rfl) (Nat.add_le_add_right (Nat.le_of_ble_eq_true rfl) _) (by assumption) (fun H locs v σ19 N hBn hX19 hP => ?_)
    clear hB; have hB := hBn; clear hBn
    obtain ⟨rfl, rfl⟩ := hP
    have dv19 := (inv_dv h (k := (x : Int32).toInt.toNat) (by omega)).2.1
    refine va_castY hx hb hown (F.1.2.2.2.2 _ (List.mem_cons_of_mem _ (mm_4 _ (List.mem_of_getElem? (i := 2) rfl)))) (F.2.2.1.2.2 ("HubcascadeModel$Device", "HubcascadeModel$Device") (by decide +kernel)) (sg_recv (ci := 15) F.2.1 hB (by assumption) (by decide) rfl) dX14_noEnd_22 ?_
    refine gr_X14_96 F hB dX14_noEnd_25 (by assumption) en1 ?_
    refine lv_iload_n hx hb dX14_noEnd_28 rfl (lv_at hl 2 rfl) ?_
    refine sg_aaldR 8 hx hb F.2.1 hB.1 rfl rfl dX14_noEnd_29 (by assumption) (by omega) (by rw [en5]; omega) (by rw [en5]; omega) hq6 ?_
    refine gf_X14_300 F hB dX14_noEnd_30 (by assumption) ?_
    refine lv_iload_n hx hb dX14_noEnd_33 rfl (lv_at hl 3 rfl) ?_
    refine lv_icmp_eq (tgt := 41) hx hb dX14_noEnd_34 (by decide) (fun c34 => ?_) (fun c34 => ?_)
    · refine lv_iconst (v := 0) hx hb dX14_noEnd_41 (by decide) ?_
      refine pf_X14_61 F hB dX14_noEnd_42 (by assumption) (fun H locs hBn => ?_)
      clear hB; have hB := hBn; clear hBn
      refine lv_aload_n hx hb dX14_noEnd_45 rfl (lv_at hl 0 rfl) ?_
      refine gf_X14_61 F hB dX14_noEnd_46 (by assumption) ?_
      rw [sgI_PI, if_pos ⟨rfl, rfl⟩]
      refine lv_if_le (tgt := 56) hx hb dX14_noEnd_49 (by decide) (fun c49 => ?_) (fun c49 => (by first | exact absurd c49 (by decide) | exact (c49 (by decide)).elim))
      refine lv_iconst (v := 0) hx hb dX14_noEnd_56 (by decide) ?_
      exact sg_zret F hB hrt dX14_noEnd_57 (by decide) (by decide) rfl (by first | exact ⟨_, 1, rfl, rfl, sgb_1 (fun q => absurd q.2 (by decide))⟩ | exact ⟨_, 0, rfl, rfl, sgb_0 (fun q => q ⟨⟨hx5, hy5, q5, hq5⟩, rfl⟩)⟩)
    · refine lv_iconst (v := 2) hx hb dX14_noEnd_37 (by decide) ?_
      refine lv_goto (tgt := 42) hx hb dX14_noEnd_38 (by decide) ?_
      refine pf_X14_61 F hB dX14_noEnd_42 (by assumption) (fun H locs hBn => ?_)
      clear hB; have hB := hBn; clear hBn
      refine lv_aload_n hx hb dX14_noEnd_45 rfl (lv_at hl 0 rfl) ?_
      refine gf_X14_61 F hB dX14_noEnd_46 (by assumption) ?_
      rw [sgI_PI, if_pos ⟨rfl, rfl⟩]
      refine lv_if_le (tgt := 56) hx hb dX14_noEnd_49 (by decide) (fun c49 => (by first | exact absurd c49 (by decide) | exact (c49 (by decide)).elim)) (fun c49 => ?_)
      refine lv_iconst (v := 1) hx hb dX14_noEnd_52 (by decide) ?_
      refine lv_goto (tgt := 57) hx hb dX14_noEnd_53 (by decide) ?_
      exact sg_zret F hB hrt dX14_noEnd_57 (by decide) (by decide) rfl (by first | exact ⟨_, 1, rfl, rfl, sgb_1 (fun q => absurd q.2 (by decide))⟩ | exact ⟨_, 0, rfl, rfl, sgb_0 (fun q => q ⟨⟨hx5, hy5, q5, hq5⟩, rfl⟩)⟩)
  · refine lv_iconst (v := 1) hx hb dX14_noEnd_10 (by decide) ?_
    refine lv_goto (tgt := 42) hx hb dX14_noEnd_11 (by decide) ?_
    refine pf_X14_61 F hB dX14_noEnd_42 (by assumption) (fun H locs hBn => ?_)
    clear hB; have hB := hBn; clear hBn
    refine lv_aload_n hx hb dX14_noEnd_45 rfl (lv_at hl 0 rfl) ?_
    refine gf_X14_61 F hB dX14_noEnd_46 (by assumption) ?_
    rw [sgI_PI, if_pos ⟨rfl, rfl⟩]
    refine lv_if_le (tgt := 56) hx hb dX14_noEnd_49 (by decide) (fun c49 => (by first | exact absurd c49 (by decide) | exact (c49 (by decide)).elim)) (fun c49 => ?_)
    refine lv_iconst (v := 1) hx hb dX14_noEnd_52 (by decide) ?_
    refine lv_goto (tgt := 57) hx hb dX14_noEnd_53 (by decide) ?_
    exact sg_zret F hB hrt dX14_noEnd_57 (by decide) (by decide) rfl (by first | exact ⟨_, 1, rfl, rfl, sgb_1 (fun q => absurd q.2 (by decide))⟩ | exact ⟨_, 0, rfl, rfl, sgb_0 (fun q => q ⟨⟨hx5, hy5, q5, hq5⟩, rfl⟩)⟩)
end MM15
