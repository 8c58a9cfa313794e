section MM23
section MM23A
variable {eda n S hw : Nat} {ia : Nat → Nat} {K : KM} {g : GH} {σ σ2 : SG}
/-- the way up is the same -/
theorem iUp_eq (h : Inv eda ia K g n S hw σ) (he : ∀ k, k < n → iHb g σ2 k = iHb g σ k) : ∀ (m : Nat) (z : Int), z = -1 ∨ (0 ≤ z ∧ z < n) → iUp g σ2 m z = iUp g σ m z
  | 0, _, _ => rfl
  | m + 1, z, hz => by
    show iUp g σ2 m (if z = -1 then -1 else iHb g σ2 z.toNat) = iUp g σ m (if z = -1 then -1 else iHb g σ z.toNat)
    by_cases e : z = -1
    · rw [if_pos e, if_pos e]; exact iUp_eq h he m _ (Or.inl rfl)
    · rw [if_neg e, if_neg e, he z.toNat (by omega)]
      refine iUp_eq h he m _ ?_
      obtain ⟨rk, w⟩ := inv_hub h
      rcases w z.toNat (by omega) with q | ⟨q1, q2, -⟩
      · exact Or.inl q
      · exact Or.inr ⟨q1, q2⟩
theorem iBw_eq (h : Inv eda ia K g n S hw σ) (he : ∀ k, k < n → iHb g σ2 k = iHb g σ k) {z x : Int} (hz : 0 ≤ z) (hz2 : z < n) : iBw g σ2 z x ↔ iBw g σ z x := by
  constructor
  · rintro ⟨m, q⟩; exact ⟨m, by rw [← iUp_eq h he m z (Or.inr ⟨hz, hz2⟩)]; exact q⟩
  · rintro ⟨m, q⟩; exact ⟨m, by rw [iUp_eq h he m z (Or.inr ⟨hz, hz2⟩)]; exact q⟩
/-- what is to be unplugged -/
def uAr (g : GH) (σ : SG) (x al : Int32) (k : Nat) : Prop := ¬ iSt g σ k = 117 ∧ iBw g σ (k : Int) x.toInt ∧ (¬ al = 0 ∨ ¬ (k : Int) = x.toInt)
/-- of one that stays, the hub stays -/
theorem uAr_up (h : Inv eda ia K g n S hw σ) (hY : nY g) {x al : Int32} (hx : 0 ≤ x.toInt) {k : Nat} (hk : k < n) (hu : ¬ uAr g σ x al k) (hh : ¬ iHb g σ k = -1) : ¬ uAr g σ x al (iHb g σ k).toNat := by
  obtain ⟨rk, w⟩ := inv_hub h
  have hkh := (w k hk).resolve_left hh
  intro ⟨u1, u2, u3⟩
  have e : (((iHb g σ k).toNat : Nat) : Int) = iHb g σ k := by omega
  rw [e] at u2 u3
  obtain ⟨hr1, hr2, hr3, hr4, -⟩ := inv_R h
  have h1 : 1 ≤ k := by
    by_cases z : k = 0
    · subst z; exact absurd hr4 hh
    · omega
  have hs : ¬ iSt g σ k = 117 := fun z => hh ((hr3 k h1 hk (hY _)).mp z)
  by_cases z : (k : Int) = x.toInt
  · -- its hub would be below itself
    obtain ⟨m, hm⟩ := u2
    have key : ∀ (m : Nat) (z : Int), (0 ≤ z ∧ z < n) → iUp g σ m z = x.toInt → rk x.toInt.toNat ≤ rk z.toNat := by
      intro m
      induction m with
      | zero => intro z _ q; rw [show z = x.toInt from q]; exact Nat.le_refl _
      | succ m ih =>
        intro z hz q
        have q : iUp g σ m (if z = -1 then -1 else iHb g σ z.toNat) = x.toInt := q
        rw [if_neg (by omega)] at q
        rcases w z.toNat (by omega) with q2 | ⟨q1, q2, q3⟩
        · rw [q2, iUp_none] at q; omega
        · have := ih _ ⟨q1, q2⟩ q
          omega
    have := key m _ ⟨hkh.1, hkh.2.1⟩ hm
    have e2 : x.toInt.toNat = k := by omega
    rw [e2] at this
    have := hkh.2.2
    omega
  · exact hu ⟨hs, (iBw_st (by omega) z).mpr (by rw [Int.toNat_natCast]; exact u2), Or.inr z⟩
theorem m_nn {x : Int32} (h : 0 ≤ x.toInt) : ¬ x < 0 := fun z => by
  have := i_lt z
  have e : (0 : Int32).toInt = 0 := rfl
  omega
/-- one device goes -/
theorem inv_un (h : Inv eda ia K g n S hw σ) {k : Nat} (h1 : 1 ≤ k) (hk : k < n) (hy : gY g (gDv g k)) (hp : ∀ j p, j < 12 → sgR σ (kP K) j = some p → ¬ (sgI σ p 0).toInt.toNat = k) (hch : ∀ j, j < n → ¬ gY g (gDv g j) → ¬ iHb g σ j = -1 → ¬ (iHb g σ j).toNat = k) : Inv eda ia K g n S hw (sgPI (sgPI σ (gDv g k) 6 117) (gDv g k) 7 (-1)) := by
  have td := (inv_dv h hk).2.1
  obtain ⟨⟨rk, w1⟩, w2, w3, w4, w5, w6⟩ := inv_R h
  have hn : 0 < n := by omega
  have eH : ∀ j, j < n → j ≠ k → iHb g (sgPI (sgPI σ (gDv g k) 6 117) (gDv g k) 7 (-1)) j = iHb g σ j := fun j hj hne => by
    unfold iHb
    rw [sgI_PI, if_neg (fun z => hne (inv_inj h hj hk z.1)), sgI_nk (by decide)]
  have eHk : iHb g (sgPI (sgPI σ (gDv g k) 6 117) (gDv g k) 7 (-1)) k = -1 := by
    unfold iHb
    rw [sgI_PI, if_pos ⟨rfl, rfl⟩]; rfl
  have eS : ∀ j, j < n → j ≠ k → iSt g (sgPI (sgPI σ (gDv g k) 6 117) (gDv g k) 7 (-1)) j = iSt g σ j := fun j hj hne => by
    unfold iSt
    rw [sgI_nk (by decide), sgI_PI, if_neg (fun z => hne (inv_inj h hj hk z.1))]
  refine inv_de h (fun _ => rfl) (fun _ => rfl) (fun _ _ => rfl) (fun a j ha => by rw [sgI_PI, if_neg (fun z => ha (by rw [z.1]; exact td)), sgI_PI, if_neg (fun z => ha (by rw [z.1]; exact td))]) (fun e he hu2 hop => ?_) ⟨⟨rk, fun j hj => ?_⟩, fun j hj hyj hh => ?_, fun j h1j hj hyj => ?_, by rw [eH 0 hn (by omega)]; exact w4, by rw [eS 0 hn (by omega)]; exact w5, by rw [sgI_nk (by decide), sgI_nk (by decide)]; exact w6⟩
  · rw [sgI_nk (by decide), sgI_PI]
    by_cases z : e = gDv g k ∧ 6 = 6
    · exfalso
      obtain ⟨i, p, hi, hpi, hd⟩ := hop
      have hpi : sgR σ (kP K) i = some p := hpi
      have tp := (inv_O h i p hi hpi).1
      obtain ⟨e2, x2, ⟨pn1, pn2, -⟩, -⟩ := inv_pe h tp
      exact hp i p hi hpi (inv_inj h (by omega) hk (hd.trans z.1))
    · rw [if_neg z]; exact hu2
  · by_cases e : j = k
    · subst e; exact Or.inl eHk
    · rw [eH j hj e]; exact w1 j hj
  · by_cases e : j = k
    · subst e; exact absurd hy hyj
    · rw [eH j hj e] at hh ⊢
      rcases w1 j hj with q | ⟨q1, q2, q3⟩
      · exact absurd q hh
      · rw [eS _ (by omega) (hch j hj hyj hh)]; exact w2 j hj hyj hh
  · by_cases e : j = k
    · subst e; exact absurd hy hyj
    · rw [eS j hj e, eH j hj e]; exact w3 j h1j hj hyj
end MM23A
def gU (g : GH) (y2 : Nat → Prop) : GH := (g.1, g.2.1, g.2.2.1, g.2.2.2.1, g.2.2.2.2.1, y2)
theorem un_5 {D : va_G} {cy : Nat → ClassId} {s : State} {σ0 σ : SG} {H : Heap} {locs : List Loc} {N n9 k : Nat} {g : GH} {v1 v2 v3 : Int32} (_hB : sgB D cy s σ0 (sgPI (sgPI (sgPI (sgPI (sgPI σ (gDv g k) 6 117) (gDv g k) 7 (-1)) (gDv g k) 9 v1) (gDv g k) 10 v2) (gDv g k) 12 v3) H locs N n9) : (∀ a j, a ≠ gDv g k → sgI (sgPI (sgPI (sgPI (sgPI (sgPI σ (gDv g k) 6 117) (gDv g k) 7 (-1)) (gDv g k) 9 v1) (gDv g k) 10 v2) (gDv g k) 12 v3) a j = sgI σ a j) ∧ (∀ a, sgI (sgPI (sgPI (sgPI (sgPI (sgPI σ (gDv g k) 6 117) (gDv g k) 7 (-1)) (gDv g k) 9 v1) (gDv g k) 10 v2) (gDv g k) 12 v3) a 0 = sgI σ a 0) ∧ iHb g (sgPI (sgPI (sgPI (sgPI (sgPI σ (gDv g k) 6 117) (gDv g k) 7 (-1)) (gDv g k) 9 v1) (gDv g k) 10 v2) (gDv g k) 12 v3) k = -1 ∧ iSt g (sgPI (sgPI (sgPI (sgPI (sgPI σ (gDv g k) 6 117) (gDv g k) 7 (-1)) (gDv g k) 9 v1) (gDv g k) 10 v2) (gDv g k) 12 v3) k = 117 := by
  refine ⟨fun a j ha => ?_, fun a => ?_, ?_, ?_⟩
  · rw [sgI_PI, if_neg (fun z => ha z.1), sgI_PI, if_neg (fun z => ha z.1), sgI_PI, if_neg (fun z => ha z.1), sgI_PI, if_neg (fun z => ha z.1), sgI_PI, if_neg (fun z => ha z.1)]
  · rw [sgI_nk (by decide), sgI_nk (by decide), sgI_nk (by decide), sgI_nk (by decide), sgI_nk (by decide)]
  · unfold iHb
    rw [sgI_nk (by decide), sgI_nk (by decide), sgI_nk (by decide), sgI_PI, if_pos ⟨rfl, rfl⟩]; rfl
  · unfold iSt
    rw [sgI_nk (by decide), sgI_nk (by decide), sgI_nk (by decide), sgI_nk (by decide), sgI_PI, if_pos ⟨rfl, rfl⟩]
theorem inv_fin {eda n S hw : Nat} {ia : Nat → Nat} {K : KM} {g : GH} {σ σ3 : SG} (h : Inv eda ia K g n S hw σ) (hY : nY g) {A : Nat → Prop} (h3 : Inv eda ia K (gU g (fun a => ∃ j, j < n ∧ A j ∧ a = gDv g j)) n S hw σ3) (hd : ∀ j, j < n → A j → iHb g σ3 j = -1 ∧ iSt g σ3 j = 117) : Inv eda ia K g n S hw σ3 := by
  have tD : ∀ a, gY (gU g (fun a => ∃ j, j < n ∧ A j ∧ a = gDv g j)) a → sgT σ3 a = 16 := fun a ⟨j, hj, _, e⟩ => by rw [e]; exact (inv_dv h3 hj).2.1
  have aY : ∀ k, k < n → gY (gU g (fun a => ∃ j, j < n ∧ A j ∧ a = gDv g j)) (gDv g k) → A k := fun k hk ⟨j, hj, ha, e⟩ => by rw [inv_inj h hk hj e]; exact ha
  refine inv_Ydn h3 (y2 := gY g) (fun x l tx _ _ gx _ => absurd ((tD x gx).symm.trans tx) (by decide)) (fun t l j x p e tt gt _ _ _ _ _ _ _ _ _ _ => absurd ((tD t gt).symm.trans tt) (by decide)) ?_
  obtain ⟨w1, w2, w3, w4⟩ := inv_R h3
  refine ⟨w1, fun k hk _ hh => ?_, fun k h1 hk _ => ?_, w4⟩
  · by_cases z : A k
    · exact absurd (hd k hk z).1 hh
    · exact w2 k hk (fun q => z (aY k hk q)) hh
  · by_cases z : A k
    · exact ⟨fun _ => (hd k hk z).1, fun _ => (hd k hk z).2⟩
    · exact w3 k h1 hk (fun q => z (aY k hk q))
theorem m_getDU (l : Launch) (D : va_G) (cy : Nat → ClassId) {eda ca : Nat} {ia : Nat → Nat} {σ : SG} {K : KM} {g : GH} {y2 : Nat → Prop} {n S hw : Nat} (h : Inv eda ia K (gU g y2) n S hw σ) (x : Int32) (h1 : 0 ≤ x.toInt) (h2 : x.toInt < n) (sz : Nat) : sgM l D cy eda ca ia σ sz yJx4a65c_get_915e3 (Cond.code yJx4a65c_get_915e3 cJx4a65c_get_915e3 2 (some (.object "java/lang/Object")) :: mWall) 2 43 0 0 [.ref (kD K), .int x] (fun v σ2 => v = some (.ref (gDv g x.toInt.toNat)) ∧ σ = σ2) := m_getD l D cy h x h1 h2 sz
theorem cFr_nw {σ0 σ : SG} {a k : Nat} {x : Int32} (h : cFr σ0 σ) (ha : sgT σ0 a = 0) : cFr σ0 (sgPI σ a k x) := ⟨h.1, fun b j h0 h5 h20 => by rw [sgI_PI, if_neg (fun z => h0 (by rw [z.1]; exact ha))]; exact h.2.1 b j h0 h5 h20, h.2.2⟩
/-- the array of those that go -/
def uArr (g : GH) (σ0 : SG) (x al : Int32) (n r : Nat) (σ : SG) : Prop := sgT σ r = 111 ∧ sgN σ r = n ∧ sgT σ0 r = 0
theorem dX14_unplugs_0 : decode cX14_unplugs 0 = .ok (.aload_n 0, 1) := by decide +kernel
theorem dX14_unplugs_1 : decode cX14_unplugs 1 = .ok (.getfield 10, 3) := by decide +kernel
theorem dX14_unplugs_4 : decode cX14_unplugs 4 = .ok (.invokevirtual 64, 3) := by decide +kernel
theorem dX14_unplugs_7 : decode cX14_unplugs 7 = .ok (.newarray .boolean, 2) := by decide +kernel
theorem dX14_unplugs_9 : decode cX14_unplugs 9 = .ok (.astore_n 3, 1) := by decide +kernel
theorem dX14_unplugs_10 : decode cX14_unplugs 10 = .ok (.iconst 0, 1) := by decide +kernel
theorem dX14_unplugs_11 : decode cX14_unplugs 11 = .ok (.istore 4, 2) := by decide +kernel
theorem dX14_unplugs_13 : decode cX14_unplugs 13 = .ok (.iconst 0, 1) := by decide +kernel
theorem dX14_unplugs_14 : decode cX14_unplugs 14 = .ok (.istore 5, 2) := by decide +kernel
theorem dX14_unplugs_16 : decode cX14_unplugs 16 = .ok (.iload 5, 2) := by decide +kernel
theorem dX14_unplugs_18 : decode cX14_unplugs 18 = .ok (.aload_n 3, 1) := by decide +kernel
theorem dX14_unplugs_19 : decode cX14_unplugs 19 = .ok (.arraylength, 1) := by decide +kernel
theorem dX14_unplugs_20 : decode cX14_unplugs 20 = .ok (.if_icmp .ge 64, 3) := by decide +kernel
theorem dX14_unplugs_23 : decode cX14_unplugs 23 = .ok (.aload_n 3, 1) := by decide +kernel
theorem dX14_unplugs_24 : decode cX14_unplugs 24 = .ok (.iload 5, 2) := by decide +kernel
theorem dX14_unplugs_26 : decode cX14_unplugs 26 = .ok (.aload_n 0, 1) := by decide +kernel
theorem dX14_unplugs_27 : decode cX14_unplugs 27 = .ok (.iload 5, 2) := by decide +kernel
theorem dX14_unplugs_29 : decode cX14_unplugs 29 = .ok (.invokevirtual 93, 3) := by decide +kernel
theorem dX14_unplugs_32 : decode cX14_unplugs 32 = .ok (.ifCond .eq 27, 3) := by decide +kernel
theorem dX14_unplugs_35 : decode cX14_unplugs 35 = .ok (.aload_n 0, 1) := by decide +kernel
theorem dX14_unplugs_36 : decode cX14_unplugs 36 = .ok (.iload 5, 2) := by decide +kernel
theorem dX14_unplugs_38 : decode cX14_unplugs 38 = .ok (.iload_n 1, 1) := by decide +kernel
theorem dX14_unplugs_39 : decode cX14_unplugs 39 = .ok (.invokevirtual 129, 3) := by decide +kernel
theorem dX14_unplugs_42 : decode cX14_unplugs 42 = .ok (.ifCond .eq 17, 3) := by decide +kernel
theorem dX14_unplugs_45 : decode cX14_unplugs 45 = .ok (.iload_n 2, 1) := by decide +kernel
theorem dX14_unplugs_46 : decode cX14_unplugs 46 = .ok (.ifCond .ne 9, 3) := by decide +kernel
theorem dX14_unplugs_49 : decode cX14_unplugs 49 = .ok (.iload 5, 2) := by decide +kernel
theorem dX14_unplugs_51 : decode cX14_unplugs 51 = .ok (.iload_n 1, 1) := by decide +kernel
theorem dX14_unplugs_52 : decode cX14_unplugs 52 = .ok (.if_icmp .eq 7, 3) := by decide +kernel
theorem dX14_unplugs_55 : decode cX14_unplugs 55 = .ok (.iconst 1, 1) := by decide +kernel
theorem dX14_unplugs_56 : decode cX14_unplugs 56 = .ok (.goto 4, 3) := by decide +kernel
theorem dX14_unplugs_59 : decode cX14_unplugs 59 = .ok (.iconst 0, 1) := by decide +kernel
theorem dX14_unplugs_60 : decode cX14_unplugs 60 = .ok (.bastore, 1) := by decide +kernel
theorem dX14_unplugs_61 : decode cX14_unplugs 61 = .ok (.iload 4, 2) := by decide +kernel
theorem dX14_unplugs_63 : decode cX14_unplugs 63 = .ok (.aload_n 3, 1) := by decide +kernel
theorem dX14_unplugs_64 : decode cX14_unplugs 64 = .ok (.iload 5, 2) := by decide +kernel
theorem dX14_unplugs_66 : decode cX14_unplugs 66 = .ok (.baload, 1) := by decide +kernel
theorem dX14_unplugs_67 : decode cX14_unplugs 67 = .ok (.ifCond .eq 7, 3) := by decide +kernel
theorem dX14_unplugs_70 : decode cX14_unplugs 70 = .ok (.iconst 1, 1) := by decide +kernel
theorem dX14_unplugs_71 : decode cX14_unplugs 71 = .ok (.goto 4, 3) := by decide +kernel
theorem dX14_unplugs_74 : decode cX14_unplugs 74 = .ok (.iconst 0, 1) := by decide +kernel
theorem dX14_unplugs_75 : decode cX14_unplugs 75 = .ok (.iadd, 1) := by decide +kernel
theorem dX14_unplugs_76 : decode cX14_unplugs 76 = .ok (.istore 4, 2) := by decide +kernel
theorem dX14_unplugs_78 : decode cX14_unplugs 78 = .ok (.iinc 5 1, 3) := by decide +kernel
theorem dX14_unplugs_81 : decode cX14_unplugs 81 = .ok (.goto (-65), 3) := by decide +kernel
theorem dX14_unplugs_84 : decode cX14_unplugs 84 = .ok (.iconst 0, 1) := by decide +kernel
theorem dX14_unplugs_85 : decode cX14_unplugs 85 = .ok (.istore 5, 2) := by decide +kernel
theorem dX14_unplugs_87 : decode cX14_unplugs 87 = .ok (.iload 5, 2) := by decide +kernel
theorem dX14_unplugs_89 : decode cX14_unplugs 89 = .ok (.bipush 12, 2) := by decide +kernel
theorem dX14_unplugs_91 : decode cX14_unplugs 91 = .ok (.if_icmp .ge 44, 3) := by decide +kernel
theorem dX14_unplugs_94 : decode cX14_unplugs 94 = .ok (.aload_n 0, 1) := by decide +kernel
theorem dX14_unplugs_95 : decode cX14_unplugs 95 = .ok (.getfield 18, 3) := by decide +kernel
theorem dX14_unplugs_98 : decode cX14_unplugs 98 = .ok (.iload 5, 2) := by decide +kernel
theorem dX14_unplugs_100 : decode cX14_unplugs 100 = .ok (.aaload, 1) := by decide +kernel
theorem dX14_unplugs_101 : decode cX14_unplugs 101 = .ok (.ifnull 28, 3) := by decide +kernel
theorem dX14_unplugs_104 : decode cX14_unplugs 104 = .ok (.aload_n 3, 1) := by decide +kernel
theorem dX14_unplugs_105 : decode cX14_unplugs 105 = .ok (.aload_n 0, 1) := by decide +kernel
theorem dX14_unplugs_106 : decode cX14_unplugs 106 = .ok (.getfield 18, 3) := by decide +kernel
theorem dX14_unplugs_109 : decode cX14_unplugs 109 = .ok (.iload 5, 2) := by decide +kernel
theorem dX14_unplugs_111 : decode cX14_unplugs 111 = .ok (.aaload, 1) := by decide +kernel
theorem dX14_unplugs_112 : decode cX14_unplugs 112 = .ok (.getfield 133, 3) := by decide +kernel
theorem dX14_unplugs_115 : decode cX14_unplugs 115 = .ok (.baload, 1) := by decide +kernel
theorem dX14_unplugs_116 : decode cX14_unplugs 116 = .ok (.ifCond .eq 13, 3) := by decide +kernel
theorem dX14_unplugs_119 : decode cX14_unplugs 119 = .ok (.aload_n 0, 1) := by decide +kernel
theorem dX14_unplugs_120 : decode cX14_unplugs 120 = .ok (.iload 5, 2) := by decide +kernel
theorem dX14_unplugs_122 : decode cX14_unplugs 122 = .ok (.bipush 103, 2) := by decide +kernel
theorem dX14_unplugs_124 : decode cX14_unplugs 124 = .ok (.invokevirtual 136, 3) := by decide +kernel
theorem dX14_unplugs_127 : decode cX14_unplugs 127 = .ok (.istore 6, 2) := by decide +kernel
theorem dX14_unplugs_129 : decode cX14_unplugs 129 = .ok (.iinc 5 1, 3) := by decide +kernel
theorem dX14_unplugs_132 : decode cX14_unplugs 132 = .ok (.goto (-45), 3) := by decide +kernel
theorem dX14_unplugs_135 : decode cX14_unplugs 135 = .ok (.iconst 0, 1) := by decide +kernel
theorem dX14_unplugs_136 : decode cX14_unplugs 136 = .ok (.istore 5, 2) := by decide +kernel
theorem dX14_unplugs_138 : decode cX14_unplugs 138 = .ok (.iload 5, 2) := by decide +kernel
theorem dX14_unplugs_140 : decode cX14_unplugs 140 = .ok (.aload_n 3, 1) := by decide +kernel
theorem dX14_unplugs_141 : decode cX14_unplugs 141 = .ok (.arraylength, 1) := by decide +kernel
theorem dX14_unplugs_142 : decode cX14_unplugs 142 = .ok (.if_icmp .ge 61, 3) := by decide +kernel
theorem dX14_unplugs_145 : decode cX14_unplugs 145 = .ok (.aload_n 3, 1) := by decide +kernel
theorem dX14_unplugs_146 : decode cX14_unplugs 146 = .ok (.iload 5, 2) := by decide +kernel
theorem dX14_unplugs_148 : decode cX14_unplugs 148 = .ok (.baload, 1) := by decide +kernel
theorem dX14_unplugs_149 : decode cX14_unplugs 149 = .ok (.ifCond .eq 48, 3) := by decide +kernel
theorem dX14_unplugs_152 : decode cX14_unplugs 152 = .ok (.aload_n 0, 1) := by decide +kernel
theorem dX14_unplugs_153 : decode cX14_unplugs 153 = .ok (.getfield 10, 3) := by decide +kernel
theorem dX14_unplugs_156 : decode cX14_unplugs 156 = .ok (.iload 5, 2) := by decide +kernel
theorem dX14_unplugs_158 : decode cX14_unplugs 158 = .ok (.invokevirtual 76, 3) := by decide +kernel
theorem dX14_unplugs_161 : decode cX14_unplugs 161 = .ok (.checkcast 48, 3) := by decide +kernel
theorem dX14_unplugs_164 : decode cX14_unplugs 164 = .ok (.astore 6, 2) := by decide +kernel
theorem dX14_unplugs_166 : decode cX14_unplugs 166 = .ok (.aload 6, 2) := by decide +kernel
theorem dX14_unplugs_168 : decode cX14_unplugs 168 = .ok (.bipush 117, 2) := by decide +kernel
theorem dX14_unplugs_170 : decode cX14_unplugs 170 = .ok (.putfield 53, 3) := by decide +kernel
theorem dX14_unplugs_173 : decode cX14_unplugs 173 = .ok (.aload 6, 2) := by decide +kernel
theorem dX14_unplugs_175 : decode cX14_unplugs 175 = .ok (.iconst (-1), 1) := by decide +kernel
theorem dX14_unplugs_176 : decode cX14_unplugs 176 = .ok (.putfield 80, 3) := by decide +kernel
theorem dX14_unplugs_179 : decode cX14_unplugs 179 = .ok (.aload 6, 2) := by decide +kernel
theorem dX14_unplugs_181 : decode cX14_unplugs 181 = .ok (.iconst 0, 1) := by decide +kernel
theorem dX14_unplugs_182 : decode cX14_unplugs 182 = .ok (.putfield 140, 3) := by decide +kernel
theorem dX14_unplugs_185 : decode cX14_unplugs 185 = .ok (.aload 6, 2) := by decide +kernel
theorem dX14_unplugs_187 : decode cX14_unplugs 187 = .ok (.iconst (-1), 1) := by decide +kernel
theorem dX14_unplugs_188 : decode cX14_unplugs 188 = .ok (.putfield 143, 3) := by decide +kernel
theorem dX14_unplugs_191 : decode cX14_unplugs 191 = .ok (.aload 6, 2) := by decide +kernel
theorem dX14_unplugs_193 : decode cX14_unplugs 193 = .ok (.iconst 0, 1) := by decide +kernel
theorem dX14_unplugs_194 : decode cX14_unplugs 194 = .ok (.putfield 146, 3) := by decide +kernel
theorem dX14_unplugs_197 : decode cX14_unplugs 197 = .ok (.iinc 5 1, 3) := by decide +kernel
theorem dX14_unplugs_200 : decode cX14_unplugs 200 = .ok (.goto (-62), 3) := by decide +kernel
theorem dX14_unplugs_203 : decode cX14_unplugs 203 = .ok (.iload 4, 2) := by decide +kernel
theorem dX14_unplugs_205 : decode cX14_unplugs 205 = .ok (.ireturn, 1) := by decide +kernel
set_option maxRecDepth 100000 in
set_option maxHeartbeats 4000000 in
theorem m_unplugs (l : Launch) (D : va_G) (cy : Nat → ClassId) {eda ca : Nat} {ia : Nat → Nat} {σ : SG} {K : KM} {g : GH} {n S hw : Nat} (h : Inv eda ia K g n S hw σ) (hY : nY g) (x al : Int32) (hx1 : 1 ≤ x.toInt) (hx2 : x.toInt < n) (sz : Nat) : sgM l D cy eda ca ia σ sz yX14_unplugs (Cond.code yX14_unplugs cX14_unplugs 7 (some .int) :: mWall) 9 218 13 124 [.ref (kA K), .int x, .int al] (fun v σ2 => (∃ y : Int32, v = some (.int y)) ∧ Inv eda ia K g n S hw σ2) := by
  refine sg_ofW (cc := cX14_unplugs) (maxL := 7) (ret := (some .int)) (by decide) rfl (Nat.le_of_ble_eq_true rfl) (lv := [(0, .ref (kA K)), (1, .int x), (2, .int al)]) rfl (fun p e s m below meth c ls H N hrt hnm F hB hl => ?_) sz
  have hx := F.1.1
  have hb := F.1.2.1
  have hown := F.1.2.2.2.1
  obtain ⟨z1, z2, z3⟩ := inv_sz h
  have hE6 := (inv_szE h).2
  have hnn : (sgI σ (kD K) 2).toNatClampNeg = n := by show (sgI σ (kD K) 2).toInt.toNat = n; omega
  generalize hlo : ([] : List Loc) = locs at hB ⊢
  clear hlo
  refine lv_aload_n hx hb dX14_unplugs_0 rfl (lv_at hl 0 rfl) ?_
  refine gr_X14_10 F hB dX14_unplugs_1 (inv_A h) (inv_r1 h) ?_
  refine sg_callV (ci := 4) F hB (m_size l D cy (by exact (inv_tD h).1) _) (cwV 0 F.1.2.2.2.2 (mgV (mm_3 _ (List.mem_of_getElem? (i := 18) rfl)) (mm_3 _ (List.mem_of_getElem? (i := 19) rfl)) (mm_3 _ (List.mem_of_getElem? (i := 20) rfl)) (mm_0 _ (List.mem_of_getElem? (i := 35) rfl)) (mm_3 _ (List.mem_of_getElem? (i := 16) rfl))) rfl rfl rfl ⟨rfl, by decide, by decide, by decide +kernel⟩ ⟨Nat.le_of_ble_eq_true rfl, Nat.le_of_ble_eq_true rfl⟩) rfl rfl (by decide) rfl hl.1 rfl (Nat.le_of_ble_eq_true rfl) dX14_unplugs_4 (Nat.le_of_ble_eq_true rfl) (Nat.add_le_add_right (Nat.le_of_ble_eq_true rfl) _) (inv_tD h).1 (fun H locs v σ4 N hBn hX4 hP => ?_)
  clear hB; have hB := hBn; clear hBn
  obtain ⟨rfl, rfl⟩ := hP
  refine sg_newa 11 (atype := .boolean) (ty := .boolean) (N' := n) F hB (F.1.2.2.2.2 _ (List.mem_cons_of_mem _ (mm_5 _ (List.mem_of_getElem? (i := 37) rfl)))) rfl rfl (fun C z => by cases z) rfl (fun _ => rfl) (m_nn (by omega)) hnn (by show n * 1 ≤ _; omega) (Nat.le_of_ble_eq_true rfl) (Nat.add_le_add_right (by omega) _) dX14_unplugs_7 (fun q7 H N hq7 hs7 hBn => ?_)
  clear hB; have hB := hBn; clear hBn
  obtain ⟨hQ7, tq7, nq7⟩ := sgB_nwf hB hq7 (by decide)
  have hI7 := inv_Qt h hQ7 (sg_eda F hB)
  have hBn := sgB_up (n2 := 16) hB (by omega)
  clear hB; have hB := hBn; clear hBn
  have uq : uArr g σ x al n q7 (sgNw σ q7 (100 + 11) n) := ⟨tq7, nq7, hq7⟩
  refine lv_astore_n (lv' := [(3, .ref _), (0, .ref _), (1, .int _), (2, .int _)]) hx hb dX14_unplugs_9 rfl hl (by decide) rfl (fun ls hl => ?_)
  refine lv_iconst (v := 0) hx hb dX14_unplugs_10 (by decide) ?_
  refine lv_istore (lv' := [(4, .int _), (3, .ref _), (0, .ref _), (1, .int _), (2, .int _)]) hx hb dX14_unplugs_11 hl (by decide) rfl (fun ls hl => ?_)
  refine lv_iconst (v := 0) hx hb dX14_unplugs_13 (by decide) ?_
  refine lv_istore (lv' := [(5, .int _), (4, .int _), (3, .ref _), (0, .ref _), (1, .int _), (2, .int _)]) hx hb dX14_unplugs_14 hl (by decide) rfl (fun ls hl => ?_)
  have key16 : ∃ (σ3 : SG) (k9 m9 : Int32), sgB D cy s σ σ3 H locs N 16 ∧ lv_has ls 7 [(5, .int k9), (4, .int m9), (3, .ref q7), (2, .int al), (1, .int x), (0, .ref (kA K))] ∧ Inv eda ia K g n S hw σ3 ∧ (0 ≤ k9.toInt ∧ k9.toInt ≤ n) ∧ uArr g σ x al n q7 σ3 ∧ (∀ j : Nat, (j : Int) < k9.toInt → (sgI σ3 q7 j = 1 ∨ sgI σ3 q7 j = 0) ∧ (sgI σ3 q7 j = 1 ↔ uAr g σ x al j)) ∧ cFr σ σ3 := ⟨_, _, _, hB, (lv_sub hl [0, 1, 2, 5, 4, 3] rfl), hI7, ⟨by decide, by rw [m_i0]; omega⟩, uq, fun j hj => by rw [m_i0] at hj; omega, cFr_e (eFr_Qt hQ7)⟩
  clear hB hl
  obtain ⟨σ3, k9, m9, hB, hl, hI3, hi, hr3, har, hf3⟩ := key16
  obtain ⟨d16, hd16⟩ : ∃ d : Nat, d = n - k9.toInt.toNat := ⟨_, rfl⟩
  induction d16 using Nat.strongRecOn generalizing H locs ls N σ3 k9 m9
  rename_i d16 ih16
  have hi1 := hi.1
  have hi2 := hi.2
  have hat := hr3.1
  have hrn := hr3.2.1
  have elen : (nI (sgN σ3 q7)).toInt = n := by rw [hrn]; exact nI_toInt (by omega)
  have hst : ∀ k, k < n → iHb g σ3 k = iHb g σ k ∧ iSt g σ3 k = iSt g σ k := fun k hk => by
    have t := (inv_dv h hk).2.1
    exact ⟨congrArg Int32.toInt (hf3.2.1 _ 7 (by rw [t]; decide) (by rw [t]; decide) (by rw [t]; decide)), hf3.2.1 _ 6 (by rw [t]; decide) (by rw [t]; decide) (by rw [t]; decide)⟩
  refine lv_iload hx hb dX14_unplugs_16 (lv_at hl 0 rfl) ?_
  refine lv_aload_n hx hb dX14_unplugs_18 rfl (lv_at hl 2 rfl) ?_
  refine sg_alen 11 hx hb F.2.1 hB.1 rfl dX14_unplugs_19 hat ?_
  refine lv_icmp_ge (tgt := 84) hx hb dX14_unplugs_20 (by decide) (fun c20 => ?_) (fun c20 => ?_)
  · have hi3 := i_le c20
    rw [elen] at hi3
    have hE3 := (inv_szE hI3).2
    obtain ⟨kc, hkc⟩ : ∃ kc : Nat, kc = 1 := ⟨_, rfl⟩
    refine W.widen (k := kc) (n := N) (by omega) (Nat.le_refl _) ?_
    refine lv_iconst (v := 0) hx hb dX14_unplugs_84 (by decide) ?_
    refine lv_istore (lv' := [(5, .int _), (4, .int _), (3, .ref _), (2, .int _), (1, .int _), (0, .ref _)]) hx hb dX14_unplugs_85 hl (by decide) rfl (fun ls hl => ?_)
    have key87 : ∃ (σ3 : SG) (k9 : Int32) (nc : Nat), sgB D cy s σ σ3 H locs N nc ∧ lv_has ls 7 [(5, .int k9), (4, .int m9), (3, .ref q7), (2, .int al), (1, .int x), (0, .ref (kA K))] ∧ Inv eda ia K g n S hw σ3 ∧ (0 ≤ k9.toInt ∧ k9.toInt ≤ 12) ∧ uArr g σ x al n q7 σ3 ∧ (∀ j : Nat, (j : Int) < n → (sgI σ3 q7 j = 1 ∨ sgI σ3 q7 j = 0) ∧ (sgI σ3 q7 j = 1 ↔ uAr g σ x al j)) ∧ cFr σ σ3 ∧ (kc + 2 * (6 - sgSz σ3 (kE K)) ≤ 13 ∧ nc + 18 * (6 - sgSz σ3 (kE K)) ≤ 124) ∧ ∀ j : Nat, (j : Int) < k9.toInt → ∀ p, sgR σ3 (kP K) j = some p → ¬ uAr g σ x al (sgI σ3 p 0).toInt.toNat := ⟨σ3, _, _, hB, (lv_sub hl [0, 1, 2, 3, 4, 5] rfl), hI3, ⟨by decide, by decide⟩, hr3, fun j hj => har j (by omega), hf3, ⟨by omega, by omega⟩, fun j hj => by rw [m_i0] at hj; omega⟩
    clear hB hl hkc
    obtain ⟨σ3, k9, nc, hB, hl, hI3, hi, hr3, har, hf3, hkn, hpd⟩ := key87
    obtain ⟨d87, hd87⟩ : ∃ d : Nat, d = 12 - k9.toInt.toNat := ⟨_, rfl⟩
    induction d87 using Nat.strongRecOn generalizing H locs ls N σ3 k9 nc kc
    rename_i d87 ih87
    have hi1 := hi.1
    have hi2 := hi.2
    have hat := hr3.1
    have hrn := hr3.2.1
    have hE3 := (inv_szE hI3).2
    have hst : ∀ k, k < n → iHb g σ3 k = iHb g σ k ∧ iSt g σ3 k = iSt g σ k := fun k hk => by
      have t := (inv_dv h hk).2.1
      exact ⟨congrArg Int32.toInt (hf3.2.1 _ 7 (by rw [t]; decide) (by rw [t]; decide) (by rw [t]; decide)), hf3.2.1 _ 6 (by rw [t]; decide) (by rw [t]; decide) (by rw [t]; decide)⟩
    refine lv_iload hx hb dX14_unplugs_87 (lv_at hl 0 rfl) ?_
    refine lv_bipush (v := 12) hx hb dX14_unplugs_89 (by decide) ?_
    refine lv_icmp_ge (tgt := 135) hx hb dX14_unplugs_91 (by decide) (fun c91 => ?_) (fun c91 => ?_)
    · have hi3 := i_le c91
      have m12 : (12 : Int32).toInt = 12 := rfl
      refine lv_iconst (v := 0) hx hb dX14_unplugs_135 (by decide) ?_
      refine lv_istore (lv' := [(5, .int _), (4, .int _), (3, .ref _), (2, .int _), (1, .int _), (0, .ref _)]) hx hb dX14_unplugs_136 hl (by decide) rfl (fun ls hl => ?_)
      have key138 : ∃ (σ3 : SG) (k9 : Int32), sgB D cy s σ σ3 H locs N nc ∧ lv_has ls 7 [(5, .int k9), (4, .int m9), (3, .ref q7), (2, .int al), (1, .int x), (0, .ref (kA K))] ∧ Inv eda ia K (gU g (fun a => ∃ j, j < n ∧ uAr g σ x al j ∧ a = gDv g j)) n S hw σ3 ∧ (0 ≤ k9.toInt ∧ k9.toInt ≤ n) ∧ uArr g σ x al n q7 σ3 ∧ (∀ j : Nat, (j : Int) < n → (sgI σ3 q7 j = 1 ∨ sgI σ3 q7 j = 0) ∧ (sgI σ3 q7 j = 1 ↔ uAr g σ x al j)) ∧ (∀ j : Nat, j < 12 → ∀ p, sgR σ3 (kP K) j = some p → ¬ uAr g σ x al (sgI σ3 p 0).toInt.toNat) ∧ (∀ j : Nat, j < n → ¬ uAr g σ x al j → iHb g σ3 j = iHb g σ j ∧ iSt g σ3 j = iSt g σ j) ∧ (∀ j : Nat, (j : Int) < k9.toInt → uAr g σ x al j → iHb g σ3 j = -1 ∧ iSt g σ3 j = 117) := ⟨σ3, _, hB, (lv_sub hl [0, 1, 2, 3, 4, 5] rfl), inv_Yup hI3 (fun a z => absurd z (hY a)), ⟨by decide, by rw [m_i0]; omega⟩, hr3, har, fun j hj p hp => hpd j (by omega) p hp, fun j hj _ => hst j hj, fun j hj => by rw [m_i0] at hj; omega⟩
      clear hB hl
      obtain ⟨σ3, k9, hB, hl, hI3, hi, hr3, har, hpd, hsm, hdn⟩ := key138
      obtain ⟨d138, hd138⟩ : ∃ d : Nat, d = n - k9.toInt.toNat := ⟨_, rfl⟩
      induction d138 using Nat.strongRecOn generalizing H locs ls N σ3 k9
      rename_i d138 ih138
      have hi1 := hi.1
      have hi2 := hi.2
      have hat := hr3.1
      have hrn := hr3.2.1
      have elen : (nI (sgN σ3 q7)).toInt = n := by rw [hrn]; exact nI_toInt (by omega)
      refine lv_iload hx hb dX14_unplugs_138 (lv_at hl 0 rfl) ?_
      refine lv_aload_n hx hb dX14_unplugs_140 rfl (lv_at hl 2 rfl) ?_
      refine sg_alen 11 hx hb F.2.1 hB.1 rfl dX14_unplugs_141 hat ?_
      refine lv_icmp_ge (tgt := 203) hx hb dX14_unplugs_142 (by decide) (fun c142 => ?_) (fun c142 => ?_)
      · have hi3 := i_le c142
        rw [elen] at hi3
        have hfin := inv_fin h hY hI3 (fun j hj hu => hdn j (by omega) hu)
        refine lv_iload hx hb dX14_unplugs_203 (lv_at hl 1 rfl) ?_
        exact sg_iret F hB hrt dX14_unplugs_205 (by omega) (by omega) (⟨⟨_, rfl⟩, hfin⟩)
      · have hi3 := i_nle c142
        rw [elen] at hi3
        refine lv_aload_n hx hb dX14_unplugs_145 rfl (lv_at hl 2 rfl) ?_
        refine lv_iload hx hb dX14_unplugs_146 (lv_at hl 0 rfl) ?_
        refine sg_zald hx hb F.2.1 hB.1 dX14_unplugs_148 hat (by omega) (m_ltN hrn (by omega)) (m_ltM hrn (by omega)) ?_
        refine lv_if_eq (tgt := 197) hx hb dX14_unplugs_149 (by decide) (fun c149 => ?_) (fun c149 => ?_)
        · refine lv_iinc (lv' := [(5, .int _), (4, .int _), (3, .ref _), (2, .int _), (1, .int _), (0, .ref _)]) hx hb dX14_unplugs_197 hl (k := 0) rfl rfl (by decide) rfl (fun ls hl => ?_)
          refine lv_goto (tgt := 138) hx hb dX14_unplugs_200 (by decide) ?_
          have hi3 := i_nle c142
          rw [elen] at hi3
          have e9 : (k9 + Int32.ofInt 1).toInt = k9.toInt + 1 := m_add1 (by omega) (by omega)
          first
            | (refine ih138 _ (by subst hd138; rw [e9]; omega) _ _ _ _ _ _ hB (lv_sub hl [0, 1, 2, 3, 4, 5] rfl) hI3 ⟨by rw [e9]; omega, by rw [e9]; omega⟩ hr3 har hpd hsm (fun j hj hu => ?_) rfl
               rw [e9] at hj
               by_cases ej : (j : Int) < k9.toInt
               · exact hdn j ej hu
               · obtain rfl : j = k9.toInt.toNat := by omega
                 exact absurd (((har _ (by omega)).2.mpr hu).symm.trans c149) (by decide))
            | (have nr7 : ¬ gDv g k9.toInt.toNat = q7 := fun z => by
                 have t9 : sgT σ3 (gDv g k9.toInt.toNat) = 16 := dv158
                 rw [z, hat] at t9
                 exact absurd t9 (by decide)
               obtain ⟨u1, u2, u3, u4⟩ := un_5 (g := g) (k := k9.toInt.toNat) hB
               exact ih138 _ (by subst hd138; rw [e9]; omega) _ _ _ _ _ _ hB (lv_sub hl [0, 1, 2, 3, 4, 5] rfl) hI3 ⟨by rw [e9]; omega, by rw [e9]; omega⟩ ⟨hr3.1, hr3.2.1, hr3.2.2⟩ (fun j hj => by rw [u1 q7 j (fun z => nr7 z.symm)]; exact har j hj) (fun j hj p hp => by rw [u2 p]; exact hpd j hj p hp) (fun j hj hu => by
                 have hne : gDv g j ≠ gDv g k9.toInt.toNat := fun z => hu (by rw [inv_inj h hj (by omega) z]; exact hu9)
                 unfold iHb iSt
                 rw [u1 _ 7 hne, u1 _ 6 hne]
                 exact hsm j hj hu) (fun j hj hu => by
                 rw [e9] at hj
                 by_cases ej : j = k9.toInt.toNat
                 · subst ej; exact ⟨u3, u4⟩
                 · have hne : gDv g j ≠ gDv g k9.toInt.toNat := fun z => ej (inv_inj h (by omega) (by omega) z)
                   have q := hdn j (by omega) hu
                   unfold iHb iSt at q ⊢
                   rw [u1 _ 7 hne, u1 _ 6 hne]; exact q) rfl)
        · have hu9 : uAr g σ x al k9.toInt.toNat := (har _ (by omega)).2.mp ((har _ (by omega)).1.resolve_right c149)
          refine lv_aload_n hx hb dX14_unplugs_152 rfl (lv_at hl 5 rfl) ?_
          refine gr_X14_10 F hB dX14_unplugs_153 (inv_A hI3) (inv_r1 hI3) ?_
          refine lv_iload hx hb dX14_unplugs_156 (lv_at hl 0 rfl) ?_
          refine sg_callV (ci := 4) F hB (m_getDU l D cy hI3 k9 (by omega) (by omega) _) (cwV 1 F.1.2.2.2.2 (mgV (mm_4 _ (List.mem_of_getElem? (i := 3) rfl)) (mm_4 _ (List.mem_of_getElem? (i := 4) rfl)) (mm_4 _ (List.mem_of_getElem? (i := 5) rfl)) (mm_0 _ (List.mem_of_getElem? (i := 35) rfl)) (mm_3 _ (List.mem_of_getElem? (i := 34) rfl))) rfl rfl rfl ⟨rfl, by decide, by decide, by decide +kernel⟩ ⟨Nat.le_of_ble_eq_true rfl, Nat.le_of_ble_eq_true rfl⟩) rfl rfl (by decide) rfl hl.1 rfl (Nat.le_of_ble_eq_true rfl) dX14_unplugs_158 (by show _ ≤ 13; omega) (Nat.add_le_add_right (by omega) _) (inv_tD hI3).1 (fun H locs v σ158 N hBn hX158 hP => ?_)
          clear hB; have hB := hBn; clear hBn
          obtain ⟨rfl, rfl⟩ := hP
          have dv158 : sgT σ3 (gDv g k9.toInt.toNat) = 16 := (inv_dv hI3 (k := k9.toInt.toNat) (by omega)).2.1
          refine va_castY hx hb hown (F.1.2.2.2.2 _ (List.mem_cons_of_mem _ (mm_4 _ (List.mem_of_getElem? (i := 2) rfl)))) (F.2.2.1.2.2 ("HubcascadeModel$Device", "HubcascadeModel$Device") (by decide +kernel)) (sg_recv (ci := 15) F.2.1 hB (by assumption) (by decide) rfl) dX14_unplugs_161 ?_
          refine lv_astore (lv' := [(6, .ref _), (5, .int _), (4, .int _), (3, .ref _), (2, .int _), (1, .int _), (0, .ref _)]) hx hb dX14_unplugs_164 hl (by decide) rfl (fun ls hl => ?_)
          refine lv_aload hx hb dX14_unplugs_166 (lv_at hl 0 rfl) ?_
          refine lv_bipush (v := 117) hx hb dX14_unplugs_168 (by decide) ?_
          refine pf_X14_53 F hB dX14_unplugs_170 dv158 ⟨by decide, by decide⟩ (fun H locs hBn => ?_)
          clear hB; have hB := hBn; clear hBn
          refine lv_aload hx hb dX14_unplugs_173 (lv_at hl 0 rfl) ?_
          refine lv_iconst (v := (-1)) hx hb dX14_unplugs_175 (by decide) ?_
          refine pf_X14_80 F hB dX14_unplugs_176 (by exact dv158) (fun H locs hBn => ?_)
          clear hB; have hB := hBn; clear hBn
          have hk1 : 1 ≤ k9.toInt.toNat := by
            by_cases q : k9.toInt.toNat = 0
            · rw [q] at hu9
              exact absurd hu9.2.1 (iBw_host h (by omega))
            · omega
          have hI176 : Inv eda ia K (gU g (fun a => ∃ j, j < n ∧ uAr g σ x al j ∧ a = gDv g j)) n S hw (sgPI (sgPI σ3 (gDv g k9.toInt.toNat) 6 117) (gDv g k9.toInt.toNat) 7 (-1)) := inv_un hI3 (k := k9.toInt.toNat) hk1 (by omega) ⟨_, by omega, hu9, rfl⟩ (fun j p hj hp z => hpd j hj p hp (by rw [z]; exact hu9)) (fun j hj hy hh z => by
            have hnu : ¬ uAr g σ x al j := fun w => hy ⟨j, hj, w, rfl⟩
            have e8 := (hsm j hj hnu).1
            have e7 : iHb (gU g (fun a => ∃ j, j < n ∧ uAr g σ x al j ∧ a = gDv g j)) σ3 j = iHb g σ j := e8
            rw [e7] at hh z
            exact uAr_up h hY (by omega) hj hnu hh (by rw [z]; exact hu9))
          refine lv_aload hx hb dX14_unplugs_179 (lv_at hl 0 rfl) ?_
          refine lv_iconst (v := 0) hx hb dX14_unplugs_181 (by decide) ?_
          refine pf_X14_140 F hB dX14_unplugs_182 (by exact dv158) (fun H locs hBn => ?_)
          clear hB; have hB := hBn; clear hBn
          have hI182 := inv_PIc (t := 16) hB hI176 (by exact dv158) (by unfold iCn; omega)
          refine lv_aload hx hb dX14_unplugs_185 (lv_at hl 0 rfl) ?_
          refine lv_iconst (v := (-1)) hx hb dX14_unplugs_187 (by decide) ?_
          refine pf_X14_143 F hB dX14_unplugs_188 (by exact dv158) (fun H locs hBn => ?_)
          clear hB; have hB := hBn; clear hBn
          have hI188 := inv_PIc (t := 16) hB hI182 (by exact dv158) (by unfold iCn; omega)
          refine lv_aload hx hb dX14_unplugs_191 (lv_at hl 0 rfl) ?_
          refine lv_iconst (v := 0) hx hb dX14_unplugs_193 (by decide) ?_
          refine pf_X14_146 F hB dX14_unplugs_194 (by exact dv158) (fun H locs hBn => ?_)
          clear hB; have hB := hBn; clear hBn
          have hI194 := inv_PIc (t := 16) hB hI188 (by exact dv158) (by unfold iCn; omega)
          refine lv_iinc (lv' := [(5, .int _), (6, .ref _), (4, .int _), (3, .ref _), (2, .int _), (1, .int _), (0, .ref _)]) hx hb dX14_unplugs_197 hl (k := 1) rfl rfl (by decide) rfl (fun ls hl => ?_)
          refine lv_goto (tgt := 138) hx hb dX14_unplugs_200 (by decide) ?_
          have hi3 := i_nle c142
          rw [elen] at hi3
          have e9 : (k9 + Int32.ofInt 1).toInt = k9.toInt + 1 := m_add1 (by omega) (by omega)
          first
            | (refine ih138 _ (by subst hd138; rw [e9]; omega) _ _ _ _ _ _ hB (lv_sub hl [0, 2, 3, 4, 5, 6] rfl) hI3 ⟨by rw [e9]; omega, by rw [e9]; omega⟩ hr3 har hpd hsm (fun j hj hu => ?_) rfl
               rw [e9] at hj
               by_cases ej : (j : Int) < k9.toInt
               · exact hdn j ej hu
               · obtain rfl : j = k9.toInt.toNat := by omega
                 exact absurd (((har _ (by omega)).2.mpr hu).symm.trans c149) (by decide))
            | (have nr7 : ¬ gDv g k9.toInt.toNat = q7 := fun z => by
                 have t9 : sgT σ3 (gDv g k9.toInt.toNat) = 16 := dv158
                 rw [z, hat] at t9
                 exact absurd t9 (by decide)
               obtain ⟨u1, u2, u3, u4⟩ := un_5 (g := g) (k := k9.toInt.toNat) hB
               exact ih138 _ (by subst hd138; rw [e9]; omega) _ _ _ _ _ _ hB (lv_sub hl [0, 2, 3, 4, 5, 6] rfl) hI194 ⟨by rw [e9]; omega, by rw [e9]; omega⟩ ⟨hr3.1, hr3.2.1, hr3.2.2⟩ (fun j hj => by rw [u1 q7 j (fun z => nr7 z.symm)]; exact har j hj) (fun j hj p hp => by rw [u2 p]; exact hpd j hj p hp) (fun j hj hu => by
                 have hne : gDv g j ≠ gDv g k9.toInt.toNat := fun z => hu (by rw [inv_inj h hj (by omega) z]; exact hu9)
                 unfold iHb iSt
                 rw [u1 _ 7 hne, u1 _ 6 hne]
                 exact hsm j hj hu) (fun j hj hu => by
                 rw [e9] at hj
                 by_cases ej : j = k9.toInt.toNat
                 · subst ej; exact ⟨u3, u4⟩
                 · have hne : gDv g j ≠ gDv g k9.toInt.toNat := fun z => ej (inv_inj h (by omega) (by omega) z)
                   have q := hdn j (by omega) hu
                   unfold iHb iSt at q ⊢
                   rw [u1 _ 7 hne, u1 _ 6 hne]; exact q) rfl)
    · have hi3 := i_nle c91
      have m12 : (12 : Int32).toInt = 12 := rfl
      refine lv_aload_n hx hb dX14_unplugs_94 rfl (lv_at hl 5 rfl) ?_
      refine gr_X14_18 F hB dX14_unplugs_95 (inv_A hI3) (inv_r2 hI3) ?_
      refine lv_iload hx hb dX14_unplugs_98 (lv_at hl 0 rfl) ?_
      refine sg_aald 9 hx hb F.2.1 hB.1 rfl rfl dX14_unplugs_100 (inv_tP hI3).1 (by omega) (m_ltN (n := 12) (inv_tP hI3).2 (by omega)) (m_ltM (inv_tP hI3).2 (by decide)) ?_
      refine sg_split (fun hz100 => ?_) (fun b100 hz100 => ?_)
      · skip
        refine lv_ifnullN (tgt := 129) hx hb dX14_unplugs_101 (by decide) ?_
        refine lv_iinc (lv' := [(5, .int _), (4, .int _), (3, .ref _), (2, .int _), (1, .int _), (0, .ref _)]) hx hb dX14_unplugs_129 hl (k := 0) rfl rfl (by decide) rfl (fun ls hl => ?_)
        refine lv_goto (tgt := 87) hx hb dX14_unplugs_132 (by decide) ?_
        have hi3 := i_nle c91
        have m12 : (12 : Int32).toInt = 12 := rfl
        have e9 : (k9 + Int32.ofInt 1).toInt = k9.toInt + 1 := m_add1 (by omega) (by omega)
        first
          | (refine ih87 _ (by subst hd87; rw [e9]; omega) _ _ _ _ _ _ _ _ hB (lv_sub hl [0, 1, 2, 3, 4, 5] rfl) hI3 ⟨by rw [e9]; omega, by rw [e9]; omega⟩ hr3 har hf3 hkn (fun j hj p hp => ?_) rfl
             rw [e9] at hj
             by_cases ej : (j : Int) < k9.toInt
             · exact hpd j ej p hp
             · obtain rfl : j = k9.toInt.toNat := by omega
               first
                 | (rw [hz100] at hp; cases hp; done)
                 | (rw [hz100] at hp; cases hp; exact fun w => absurd (((har _ (by omega)).2.mpr w).symm.trans c116) (by decide)))
          | (refine ih87 _ (by subst hd87; rw [e9]; omega) _ _ _ _ _ _ _ _ hB (lv_sub hl [0, 1, 2, 3, 4, 5] rfl) hI124 ⟨by rw [e9]; omega, by rw [e9]; omega⟩ ⟨tFr_T cl4.1 hat (by decide), (tFr_N cl4.1 hat (by decide)).trans hrn, hr3.2.2⟩ (fun j hj => by rw [cl4.2.1 _ j (by rw [hat]; decide) (by rw [hat]; decide) (by rw [hat]; decide)]; exact har j hj) (cFr_tr hf3 cl4) ⟨by show kc + 2 * M + _ ≤ _; omega, by omega⟩ (fun j hj p hp => ?_) rfl
             rw [e9] at hj
             by_cases ej : j = k9.toInt.toNat
             · subst ej; rw [cl1] at hp; cases hp
             · rw [cl2 j ej] at hp
               have tp9 := inv_pp hI3 (j := j) (by omega) hp
               rw [cl4.2.1 _ 0 (by rw [tp9]; decide) (by rw [tp9]; decide) (by rw [tp9]; decide)]
               exact hpd j (by omega) p hp)
      · skip
        have tp := inv_pp hI3 (j := k9.toInt.toNat) (by omega) hz100
        obtain ⟨e2, x2, ⟨pn1, pn2, -⟩, -⟩ := inv_pe hI3 tp
        obtain ⟨l1, hl1, tl1, -⟩ := inv_pl hI3 tp
        have hpp := hz100
        refine lv_ifnull hx hb dX14_unplugs_101 ?_
        refine lv_aload_n hx hb dX14_unplugs_104 rfl (lv_at hl 2 rfl) ?_
        refine lv_aload_n hx hb dX14_unplugs_105 rfl (lv_at hl 5 rfl) ?_
        refine gr_X14_18 F hB dX14_unplugs_106 (inv_A hI3) (inv_r2 hI3) ?_
        refine lv_iload hx hb dX14_unplugs_109 (lv_at hl 0 rfl) ?_
        refine sg_aaldR 9 hx hb F.2.1 hB.1 rfl rfl dX14_unplugs_111 (inv_tP hI3).1 (by omega) (m_ltN (n := 12) (inv_tP hI3).2 (by omega)) (m_ltM (inv_tP hI3).2 (by decide)) hz100 ?_
        refine gf_X14_133 F hB dX14_unplugs_112 tp ?_
        refine sg_zald hx hb F.2.1 hB.1 dX14_unplugs_115 hat (by omega) (m_ltN hrn (by omega)) (m_ltM hrn (by omega)) ?_
        refine lv_if_eq (tgt := 129) hx hb dX14_unplugs_116 (by decide) (fun c116 => ?_) (fun c116 => ?_)
        · refine lv_iinc (lv' := [(5, .int _), (4, .int _), (3, .ref _), (2, .int _), (1, .int _), (0, .ref _)]) hx hb dX14_unplugs_129 hl (k := 0) rfl rfl (by decide) rfl (fun ls hl => ?_)
          refine lv_goto (tgt := 87) hx hb dX14_unplugs_132 (by decide) ?_
          have hi3 := i_nle c91
          have m12 : (12 : Int32).toInt = 12 := rfl
          have e9 : (k9 + Int32.ofInt 1).toInt = k9.toInt + 1 := m_add1 (by omega) (by omega)
          first
            | (refine ih87 _ (by subst hd87; rw [e9]; omega) _ _ _ _ _ _ _ _ hB (lv_sub hl [0, 1, 2, 3, 4, 5] rfl) hI3 ⟨by rw [e9]; omega, by rw [e9]; omega⟩ hr3 har hf3 hkn (fun j hj p hp => ?_) rfl
               rw [e9] at hj
               by_cases ej : (j : Int) < k9.toInt
               · exact hpd j ej p hp
               · obtain rfl : j = k9.toInt.toNat := by omega
                 first
                   | (rw [hz100] at hp; cases hp; done)
                   | (rw [hz100] at hp; cases hp; exact fun w => absurd (((har _ (by omega)).2.mpr w).symm.trans c116) (by decide)))
            | (refine ih87 _ (by subst hd87; rw [e9]; omega) _ _ _ _ _ _ _ _ hB (lv_sub hl [0, 1, 2, 3, 4, 5] rfl) hI124 ⟨by rw [e9]; omega, by rw [e9]; omega⟩ ⟨tFr_T cl4.1 hat (by decide), (tFr_N cl4.1 hat (by decide)).trans hrn, hr3.2.2⟩ (fun j hj => by rw [cl4.2.1 _ j (by rw [hat]; decide) (by rw [hat]; decide) (by rw [hat]; decide)]; exact har j hj) (cFr_tr hf3 cl4) ⟨by show kc + 2 * M + _ ≤ _; omega, by omega⟩ (fun j hj p hp => ?_) rfl
               rw [e9] at hj
               by_cases ej : j = k9.toInt.toNat
               · subst ej; rw [cl1] at hp; cases hp
               · rw [cl2 j ej] at hp
                 have tp9 := inv_pp hI3 (j := j) (by omega) hp
                 rw [cl4.2.1 _ 0 (by rw [tp9]; decide) (by rw [tp9]; decide) (by rw [tp9]; decide)]
                 exact hpd j (by omega) p hp)
        · obtain ⟨M, hM⟩ : ∃ M : Nat, M = min (sgSz σ3 l1) (6 - sgSz σ3 (kE K)) := ⟨_, rfl⟩
          refine lv_aload_n hx hb dX14_unplugs_119 rfl (lv_at hl 5 rfl) ?_
          refine lv_iload hx hb dX14_unplugs_120 (lv_at hl 0 rfl) ?_
          refine lv_bipush (v := 103) hx hb dX14_unplugs_122 (by decide) ?_
          refine sg_callV (ci := 19) F hB (m_closes l D cy hI3 k9 103 (by omega) (by omega) hpp hl1 hM _) (cwV 2 F.1.2.2.2.2 (mgV (mm_6 _ (List.mem_of_getElem? (i := 1) rfl)) (mm_6 _ (List.mem_of_getElem? (i := 2) rfl)) (mm_6 _ (List.mem_of_getElem? (i := 3) rfl)) (mm_3 _ (List.mem_of_getElem? (i := 23) rfl)) (mm_5 _ (List.mem_of_getElem? (i := 36) rfl))) rfl rfl rfl ⟨rfl, by decide, by decide, by decide +kernel⟩ ⟨Nat.le_of_ble_eq_true rfl, Nat.le_of_ble_eq_true rfl⟩) rfl rfl (by decide) rfl hl.1 rfl (Nat.le_of_ble_eq_true rfl) dX14_unplugs_124 (by show _ ≤ 13; omega) (Nat.add_le_add_right (by omega) _) (inv_A hI3) (fun H locs v σ124 N hBn hX124 hP => ?_)
          clear hB; have hB := hBn; clear hBn
          obtain ⟨⟨y124, rfl⟩, hI124, cl1, cl2, cl3, cl4⟩ := hP
          refine lv_istore (lv' := [(6, .int _), (5, .int _), (4, .int _), (3, .ref _), (2, .int _), (1, .int _), (0, .ref _)]) hx hb dX14_unplugs_127 hl (by decide) rfl (fun ls hl => ?_)
          refine lv_iinc (lv' := [(5, .int _), (6, .int _), (4, .int _), (3, .ref _), (2, .int _), (1, .int _), (0, .ref _)]) hx hb dX14_unplugs_129 hl (k := 1) rfl rfl (by decide) rfl (fun ls hl => ?_)
          refine lv_goto (tgt := 87) hx hb dX14_unplugs_132 (by decide) ?_
          have hi3 := i_nle c91
          have m12 : (12 : Int32).toInt = 12 := rfl
          have e9 : (k9 + Int32.ofInt 1).toInt = k9.toInt + 1 := m_add1 (by omega) (by omega)
          first
            | (refine ih87 _ (by subst hd87; rw [e9]; omega) _ _ _ _ _ _ _ _ hB (lv_sub hl [0, 2, 3, 4, 5, 6] rfl) hI3 ⟨by rw [e9]; omega, by rw [e9]; omega⟩ hr3 har hf3 hkn (fun j hj p hp => ?_) rfl
               rw [e9] at hj
               by_cases ej : (j : Int) < k9.toInt
               · exact hpd j ej p hp
               · obtain rfl : j = k9.toInt.toNat := by omega
                 first
                   | (rw [hz100] at hp; cases hp; done)
                   | (rw [hz100] at hp; cases hp; exact fun w => absurd (((har _ (by omega)).2.mpr w).symm.trans c116) (by decide)))
            | (refine ih87 _ (by subst hd87; rw [e9]; omega) _ _ _ _ _ _ _ _ hB (lv_sub hl [0, 2, 3, 4, 5, 6] rfl) hI124 ⟨by rw [e9]; omega, by rw [e9]; omega⟩ ⟨tFr_T cl4.1 hat (by decide), (tFr_N cl4.1 hat (by decide)).trans hrn, hr3.2.2⟩ (fun j hj => by rw [cl4.2.1 _ j (by rw [hat]; decide) (by rw [hat]; decide) (by rw [hat]; decide)]; exact har j hj) (cFr_tr hf3 cl4) ⟨by show kc + 2 * M + _ ≤ _; omega, by omega⟩ (fun j hj p hp => ?_) rfl
               rw [e9] at hj
               by_cases ej : j = k9.toInt.toNat
               · subst ej; rw [cl1] at hp; cases hp
               · rw [cl2 j ej] at hp
                 have tp9 := inv_pp hI3 (j := j) (by omega) hp
                 rw [cl4.2.1 _ 0 (by rw [tp9]; decide) (by rw [tp9]; decide) (by rw [tp9]; decide)]
                 exact hpd j (by omega) p hp)
  · have hi3 := i_nle c20
    rw [elen] at hi3
    refine lv_aload_n hx hb dX14_unplugs_23 rfl (lv_at hl 2 rfl) ?_
    refine lv_iload hx hb dX14_unplugs_24 (lv_at hl 0 rfl) ?_
    refine lv_aload_n hx hb dX14_unplugs_26 rfl (lv_at hl 5 rfl) ?_
    refine lv_iload hx hb dX14_unplugs_27 (lv_at hl 0 rfl) ?_
    refine sg_callV (ci := 19) F hB (m_isPlugged l D cy hI3 k9 (by omega) (by omega) _) (cwV 1 F.1.2.2.2.2 (mgV (mm_4 _ (List.mem_of_getElem? (i := 20) rfl)) (mm_4 _ (List.mem_of_getElem? (i := 21) rfl)) (mm_4 _ (List.mem_of_getElem? (i := 22) rfl)) (mm_3 _ (List.mem_of_getElem? (i := 23) rfl)) (mm_4 _ (List.mem_of_getElem? (i := 6) rfl))) rfl rfl rfl ⟨rfl, by decide, by decide, by decide +kernel⟩ ⟨Nat.le_of_ble_eq_true rfl, Nat.le_of_ble_eq_true rfl⟩) rfl rfl (by decide) rfl hl.1 rfl (Nat.le_of_ble_eq_true rfl) dX14_unplugs_29 (Nat.le_of_ble_eq_true rfl) (Nat.add_le_add_right (Nat.le_of_ble_eq_true rfl) _) (inv_A hI3) (fun H locs v σ29 N hBn hX29 hP => ?_)
    clear hB; have hB := hBn; clear hBn
    obtain ⟨b29, rfl, rfl, hb29⟩ := hP
    refine lv_if_eq (tgt := 59) hx hb dX14_unplugs_32 (by decide) (fun c32 => ?_) (fun c32 => ?_)
    · refine lv_iconst (v := 0) hx hb dX14_unplugs_59 (by decide) ?_
      refine sg_zast hx hb F.2.1 hB.1 dX14_unplugs_60 hat (by omega) (m_ltN hrn (by omega)) (m_ltM hrn (by omega)) (by decide) (by decide) (fun H locs hs1 => ?_)
      have hBn := sgB_w hB hs1 (fun _ => rfl) (fun _ => rfl) (Nat.le_of_eq (sgPot_I (Or.inl (by rw [show sgT _ _ = _ from hat]; decide))))
      clear hB; have hB := hBn; clear hBn
      have hI60 := inv_PIc (t := 111) hB hI3 hat (by unfold iCn; omega)
      refine lv_iload hx hb dX14_unplugs_61 (lv_at hl 1 rfl) ?_
      refine lv_aload_n hx hb dX14_unplugs_63 rfl (lv_at hl 2 rfl) ?_
      refine lv_iload hx hb dX14_unplugs_64 (lv_at hl 0 rfl) ?_
      refine sg_zald hx hb F.2.1 hB.1 dX14_unplugs_66 (by exact hat) (by omega) (m_ltN hrn (by omega)) (m_ltM hrn (by omega)) ?_
      refine lv_if_eq (tgt := 74) hx hb dX14_unplugs_67 (by decide) (fun c67 => ?_) (fun c67 => ?_)
      · refine lv_iconst (v := 0) hx hb dX14_unplugs_74 (by decide) ?_
        refine lv_iadd hx hb dX14_unplugs_75 ?_
        refine lv_istore (lv' := [(4, .int _), (5, .int _), (3, .ref _), (2, .int _), (1, .int _), (0, .ref _)]) hx hb dX14_unplugs_76 hl (by decide) rfl (fun ls hl => ?_)
        refine lv_iinc (lv' := [(5, .int _), (4, .int _), (3, .ref _), (2, .int _), (1, .int _), (0, .ref _)]) hx hb dX14_unplugs_78 hl (k := 1) rfl rfl (by decide) rfl (fun ls hl => ?_)
        refine lv_goto (tgt := 16) hx hb dX14_unplugs_81 (by decide) ?_
        have e9 : (k9 + Int32.ofInt 1).toInt = k9.toInt + 1 := m_add1 (by omega) (by omega)
        refine ih16 _ (by subst hd16; rw [e9]; omega) _ _ _ _ _ _ _ hB (lv_sub hl [0, 1, 2, 3, 4, 5] rfl) hI60 ⟨by rw [e9]; omega, by rw [e9]; omega⟩ ⟨hr3.1, hr3.2.1, hr3.2.2⟩ (fun j hj => ?_) (cFr_nw hf3 hr3.2.2) rfl
        rw [e9] at hj
        have ej : j = k9.toInt.toNat ∨ (j : Int) < k9.toInt := by omega
        rcases ej with rfl | ej
        · rw [sgI_PI, if_pos ⟨rfl, rfl⟩]
          have ek : ((k9.toInt.toNat : Nat) : Int) = k9.toInt := by omega
          have hpS : iSt g σ3 k9.toInt.toNat = iSt g σ k9.toInt.toNat := (hst k9.toInt.toNat (by omega)).2
          unfold uAr
          rw [ek, ← hpS]
          have hbE := iBw_eq (x := x.toInt) h (fun k hk => (hst k hk).1) (z := k9.toInt) (by omega) (by omega)
          rw [← hbE]
          first
            | exact ⟨Or.inl rfl, ⟨fun _ => ⟨sgb_t hb29 c32, sgb_t hb39 c42, Or.inl c46⟩, fun _ => rfl⟩⟩
            | exact ⟨Or.inl rfl, ⟨fun _ => ⟨sgb_t hb29 c32, sgb_t hb39 c42, Or.inr (m_neI c52)⟩, fun _ => rfl⟩⟩
            | exact ⟨Or.inr rfl, ⟨fun z => absurd z (by decide), fun z => absurd z.1 (sgb_f hb29 c32)⟩⟩
            | exact ⟨Or.inr rfl, ⟨fun z => absurd z (by decide), fun z => absurd z.2.1 (sgb_f hb39 c42)⟩⟩
            | exact ⟨Or.inr rfl, ⟨fun z => absurd z (by decide), fun z => z.2.2.elim (fun w => absurd c46 w) (fun w => absurd (m_eqI c52) w)⟩⟩
        · rw [sgI_PI, if_neg (fun z => absurd z.2 (by omega))]
          exact har j ej
      · refine lv_iconst (v := 1) hx hb dX14_unplugs_70 (by decide) ?_
        refine lv_goto (tgt := 75) hx hb dX14_unplugs_71 (by decide) ?_
        refine lv_iadd hx hb dX14_unplugs_75 ?_
        refine lv_istore (lv' := [(4, .int _), (5, .int _), (3, .ref _), (2, .int _), (1, .int _), (0, .ref _)]) hx hb dX14_unplugs_76 hl (by decide) rfl (fun ls hl => ?_)
        refine lv_iinc (lv' := [(5, .int _), (4, .int _), (3, .ref _), (2, .int _), (1, .int _), (0, .ref _)]) hx hb dX14_unplugs_78 hl (k := 1) rfl rfl (by decide) rfl (fun ls hl => ?_)
        refine lv_goto (tgt := 16) hx hb dX14_unplugs_81 (by decide) ?_
        have e9 : (k9 + Int32.ofInt 1).toInt = k9.toInt + 1 := m_add1 (by omega) (by omega)
        refine ih16 _ (by subst hd16; rw [e9]; omega) _ _ _ _ _ _ _ hB (lv_sub hl [0, 1, 2, 3, 4, 5] rfl) hI60 ⟨by rw [e9]; omega, by rw [e9]; omega⟩ ⟨hr3.1, hr3.2.1, hr3.2.2⟩ (fun j hj => ?_) (cFr_nw hf3 hr3.2.2) rfl
        rw [e9] at hj
        have ej : j = k9.toInt.toNat ∨ (j : Int) < k9.toInt := by omega
        rcases ej with rfl | ej
        · rw [sgI_PI, if_pos ⟨rfl, rfl⟩]
          have ek : ((k9.toInt.toNat : Nat) : Int) = k9.toInt := by omega
          have hpS : iSt g σ3 k9.toInt.toNat = iSt g σ k9.toInt.toNat := (hst k9.toInt.toNat (by omega)).2
          unfold uAr
          rw [ek, ← hpS]
          have hbE := iBw_eq (x := x.toInt) h (fun k hk => (hst k hk).1) (z := k9.toInt) (by omega) (by omega)
          rw [← hbE]
          first
            | exact ⟨Or.inl rfl, ⟨fun _ => ⟨sgb_t hb29 c32, sgb_t hb39 c42, Or.inl c46⟩, fun _ => rfl⟩⟩
            | exact ⟨Or.inl rfl, ⟨fun _ => ⟨sgb_t hb29 c32, sgb_t hb39 c42, Or.inr (m_neI c52)⟩, fun _ => rfl⟩⟩
            | exact ⟨Or.inr rfl, ⟨fun z => absurd z (by decide), fun z => absurd z.1 (sgb_f hb29 c32)⟩⟩
            | exact ⟨Or.inr rfl, ⟨fun z => absurd z (by decide), fun z => absurd z.2.1 (sgb_f hb39 c42)⟩⟩
            | exact ⟨Or.inr rfl, ⟨fun z => absurd z (by decide), fun z => z.2.2.elim (fun w => absurd c46 w) (fun w => absurd (m_eqI c52) w)⟩⟩
        · rw [sgI_PI, if_neg (fun z => absurd z.2 (by omega))]
          exact har j ej
    · refine lv_aload_n hx hb dX14_unplugs_35 rfl (lv_at hl 5 rfl) ?_
      refine lv_iload hx hb dX14_unplugs_36 (lv_at hl 0 rfl) ?_
      refine lv_iload_n hx hb dX14_unplugs_38 rfl (lv_at hl 4 rfl) ?_
      refine sg_callV (ci := 19) F hB (m_isBelow l D cy hI3 k9 (by omega) (by omega) x (by omega) _) (cwV 2 F.1.2.2.2.2 (mgV (mm_5 _ (List.mem_of_getElem? (i := 38) rfl)) (mm_5 _ (List.mem_of_getElem? (i := 39) rfl)) (mm_6 _ (List.mem_of_getElem? (i := 0) rfl)) (mm_3 _ (List.mem_of_getElem? (i := 23) rfl)) (mm_4 _ (List.mem_of_getElem? (i := 7) rfl))) rfl rfl rfl ⟨rfl, by decide, by decide, by decide +kernel⟩ ⟨Nat.le_of_ble_eq_true rfl, Nat.le_of_ble_eq_true rfl⟩) rfl rfl (by decide) rfl hl.1 rfl (Nat.le_of_ble_eq_true rfl) dX14_unplugs_39 (Nat.le_of_ble_eq_true rfl) (Nat.add_le_add_right (Nat.le_of_ble_eq_true rfl) _) (inv_A hI3) (fun H locs v σ39 N hBn hX39 hP => ?_)
      clear hB; have hB := hBn; clear hBn
      obtain ⟨b39, rfl, rfl, hb39⟩ := hP
      refine lv_if_eq (tgt := 59) hx hb dX14_unplugs_42 (by decide) (fun c42 => ?_) (fun c42 => ?_)
      · refine lv_iconst (v := 0) hx hb dX14_unplugs_59 (by decide) ?_
        refine sg_zast hx hb F.2.1 hB.1 dX14_unplugs_60 hat (by omega) (m_ltN hrn (by omega)) (m_ltM hrn (by omega)) (by decide) (by decide) (fun H locs hs1 => ?_)
        have hBn := sgB_w hB hs1 (fun _ => rfl) (fun _ => rfl) (Nat.le_of_eq (sgPot_I (Or.inl (by rw [show sgT _ _ = _ from hat]; decide))))
        clear hB; have hB := hBn; clear hBn
        have hI60 := inv_PIc (t := 111) hB hI3 hat (by unfold iCn; omega)
        refine lv_iload hx hb dX14_unplugs_61 (lv_at hl 1 rfl) ?_
        refine lv_aload_n hx hb dX14_unplugs_63 rfl (lv_at hl 2 rfl) ?_
        refine lv_iload hx hb dX14_unplugs_64 (lv_at hl 0 rfl) ?_
        refine sg_zald hx hb F.2.1 hB.1 dX14_unplugs_66 (by exact hat) (by omega) (m_ltN hrn (by omega)) (m_ltM hrn (by omega)) ?_
        refine lv_if_eq (tgt := 74) hx hb dX14_unplugs_67 (by decide) (fun c67 => ?_) (fun c67 => ?_)
        · refine lv_iconst (v := 0) hx hb dX14_unplugs_74 (by decide) ?_
          refine lv_iadd hx hb dX14_unplugs_75 ?_
          refine lv_istore (lv' := [(4, .int _), (5, .int _), (3, .ref _), (2, .int _), (1, .int _), (0, .ref _)]) hx hb dX14_unplugs_76 hl (by decide) rfl (fun ls hl => ?_)
          refine lv_iinc (lv' := [(5, .int _), (4, .int _), (3, .ref _), (2, .int _), (1, .int _), (0, .ref _)]) hx hb dX14_unplugs_78 hl (k := 1) rfl rfl (by decide) rfl (fun ls hl => ?_)
          refine lv_goto (tgt := 16) hx hb dX14_unplugs_81 (by decide) ?_
          have e9 : (k9 + Int32.ofInt 1).toInt = k9.toInt + 1 := m_add1 (by omega) (by omega)
          refine ih16 _ (by subst hd16; rw [e9]; omega) _ _ _ _ _ _ _ hB (lv_sub hl [0, 1, 2, 3, 4, 5] rfl) hI60 ⟨by rw [e9]; omega, by rw [e9]; omega⟩ ⟨hr3.1, hr3.2.1, hr3.2.2⟩ (fun j hj => ?_) (cFr_nw hf3 hr3.2.2) rfl
          rw [e9] at hj
          have ej : j = k9.toInt.toNat ∨ (j : Int) < k9.toInt := by omega
          rcases ej with rfl | ej
          · rw [sgI_PI, if_pos ⟨rfl, rfl⟩]
            have ek : ((k9.toInt.toNat : Nat) : Int) = k9.toInt := by omega
            have hpS : iSt g σ3 k9.toInt.toNat = iSt g σ k9.toInt.toNat := (hst k9.toInt.toNat (by omega)).2
            unfold uAr
            rw [ek, ← hpS]
            have hbE := iBw_eq (x := x.toInt) h (fun k hk => (hst k hk).1) (z := k9.toInt) (by omega) (by omega)
            rw [← hbE]
            first
              | exact ⟨Or.inl rfl, ⟨fun _ => ⟨sgb_t hb29 c32, sgb_t hb39 c42, Or.inl c46⟩, fun _ => rfl⟩⟩
              | exact ⟨Or.inl rfl, ⟨fun _ => ⟨sgb_t hb29 c32, sgb_t hb39 c42, Or.inr (m_neI c52)⟩, fun _ => rfl⟩⟩
              | exact ⟨Or.inr rfl, ⟨fun z => absurd z (by decide), fun z => absurd z.1 (sgb_f hb29 c32)⟩⟩
              | exact ⟨Or.inr rfl, ⟨fun z => absurd z (by decide), fun z => absurd z.2.1 (sgb_f hb39 c42)⟩⟩
              | exact ⟨Or.inr rfl, ⟨fun z => absurd z (by decide), fun z => z.2.2.elim (fun w => absurd c46 w) (fun w => absurd (m_eqI c52) w)⟩⟩
          · rw [sgI_PI, if_neg (fun z => absurd z.2 (by omega))]
            exact har j ej
        · refine lv_iconst (v := 1) hx hb dX14_unplugs_70 (by decide) ?_
          refine lv_goto (tgt := 75) hx hb dX14_unplugs_71 (by decide) ?_
          refine lv_iadd hx hb dX14_unplugs_75 ?_
          refine lv_istore (lv' := [(4, .int _), (5, .int _), (3, .ref _), (2, .int _), (1, .int _), (0, .ref _)]) hx hb dX14_unplugs_76 hl (by decide) rfl (fun ls hl => ?_)
          refine lv_iinc (lv' := [(5, .int _), (4, .int _), (3, .ref _), (2, .int _), (1, .int _), (0, .ref _)]) hx hb dX14_unplugs_78 hl (k := 1) rfl rfl (by decide) rfl (fun ls hl => ?_)
          refine lv_goto (tgt := 16) hx hb dX14_unplugs_81 (by decide) ?_
          have e9 : (k9 + Int32.ofInt 1).toInt = k9.toInt + 1 := m_add1 (by omega) (by omega)
          refine ih16 _ (by subst hd16; rw [e9]; omega) _ _ _ _ _ _ _ hB (lv_sub hl [0, 1, 2, 3, 4, 5] rfl) hI60 ⟨by rw [e9]; omega, by rw [e9]; omega⟩ ⟨hr3.1, hr3.2.1, hr3.2.2⟩ (fun j hj => ?_) (cFr_nw hf3 hr3.2.2) rfl
          rw [e9] at hj
          have ej : j = k9.toInt.toNat ∨ (j : Int) < k9.toInt := by omega
          rcases ej with rfl | ej
          · rw [sgI_PI, if_pos ⟨rfl, rfl⟩]
            have ek : ((k9.toInt.toNat : Nat) : Int) = k9.toInt := by omega
            have hpS : iSt g σ3 k9.toInt.toNat = iSt g σ k9.toInt.toNat := (hst k9.toInt.toNat (by omega)).2
            unfold uAr
            rw [ek, ← hpS]
            have hbE := iBw_eq (x := x.toInt) h (fun k hk => (hst k hk).1) (z := k9.toInt) (by omega) (by omega)
            rw [← hbE]
            first
              | exact ⟨Or.inl rfl, ⟨fun _ => ⟨sgb_t hb29 c32, sgb_t hb39 c42, Or.inl c46⟩, fun _ => rfl⟩⟩
              | exact ⟨Or.inl rfl, ⟨fun _ => ⟨sgb_t hb29 c32, sgb_t hb39 c42, Or.inr (m_neI c52)⟩, fun _ => rfl⟩⟩
              | exact ⟨Or.inr rfl, ⟨fun z => absurd z (by decide), fun z => absurd z.1 (sgb_f hb29 c32)⟩⟩
              | exact ⟨Or.inr rfl, ⟨fun z => absurd z (by decide), fun z => absurd z.2.1 (sgb_f hb39 c42)⟩⟩
              | exact ⟨Or.inr rfl, ⟨fun z => absurd z (by decide), fun z => z.2.2.elim (fun w => absurd c46 w) (fun w => absurd (m_eqI c52) w)⟩⟩
          · rw [sgI_PI, if_neg (fun z => absurd z.2 (by omega))]
            exact har j ej
      · refine lv_iload_n hx hb dX14_unplugs_45 rfl (lv_at hl 3 rfl) ?_
        refine lv_if_ne (tgt := 55) hx hb dX14_unplugs_46 (by decide) (fun c46 => ?_) (fun c46 => ?_)
        · refine lv_iconst (v := 1) hx hb dX14_unplugs_55 (by decide) ?_
          refine lv_goto (tgt := 60) hx hb dX14_unplugs_56 (by decide) ?_
          refine sg_zast hx hb F.2.1 hB.1 dX14_unplugs_60 hat (by omega) (m_ltN hrn (by omega)) (m_ltM hrn (by omega)) (by decide) (by decide) (fun H locs hs1 => ?_)
          have hBn := sgB_w hB hs1 (fun _ => rfl) (fun _ => rfl) (Nat.le_of_eq (sgPot_I (Or.inl (by rw [show sgT _ _ = _ from hat]; decide))))
          clear hB; have hB := hBn; clear hBn
          have hI60 := inv_PIc (t := 111) hB hI3 hat (by unfold iCn; omega)
          refine lv_iload hx hb dX14_unplugs_61 (lv_at hl 1 rfl) ?_
          refine lv_aload_n hx hb dX14_unplugs_63 rfl (lv_at hl 2 rfl) ?_
          refine lv_iload hx hb dX14_unplugs_64 (lv_at hl 0 rfl) ?_
          refine sg_zald hx hb F.2.1 hB.1 dX14_unplugs_66 (by exact hat) (by omega) (m_ltN hrn (by omega)) (m_ltM hrn (by omega)) ?_
          refine lv_if_eq (tgt := 74) hx hb dX14_unplugs_67 (by decide) (fun c67 => ?_) (fun c67 => ?_)
          · refine lv_iconst (v := 0) hx hb dX14_unplugs_74 (by decide) ?_
            refine lv_iadd hx hb dX14_unplugs_75 ?_
            refine lv_istore (lv' := [(4, .int _), (5, .int _), (3, .ref _), (2, .int _), (1, .int _), (0, .ref _)]) hx hb dX14_unplugs_76 hl (by decide) rfl (fun ls hl => ?_)
            refine lv_iinc (lv' := [(5, .int _), (4, .int _), (3, .ref _), (2, .int _), (1, .int _), (0, .ref _)]) hx hb dX14_unplugs_78 hl (k := 1) rfl rfl (by decide) rfl (fun ls hl => ?_)
            refine lv_goto (tgt := 16) hx hb dX14_unplugs_81 (by decide) ?_
            have e9 : (k9 + Int32.ofInt 1).toInt = k9.toInt + 1 := m_add1 (by omega) (by omega)
            refine ih16 _ (by subst hd16; rw [e9]; omega) _ _ _ _ _ _ _ hB (lv_sub hl [0, 1, 2, 3, 4, 5] rfl) hI60 ⟨by rw [e9]; omega, by rw [e9]; omega⟩ ⟨hr3.1, hr3.2.1, hr3.2.2⟩ (fun j hj => ?_) (cFr_nw hf3 hr3.2.2) rfl
            rw [e9] at hj
            have ej : j = k9.toInt.toNat ∨ (j : Int) < k9.toInt := by omega
            rcases ej with rfl | ej
            · rw [sgI_PI, if_pos ⟨rfl, rfl⟩]
              have ek : ((k9.toInt.toNat : Nat) : Int) = k9.toInt := by omega
              have hpS : iSt g σ3 k9.toInt.toNat = iSt g σ k9.toInt.toNat := (hst k9.toInt.toNat (by omega)).2
              unfold uAr
              rw [ek, ← hpS]
              have hbE := iBw_eq (x := x.toInt) h (fun k hk => (hst k hk).1) (z := k9.toInt) (by omega) (by omega)
              rw [← hbE]
              first
                | exact ⟨Or.inl rfl, ⟨fun _ => ⟨sgb_t hb29 c32, sgb_t hb39 c42, Or.inl c46⟩, fun _ => rfl⟩⟩
                | exact ⟨Or.inl rfl, ⟨fun _ => ⟨sgb_t hb29 c32, sgb_t hb39 c42, Or.inr (m_neI c52)⟩, fun _ => rfl⟩⟩
                | exact ⟨Or.inr rfl, ⟨fun z => absurd z (by decide), fun z => absurd z.1 (sgb_f hb29 c32)⟩⟩
                | exact ⟨Or.inr rfl, ⟨fun z => absurd z (by decide), fun z => absurd z.2.1 (sgb_f hb39 c42)⟩⟩
                | exact ⟨Or.inr rfl, ⟨fun z => absurd z (by decide), fun z => z.2.2.elim (fun w => absurd c46 w) (fun w => absurd (m_eqI c52) w)⟩⟩
            · rw [sgI_PI, if_neg (fun z => absurd z.2 (by omega))]
              exact har j ej
          · refine lv_iconst (v := 1) hx hb dX14_unplugs_70 (by decide) ?_
            refine lv_goto (tgt := 75) hx hb dX14_unplugs_71 (by decide) ?_
            refine lv_iadd hx hb dX14_unplugs_75 ?_
            refine lv_istore (lv' := [(4, .int _), (5, .int _), (3, .ref _), (2, .int _), (1, .int _), (0, .ref _)]) hx hb dX14_unplugs_76 hl (by decide) rfl (fun ls hl => ?_)
            refine lv_iinc (lv' := [(5, .int _), (4, .int _), (3, .ref _), (2, .int _), (1, .int _), (0, .ref _)]) hx hb dX14_unplugs_78 hl (k := 1) rfl rfl (by decide) rfl (fun ls hl => ?_)
            refine lv_goto (tgt := 16) hx hb dX14_unplugs_81 (by decide) ?_
            have e9 : (k9 + Int32.ofInt 1).toInt = k9.toInt + 1 := m_add1 (by omega) (by omega)
            refine ih16 _ (by subst hd16; rw [e9]; omega) _ _ _ _ _ _ _ hB (lv_sub hl [0, 1, 2, 3, 4, 5] rfl) hI60 ⟨by rw [e9]; omega, by rw [e9]; omega⟩ ⟨hr3.1, hr3.2.1, hr3.2.2⟩ (fun j hj => ?_) (cFr_nw hf3 hr3.2.2) rfl
            rw [e9] at hj
            have ej : j = k9.toInt.toNat ∨ (j : Int) < k9.toInt := by omega
            rcases ej with rfl | ej
            · rw [sgI_PI, if_pos ⟨rfl, rfl⟩]
              have ek : ((k9.toInt.toNat : Nat) : Int) = k9.toInt := by omega
              have hpS : iSt g σ3 k9.toInt.toNat = iSt g σ k9.toInt.toNat := (hst k9.toInt.toNat (by omega)).2
              unfold uAr
              rw [ek, ← hpS]
              have hbE := iBw_eq (x := x.toInt) h (fun k hk => (hst k hk).1) (z := k9.toInt) (by omega) (by omega)
              rw [← hbE]
              first
                | exact ⟨Or.inl rfl, ⟨fun _ => ⟨sgb_t hb29 c32, sgb_t hb39 c42, Or.inl c46⟩, fun _ => rfl⟩⟩
                | exact ⟨Or.inl rfl, ⟨fun _ => ⟨sgb_t hb29 c32, sgb_t hb39 c42, Or.inr (m_neI c52)⟩, fun _ => rfl⟩⟩
                | exact ⟨Or.inr rfl, ⟨fun z => absurd z (by decide), fun z => absurd z.1 (sgb_f hb29 c32)⟩⟩
                | exact ⟨Or.inr rfl, ⟨fun z => absurd z (by decide), fun z => absurd z.2.1 (sgb_f hb39 c42)⟩⟩
                | exact ⟨Or.inr rfl, ⟨fun z => absurd z (by decide), fun z => z.2.2.elim (fun w => absurd c46 w) (fun w => absurd (m_eqI c52) w)⟩⟩
            · rw [sgI_PI, if_neg (fun z => absurd z.2 (by omega))]
              exact har j ej
        · refine lv_iload hx hb dX14_unplugs_49 (lv_at hl 0 rfl) ?_
          refine lv_iload_n hx hb dX14_unplugs_51 rfl (lv_at hl 4 rfl) ?_
          refine lv_icmp_eq (tgt := 59) hx hb dX14_unplugs_52 (by decide) (fun c52 => ?_) (fun c52 => ?_)
          · refine lv_iconst (v := 0) hx hb dX14_unplugs_59 (by decide) ?_
            refine sg_zast hx hb F.2.1 hB.1 dX14_unplugs_60 hat (by omega) (m_ltN hrn (by omega)) (m_ltM hrn (by omega)) (by decide) (by decide) (fun H locs hs1 => ?_)
            have hBn := sgB_w hB hs1 (fun _ => rfl) (fun _ => rfl) (Nat.le_of_eq (sgPot_I (Or.inl (by rw [show sgT _ _ = _ from hat]; decide))))
            clear hB; have hB := hBn; clear hBn
            have hI60 := inv_PIc (t := 111) hB hI3 hat (by unfold iCn; omega)
            refine lv_iload hx hb dX14_unplugs_61 (lv_at hl 1 rfl) ?_
            refine lv_aload_n hx hb dX14_unplugs_63 rfl (lv_at hl 2 rfl) ?_
            refine lv_iload hx hb dX14_unplugs_64 (lv_at hl 0 rfl) ?_
            refine sg_zald hx hb F.2.1 hB.1 dX14_unplugs_66 (by exact hat) (by omega) (m_ltN hrn (by omega)) (m_ltM hrn (by omega)) ?_
            refine lv_if_eq (tgt := 74) hx hb dX14_unplugs_67 (by decide) (fun c67 => ?_) (fun c67 => ?_)
            · refine lv_iconst (v := 0) hx hb dX14_unplugs_74 (by decide) ?_
              refine lv_iadd hx hb dX14_unplugs_75 ?_
              refine lv_istore (lv' := [(4, .int _), (5, .int _), (3, .ref _), (2, .int _), (1, .int _), (0, .ref _)]) hx hb dX14_unplugs_76 hl (by decide) rfl (fun ls hl => ?_)
              refine lv_iinc (lv' := [(5, .int _), (4, .int _), (3, .ref _), (2, .int _), (1, .int _), (0, .ref _)]) hx hb dX14_unplugs_78 hl (k := 1) rfl rfl (by decide) rfl (fun ls hl => ?_)
              refine lv_goto (tgt := 16) hx hb dX14_unplugs_81 (by decide) ?_
              have e9 : (k9 + Int32.ofInt 1).toInt = k9.toInt + 1 := m_add1 (by omega) (by omega)
              refine ih16 _ (by subst hd16; rw [e9]; omega) _ _ _ _ _ _ _ hB (lv_sub hl [0, 1, 2, 3, 4, 5] rfl) hI60 ⟨by rw [e9]; omega, by rw [e9]; omega⟩ ⟨hr3.1, hr3.2.1, hr3.2.2⟩ (fun j hj => ?_) (cFr_nw hf3 hr3.2.2) rfl
              rw [e9] at hj
              have ej : j = k9.toInt.toNat ∨ (j : Int) < k9.toInt := by omega
              rcases ej with rfl | ej
              · rw [sgI_PI, if_pos ⟨rfl, rfl⟩]
                have ek : ((k9.toInt.toNat : Nat) : Int) = k9.toInt := by omega
                have hpS : iSt g σ3 k9.toInt.toNat = iSt g σ k9.toInt.toNat := (hst k9.toInt.toNat (by omega)).2
                unfold uAr
                rw [ek, ← hpS]
                have hbE := iBw_eq (x := x.toInt) h (fun k hk => (hst k hk).1) (z := k9.toInt) (by omega) (by omega)
                rw [← hbE]
                first
                  | exact ⟨Or.inl rfl, ⟨fun _ => ⟨sgb_t hb29 c32, sgb_t hb39 c42, Or.inl c46⟩, fun _ => rfl⟩⟩
                  | exact ⟨Or.inl rfl, ⟨fun _ => ⟨sgb_t hb29 c32, sgb_t hb39 c42, Or.inr (m_neI c52)⟩, fun _ => rfl⟩⟩
                  | exact ⟨Or.inr rfl, ⟨fun z => absurd z (by decide), fun z => absurd z.1 (sgb_f hb29 c32)⟩⟩
                  | exact ⟨Or.inr rfl, ⟨fun z => absurd z (by decide), fun z => absurd z.2.1 (sgb_f hb39 c42)⟩⟩
                  | exact ⟨Or.inr rfl, ⟨fun z => absurd z (by decide), fun z => z.2.2.elim (fun w => absurd c46 w) (fun w => absurd (m_eqI c52) w)⟩⟩
              · rw [sgI_PI, if_neg (fun z => absurd z.2 (by omega))]
                exact har j ej
            · refine lv_iconst (v := 1) hx hb dX14_unplugs_70 (by decide) ?_
              refine lv_goto (tgt := 75) hx hb dX14_unplugs_71 (by decide) ?_
              refine lv_iadd hx hb dX14_unplugs_75 ?_
              refine lv_istore (lv' := [(4, .int _), (5, .int _), (3, .ref _), (2, .int _), (1, .int _), (0, .ref _)]) hx hb dX14_unplugs_76 hl (by decide) rfl (fun ls hl => ?_)
              refine lv_iinc (lv' := [(5, .int _), (4, .int _), (3, .ref _), (2, .int _), (1, .int _), (0, .ref _)]) hx hb dX14_unplugs_78 hl (k := 1) rfl rfl (by decide) rfl (fun ls hl => ?_)
              refine lv_goto (tgt := 16) hx hb dX14_unplugs_81 (by decide) ?_
              have e9 : (k9 + Int32.ofInt 1).toInt = k9.toInt + 1 := m_add1 (by omega) (by omega)
              refine ih16 _ (by subst hd16; rw [e9]; omega) _ _ _ _ _ _ _ hB (lv_sub hl [0, 1, 2, 3, 4, 5] rfl) hI60 ⟨by rw [e9]; omega, by rw [e9]; omega⟩ ⟨hr3.1, hr3.2.1, hr3.2.2⟩ (fun j hj => ?_) (cFr_nw hf3 hr3.2.2) rfl
              rw [e9] at hj
              have ej : j = k9.toInt.toNat ∨ (j : Int) < k9.toInt := by omega
              rcases ej with rfl | ej
              · rw [sgI_PI, if_pos ⟨rfl, rfl⟩]
                have ek : ((k9.toInt.toNat : Nat) : Int) = k9.toInt := by omega
                have hpS : iSt g σ3 k9.toInt.toNat = iSt g σ k9.toInt.toNat := (hst k9.toInt.toNat (by omega)).2
                unfold uAr
                rw [ek, ← hpS]
                have hbE := iBw_eq (x := x.toInt) h (fun k hk => (hst k hk).1) (z := k9.toInt) (by omega) (by omega)
                rw [← hbE]
                first
                  | exact ⟨Or.inl rfl, ⟨fun _ => ⟨sgb_t hb29 c32, sgb_t hb39 c42, Or.inl c46⟩, fun _ => rfl⟩⟩
                  | exact ⟨Or.inl rfl, ⟨fun _ => ⟨sgb_t hb29 c32, sgb_t hb39 c42, Or.inr (m_neI c52)⟩, fun _ => rfl⟩⟩
                  | exact ⟨Or.inr rfl, ⟨fun z => absurd z (by decide), fun z => absurd z.1 (sgb_f hb29 c32)⟩⟩
                  | exact ⟨Or.inr rfl, ⟨fun z => absurd z (by decide), fun z => absurd z.2.1 (sgb_f hb39 c42)⟩⟩
                  | exact ⟨Or.inr rfl, ⟨fun z => absurd z (by decide), fun z => z.2.2.elim (fun w => absurd c46 w) (fun w => absurd (m_eqI c52) w)⟩⟩
              · rw [sgI_PI, if_neg (fun z => absurd z.2 (by omega))]
                exact har j ej
          · refine lv_iconst (v := 1) hx hb dX14_unplugs_55 (by decide) ?_
            refine lv_goto (tgt := 60) hx hb dX14_unplugs_56 (by decide) ?_
            refine sg_zast hx hb F.2.1 hB.1 dX14_unplugs_60 hat (by omega) (m_ltN hrn (by omega)) (m_ltM hrn (by omega)) (by decide) (by decide) (fun H locs hs1 => ?_)
            have hBn := sgB_w hB hs1 (fun _ => rfl) (fun _ => rfl) (Nat.le_of_eq (sgPot_I (Or.inl (by rw [show sgT _ _ = _ from hat]; decide))))
            clear hB; have hB := hBn; clear hBn
            have hI60 := inv_PIc (t := 111) hB hI3 hat (by unfold iCn; omega)
            refine lv_iload hx hb dX14_unplugs_61 (lv_at hl 1 rfl) ?_
            refine lv_aload_n hx hb dX14_unplugs_63 rfl (lv_at hl 2 rfl) ?_
            refine lv_iload hx hb dX14_unplugs_64 (lv_at hl 0 rfl) ?_
            refine sg_zald hx hb F.2.1 hB.1 dX14_unplugs_66 (by exact hat) (by omega) (m_ltN hrn (by omega)) (m_ltM hrn (by omega)) ?_
            refine lv_if_eq (tgt := 74) hx hb dX14_unplugs_67 (by decide) (fun c67 => ?_) (fun c67 => ?_)
            · refine lv_iconst (v := 0) hx hb dX14_unplugs_74 (by decide) ?_
              refine lv_iadd hx hb dX14_unplugs_75 ?_
              refine lv_istore (lv' := [(4, .int _), (5, .int _), (3, .ref _), (2, .int _), (1, .int _), (0, .ref _)]) hx hb dX14_unplugs_76 hl (by decide) rfl (fun ls hl => ?_)
              refine lv_iinc (lv' := [(5, .int _), (4, .int _), (3, .ref _), (2, .int _), (1, .int _), (0, .ref _)]) hx hb dX14_unplugs_78 hl (k := 1) rfl rfl (by decide) rfl (fun ls hl => ?_)
              refine lv_goto (tgt := 16) hx hb dX14_unplugs_81 (by decide) ?_
              have e9 : (k9 + Int32.ofInt 1).toInt = k9.toInt + 1 := m_add1 (by omega) (by omega)
              refine ih16 _ (by subst hd16; rw [e9]; omega) _ _ _ _ _ _ _ hB (lv_sub hl [0, 1, 2, 3, 4, 5] rfl) hI60 ⟨by rw [e9]; omega, by rw [e9]; omega⟩ ⟨hr3.1, hr3.2.1, hr3.2.2⟩ (fun j hj => ?_) (cFr_nw hf3 hr3.2.2) rfl
              rw [e9] at hj
              have ej : j = k9.toInt.toNat ∨ (j : Int) < k9.toInt := by omega
              rcases ej with rfl | ej
              · rw [sgI_PI, if_pos ⟨rfl, rfl⟩]
                have ek : ((k9.toInt.toNat : Nat) : Int) = k9.toInt := by omega
                have hpS : iSt g σ3 k9.toInt.toNat = iSt g σ k9.toInt.toNat := (hst k9.toInt.toNat (by omega)).2
                unfold uAr
                rw [ek, ← hpS]
                have hbE := iBw_eq (x := x.toInt) h (fun k hk => (hst k hk).1) (z := k9.toInt) (by omega) (by omega)
                rw [← hbE]
                first
                  | exact ⟨Or.inl rfl, ⟨fun _ => ⟨sgb_t hb29 c32, sgb_t hb39 c42, Or.inl c46⟩, fun _ => rfl⟩⟩
                  | exact ⟨Or.inl rfl, ⟨fun _ => ⟨sgb_t hb29 c32, sgb_t hb39 c42, Or.inr (m_neI c52)⟩, fun _ => rfl⟩⟩
                  | exact ⟨Or.inr rfl, ⟨fun z => absurd z (by decide), fun z => absurd z.1 (sgb_f hb29 c32)⟩⟩
                  | exact ⟨Or.inr rfl, ⟨fun z => absurd z (by decide), fun z => absurd z.2.1 (sgb_f hb39 c42)⟩⟩
                  | exact ⟨Or.inr rfl, ⟨fun z => absurd z (by decide), fun z => z.2.2.elim (fun w => absurd c46 w) (fun w => absurd (m_eqI c52) w)⟩⟩
              · rw [sgI_PI, if_neg (fun z => absurd z.2 (by omega))]
                exact har j ej
            · refine lv_iconst (v := 1) hx hb dX14_unplugs_70 (by decide) ?_
              refine lv_goto (tgt := 75) hx hb dX14_unplugs_71 (by decide) ?_
              refine lv_iadd hx hb dX14_unplugs_75 ?_
              refine lv_istore (lv' := [(4, .int _), (5, .int _), (3, .ref _), (2, .int _), (1, .int _), (0, .ref _)]) hx hb dX14_unplugs_76 hl (by decide) rfl (fun ls hl => ?_)
              refine lv_iinc (lv' := [(5, .int _), (4, .int _), (3, .ref _), (2, .int _), (1, .int _), (0, .ref _)]) hx hb dX14_unplugs_78 hl (k := 1) rfl rfl (by decide) rfl (fun ls hl => ?_)
              refine lv_goto (tgt := 16) hx hb dX14_unplugs_81 (by decide) ?_
              have e9 : (k9 + Int32.ofInt 1).toInt = k9.toInt + 1 := m_add1 (by omega) (by omega)
              refine ih16 _ (by subst hd16; rw [e9]; omega) _ _ _ _ _ _ _ hB (lv_sub hl [0, 1, 2, 3, 4, 5] rfl) hI60 ⟨by rw [e9]; omega, by rw [e9]; omega⟩ ⟨hr3.1, hr3.2.1, hr3.2.2⟩ (fun j hj => ?_) (cFr_nw hf3 hr3.2.2) rfl
              rw [e9] at hj
              have ej : j = k9.toInt.toNat ∨ (j : Int) < k9.toInt := by omega
              rcases ej with rfl | ej
              · rw [sgI_PI, if_pos ⟨rfl, rfl⟩]
                have ek : ((k9.toInt.toNat : Nat) : Int) = k9.toInt := by omega
                have hpS : iSt g σ3 k9.toInt.toNat = iSt g σ k9.toInt.toNat := (hst k9.toInt.toNat (by omega)).2
                unfold uAr
                rw [ek, ← hpS]
                have hbE := iBw_eq (x := x.toInt) h (fun k hk => (hst k hk).1) (z := k9.toInt) (by omega) (by omega)
                rw [← hbE]
                first
                  | exact ⟨Or.inl rfl, ⟨fun _ => ⟨sgb_t hb29 c32, sgb_t hb39 c42, Or.inl c46⟩, fun _ => rfl⟩⟩
                  | exact ⟨Or.inl rfl, ⟨fun _ => ⟨sgb_t hb29 c32, sgb_t hb39 c42, Or.inr (m_neI c52)⟩, fun _ => rfl⟩⟩
                  | exact ⟨Or.inr rfl, ⟨fun z => absurd z (by decide), fun z => absurd z.1 (sgb_f hb29 c32)⟩⟩
                  | exact ⟨Or.inr rfl, ⟨fun z => absurd z (by decide), fun z => absurd z.2.1 (sgb_f hb39 c42)⟩⟩
                  | exact ⟨Or.inr rfl, ⟨fun z => absurd z (by decide), fun z => z.2.2.elim (fun w => absurd c46 w) (fun w => absurd (m_eqI c52) w)⟩⟩
              · rw [sgI_PI, if_neg (fun z => absurd z.2 (by omega))]
                exact har j ej
end MM23
