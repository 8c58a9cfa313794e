section CSI3
/-! p54: the invariant behind the checker's contracts, and behind single devices' and endpoints' writes -/
variable {cy : Nat → ClassId} {ad τ : List Nat} {Y : CY} {σ σ1 σ2 σ3 σ26 : SG} {B B2 : Int} {i j k h t a e d n ci : Nat} {x f g : Int32} {M : List (Nat × Nat × Nat)}
theorem kp_Ik {kd : Nat} (h : VT cy ad τ σ) (h2 : VT cy ad τ σ2) (hk : vi_kept τ M (cwL cy ad σ) (cwL cy ad σ2)) (ha : sgT σ a = ci + 1) (h1 : ci + 1 < 100) (ht : (sgC ci)[k]? = some t) (h3 : t < 3) (hd : ∃ q : Nat, τ[q]? = some kd ∧ ad[q]? = some a) (hM : (ci, k, kd) ∉ M) : sgI σ2 a k = sgI σ a k := by
  obtain ⟨q, g2, g1⟩ := hd
  have e1 : (cwL cy ad σ)[q]? = some (a, .inr (ci, sgVs σ a 0 (sgC ci))) := by rw [cwL_at g1, sgE_ob ha h1]
  have e2 : (cwL cy ad σ2)[q]? = some (a, .inr (ci, sgVs σ2 a 0 (sgC ci))) := by rw [cwL_at g1, sgE_ob ((kp_T h h2 (by omega)).1.trans ha) h1]
  obtain ⟨v1, x1, -, x3⟩ := hk.2.2.1 q kd a ci _ g2 e1
  have x4 := (Prod.mk.inj (Option.some.inj (x1.symm.trans e2))).2
  have x5 : v1 = sgVs σ2 a 0 (sgC ci) := (Prod.mk.inj (Sum.inr.inj x4)).2
  have x6 := x3 k hM
  rw [x5, sgVs_at ht, sgVs_at ht] at x6
  have x7 := Option.some.inj x6
  rw [Nat.zero_add] at x7
  match t, h3, x7 with
  | 0, _, h => exact Value.int.inj h
  | 1, _, h => exact Value.int.inj h
  | 2, _, h => exact Value.int.inj h
/-- fields of the invariant, by class and field -/
def siL : List (Nat × Nat) := [(6, 7), (6, 8), (6, 10), (6, 11), (6, 12), (6, 13), (14, 1), (14, 7), (10, 1), (10, 2), (10, 4), (10, 5), (10, 12), (10, 13), (7, 0), (7, 1), (7, 3), (7, 6), (12, 1), (12, 2)]
def SIM (M : List (Nat × Nat × Nat)) : Bool := M.all fun q => !(siL.contains (q.1, q.2.1)) && !(q == (5, 3, 3)) && !(q == (200, 21, 0)) && !(q == (200, 13, 0))
theorem SIM_f {c f : Nat} (h : SIM M = true) (hc : siL.contains (c, f) = true) : ∀ d : Nat, (c, f, d) ∉ M := by
  intro d hd
  have h1 := List.all_eq_true.mp h _ hd
  have h2 : (!(siL.contains (c, f)) && !((c, f, d) == (5, 3, 3)) && !((c, f, d) == (200, 21, 0)) && !((c, f, d) == (200, 13, 0))) = true := h1
  rw [hc] at h2
  simp at h2
theorem SIM_q {q : Nat × Nat × Nat} (h : SIM M = true) (hq : q = (5, 3, 3) ∨ q = (200, 21, 0) ∨ q = (200, 13, 0)) : q ∉ M := by
  intro hd
  have h1 := List.all_eq_true.mp h _ hd
  rcases hq with rfl | rfl | rfl <;> simp at h1
theorem SI_kept (hV : VL cy ad τ Y σ) (hV2 : VL cy ad τ Y σ2) (hk : vi_kept τ M (cwL cy ad σ) (cwL cy ad σ2)) (hM : SIM M = true) (h : SI Y σ B) : SI Y σ2 B := by
  obtain ⟨LX, LD, Ld, LE, Le, LP9, Lp, Lt, LU, LA, Lz⟩ := hV.2
  have fI : ∀ {ci k t}, siL.contains (ci, k) = true → ci + 1 < 100 → (sgC ci)[k]? = some t → t < 3 → agI σ σ2 (ci + 1) k := fun q1 q2 q3 q4 a ha => kp_I hV.1 hV2.1 hk ha q2 q3 q4 (fun d _ => SIM_f hM q1 d)
  have fR : ∀ {ci k}, siL.contains (ci, k) = true → ci + 1 < 100 → (sgC ci)[k]? = some 3 → agR σ σ2 (ci + 1) k := fun q1 q2 q3 a ha => kp_R hV.1 hV2.1 hk ha q2 q3 (fun d _ => SIM_f hM q1 d)
  obtain ⟨b1, x1, -, x2⟩ := VT_nn (ci := 13) (k := 0) (kd := 21) hV.1 LU.1 (by decide) rfl (by decide +kernel)
  obtain ⟨b2, y1, -, y2⟩ := VT_nn (ci := 13) (k := 1) (kd := 13) hV.1 LU.1 (by decide) rfl (by decide +kernel)
  have e1 : b1 = yh Y := Option.some.inj (x1.symm.trans LU.2.1)
  have e2 : b2 = yk Y := Option.some.inj (y1.symm.trans LU.2.2)
  rw [e1] at x2
  rw [e2] at y2
  refine SI_eq hV h (fun k hk => ?_) (fR (ci := 6) rfl (by decide) rfl) (fI (ci := 14) rfl (by decide) rfl (by decide)) (fI (ci := 14) rfl (by decide) rfl (by decide)) (fun k hk => ?_) (fun k hk => ?_) (fun k hk => ?_) (fun k hk => ?_) (fun i k hi hk9 => ?_) (fun j => ?_) (fun j => ?_)
  · rcases hk with rfl | rfl | rfl | rfl | rfl <;> exact fI (ci := 6) rfl (by decide) rfl (by decide)
  · rcases hk with rfl | rfl <;> exact fR (ci := 10) rfl (by decide) rfl
  · rcases hk with rfl | rfl | rfl | rfl <;> exact fI (ci := 10) rfl (by decide) rfl (by decide)
  · rcases hk with rfl | rfl | rfl | rfl <;> exact fI (ci := 7) rfl (by decide) rfl (by decide)
  · rcases hk with rfl | rfl <;> exact fI (ci := 12) rfl (by decide) rfl (by decide)
  · obtain ⟨te, re, tr⟩ := Le i k hi hk9
    obtain ⟨b3, z1, -, z2⟩ := VT_nn (ci := 7) (k := 7) (kd := 3) hV.1 te (by decide) rfl (by decide +kernel)
    have e3 : b3 = yr Y i k := Option.some.inj (z1.symm.trans re)
    rw [e3] at z2
    exact kp_Ik (ci := 5) (k := 3) (t := 0) hV.1 hV2.1 hk tr (by decide) rfl (by decide) z2 (SIM_q hM (Or.inl rfl))
  · rw [kp_aI (t := 0) (kd := 21) hV.1 hV2.1 hk LA.1 rfl x2 (SIM_q hM (Or.inr (Or.inl rfl)))]
  · rw [kp_aI (t := 0) (kd := 13) hV.1 hV2.1 hk LA.2.2.1 rfl y2 (SIM_q hM (Or.inr (Or.inr rfl)))]
theorem si_of (_ : VL cy ad τ Y σ) (h : SI Y σ B) : SI Y σ B := h
/-- a pipe's device is plugged -/
theorem siP_d (h : siP Y σ) (hL : LY Y σ) (hj : j < 12) (hi : i < 16) (hs : sgI σ (yd Y i) 7 = 117) : ∀ d, sgR σ (yp Y j) 1 = some d → d ≠ yd Y i := by
  intro d hd hz
  obtain ⟨-, -, i9, k9, w1, -, w3, -, w5⟩ := siP_e h hj hd
  have := hL.2.2.2.2.2.2.2.2.2.2.1 i9 i w1 hi (w3.symm.trans hz)
  subst this
  exact w5 hs
theorem siP_n (h : siP Y σ) (hL : LY Y σ) (hj : j < 12) (hi : i < 16) (hk : k < 3) (hs : sgI σ (yd Y i) 7 = 117) : ∀ e, sgR σ (yp Y j) 2 = some e → e ≠ ye Y i k := by
  intro e he hz
  rcases h j hj with ⟨-, q, -⟩ | ⟨i9, k9, w1, w2, w3, w4, w5⟩
  · rw [q] at he; cases he
  · rw [w4] at he
    cases he
    have := (hL.2.2.2.2.2.2.2.2.2.2.2.1 i9 k9 i k w1 w2 hi hk hz).1
    subst this
    exact w5 hs
/-- an unplugged device's speed -/
theorem SI_ru (hV : VL cy ad τ Y σ) (h : SI Y σ B) (hi : i < 16) (hs : sgI σ (yd Y i) 7 = 117) : SI Y (sgPI σ (yd Y i) 11 x) B := by
  have tg := (hV.2.2.2.1 i hi).1
  have eo : ∀ b m, m ≠ 11 → sgI (sgPI σ (yd Y i) 11 x) b m = sgI σ b m := fun b m hm => c_nk hm
  have ea : ∀ b, sgT σ b = 100 → ∀ m, sgI (sgPI σ (yd Y i) 11 x) b m = sgI σ b m := fun b hb m => (ag_I (Or.inl (by rw [tg]; decide)) : agI σ _ 100 m) _ hb
  exact ⟨siT_eq hV.2 h.1 (fun _ _ => eo _ _ (by decide)) (fun _ _ => eo _ _ (by decide)) (fun _ _ => eo _ _ (by decide)) ag_rI (fun _ _ => eo _ _ (by decide)), siP_eq hV.2 h.2.1 (fun _ _ => eo _ _ (by decide)) ag_rI ag_rI (fun _ _ => eo _ _ (by decide)), sC_eq hV h.2.2.1 (fun j d hj hd => ⟨by rw [sgI_PI, if_neg (fun z => siP_d h.2.1 hV.2 hj hi hs d hd z.1)], eo _ _ (by decide)⟩) (fun _ _ _ _ => eo _ _ (by decide)) ag_rI ag_rI (fun _ _ => eo _ _ (by decide)) (fun _ _ => eo _ _ (by decide)) (ea _ hV.2.2.2.2.2.2.2.2.2.2.1.1) (ea _ hV.2.2.2.2.2.2.2.2.2.2.1.2.2.1), siR_eq hV h.2.2.2.1 ag_rI (fun _ _ => eo _ _ (by decide)) (fun _ _ => eo _ _ (by decide)) (fun _ _ => eo _ _ (by decide)) (fun _ _ => eo _ _ (by decide)) (fun _ _ => eo _ _ (by decide)), siD_eq hV.2 h.2.2.2.2.1 (fun _ _ => eo _ _ (by decide)) (fun _ _ => eo _ _ (by decide)) (fun _ _ => eo _ _ (by decide)) (fun _ _ _ _ => eo _ _ (by decide)), siB_eq h.2.2.2.2.2 (eo _ _ (by decide))⟩
/-- there are more devices -/
theorem SI_dc (hV : VL cy ad τ Y σ) (h : SI Y σ B) (hx : (sgI σ (yX Y) 1).toInt ≤ x.toInt) : SI Y (sgPI σ (yX Y) 1 x) B := by
  have tX := hV.2.1.1
  have eo : ∀ t, t ≠ 15 → ∀ k, agI σ (sgPI σ (yX Y) 1 x) t k := fun t ht k => ag_I (Or.inl (by rw [tX]; exact fun z => ht z.symm))
  obtain ⟨⟨a1, a2, a3, a6, a7, a8, a9⟩, b, c, d, e⟩ := h
  have t7 := fun i hi => (hV.2.2.2.1 i hi).1
  refine ⟨?_, siP_eq hV.2 b (eo _ (by decide) _) ag_rI ag_rI (eo _ (by decide) _), sC_eq hV c (fun j d hj hd => ⟨eo 7 (by decide) 11 _ (pi_dv hV hj hd), eo 7 (by decide) 12 _ (pi_dv hV hj hd)⟩) (fun j e hj he => eo 8 (by decide) 3 _ (pi_en hV hj he)) ag_rI ag_rI (eo _ (by decide) _) (eo _ (by decide) _) (fun j => eo 100 (by decide) j _ hV.2.2.2.2.2.2.2.2.2.2.1.1) (fun j => eo 100 (by decide) j _ hV.2.2.2.2.2.2.2.2.2.2.1.2.2.1), siR_eq hV d ag_rI (eo _ (by decide) _) (eo _ (by decide) _) (eo _ (by decide) _) (eo _ (by decide) _) (eo _ (by decide) _), siD_eq hV.2 e.1 (eo _ (by decide) _) (eo _ (by decide) _) (eo _ (by decide) _) (fun i k hi hk => eo 6 (by decide) 3 _ (hV.2.2.2.2.2.1 i k hi hk).2.2), siB_eq e.2 (c_nk (by decide))⟩
  have hx1 : sgI (sgPI σ (yX Y) 1 x) (yX Y) 1 = x := if_pos ⟨rfl, rfl⟩
  have h0 : siT Y σ → siT Y (sgPI σ (yX Y) 1 x) := fun q => by
    have eq : ∀ i, i < 16 → ∀ k, sgI (sgPI σ (yX Y) 1 x) (yd Y i) k = sgI σ (yd Y i) k := fun i hi k => eo 7 (by decide) k _ (t7 i hi)
    refine ⟨fun i hi h0 hs => ?_, fun i hi hs => ?_, ?_, fun i hi hs => ?_, fun i hi hs => ?_, fun i hi hs => ?_, fun i j hi hj hs => ?_⟩
    · rw [eq i hi] at hs
      obtain ⟨h, b1, b2, b3, b4⟩ := a1 i hi h0 hs
      exact ⟨h, b1, b2, by rw [eq h b1]; exact b3, by rw [eq i hi, eq h b1]; exact b4⟩
    · rw [eq i hi] at hs
      exact a2 i hi hs
    · exact ⟨by rw [eq 0 (by decide)]; exact a3.1, a3.2.1, by rw [eq 0 (by decide)]; exact a3.2.2⟩
    · rw [eq i hi] at hs ⊢
      exact a6 i hi hs
    · rw [hx1] at hs
      rw [eq i hi]
      exact a7 i hi (by omega)
    · rw [eq i hi] at hs ⊢
      exact a8 i hi hs
    · rw [eq i hi] at hs ⊢
      rw [eq j (by omega)]
      exact a9 i j hi hj hs
  exact h0 ⟨a1, a2, a3, a6, a7, a8, a9⟩
/-- an unplugged device is plugged -/
theorem SI_plug (hV : VL cy ad τ Y σ) (h : SI Y σ B) (hd : d < 16) (hh : n < 16) (hdc : (d : Int) < (sgI σ (yX Y) 1).toInt) (h1 : sgI σ (yd Y d) 7 = 117) (h2 : ¬ sgI σ (yd Y n) 7 = 117) (h3 : (sgI σ (yd Y n) 10).toInt < 5) (ho : oneC (yd Y d) σ σ2) (q7 : sgI σ2 (yd Y d) 7 = 110) (q8 : sgR σ2 (yd Y d) 8 = some (yd Y n)) (q10 : (sgI σ2 (yd Y d) 10).toInt = (sgI σ (yd Y n) 10).toInt + 1) (q13 : sgI σ2 (yd Y d) 13 = sgI σ (yd Y d) 13) : SI Y σ2 B := by
  obtain ⟨⟨a1, a2, ⟨a3, a4, a5⟩, a6, a7, a8, a9⟩, b, c, dd, e⟩ := h
  have hLs := hV.2
  obtain ⟨LX, LD, Ld, LE, Le, LP9, Lp, Lt, LU, LA, Lz⟩ := hV.2
  have tg := (Ld d hd).1
  have d0 : d ≠ 0 := fun z => by rw [z] at h1; exact a3 h1
  have dn : n ≠ d := fun z => by rw [z] at h2; exact h2 h1
  have ne : ∀ m, m < 16 → m ≠ d → yd Y m ≠ yd Y d := fun m hm w z => w (Lz.1 m d hm hd z)
  have es : ∀ m, m < 16 → m ≠ d → ∀ k, sgI σ2 (yd Y m) k = sgI σ (yd Y m) k ∧ sgR σ2 (yd Y m) k = sgR σ (yd Y m) k := fun m hm w k => ho.2 _ k (ne m hm w)
  have eo : ∀ t, t ≠ 7 → ∀ k, agI σ σ2 t k ∧ agR σ σ2 t k := fun t ht k => ⟨fun a ha => (ho.2 a k (fun z => ht (by rw [← ha, z]; exact tg))).1, fun a ha => (ho.2 a k (fun z => ht (by rw [← ha, z]; exact tg))).2⟩
  have r6 := a6 n hh h2
  refine ⟨⟨fun i hi h0 hs => ?_, fun i hi hs => ?_, ⟨?_, ?_, ?_⟩, fun i hi hs => ?_, fun i hi hs => ?_, fun i hi hs => ?_, fun i j hi hj hs => ?_⟩, fun j hj => ?_, ?_, ?_, ?_, siB_eq e.2 ((eo 15 (by decide) 7).1 _ LX.1)⟩
  · by_cases w : i = d
    · subst w
      exact ⟨n, hh, q8, by rw [(es n hh dn 7).1]; exact h2, by rw [q10, (es n hh dn 10).1]⟩
    · rw [(es i hi w 7).1] at hs
      obtain ⟨m, m1, m2, m3, m4⟩ := a1 i hi h0 hs
      have md : m ≠ d := fun z => by rw [z] at m3; exact m3 h1
      exact ⟨m, m1, by rw [(es i hi w 8).2]; exact m2, by rw [(es m m1 md 7).1]; exact m3, by rw [(es i hi w 10).1, (es m m1 md 10).1]; exact m4⟩
  · by_cases w : i = d
    · subst w
      rw [q7] at hs
      exact absurd hs (by decide)
    · rw [(es i hi w 7).1] at hs
      rw [(es i hi w 8).2]
      exact a2 i hi hs
  · rw [(es 0 (by decide) (fun z => d0 z.symm) 7).1]; exact a3
  · rw [(es 0 (by decide) (fun z => d0 z.symm) 8).2]; exact a4
  · rw [(es 0 (by decide) (fun z => d0 z.symm) 10).1]; exact a5
  · by_cases w : i = d
    · subst w
      omega
    · rw [(es i hi w 7).1] at hs
      rw [(es i hi w 10).1]
      exact a6 i hi hs
  · rw [(eo 15 (by decide) 1).1 _ LX.1] at hs
    by_cases w : i = d
    · subst w
      omega
    · rw [(es i hi w 7).1]
      exact a7 i hi hs
  · by_cases w : i = d
    · subst w
      rw [q13]
      exact a8 i hi (Or.inl h1)
    · rw [(es i hi w 7).1] at hs
      rw [(es i hi w 13).1]
      exact a8 i hi hs
  · have ad : ∀ m, m < 16 → sgI σ2 (yd Y m) 13 = sgI σ (yd Y m) 13 := fun m hm => by
      by_cases w : m = d
      · rw [w]; exact q13
      · exact (es m hm w 13).1
    rw [ad i hi] at hs ⊢
    rw [ad j (by omega)]
    exact a9 i j hi hj hs
  · exact siP1_eq hLs (b j hj) (fun i hi w1 w2 => by rw [(es i hi (fun z => by rw [z] at w1; exact w1 h1) 7).1]; exact w1) ((eo 11 (by decide) 1).2 _ (Lp j hj).1) ((eo 11 (by decide) 2).2 _ (Lp j hj).1) ((eo 11 (by decide) 13).1 _ (Lp j hj).1)
  · exact sC_eq hV c (fun j d9 hj hd9 => ⟨(ho.2 _ 11 (siP_d b hLs hj hd h1 d9 hd9)).1, (ho.2 _ 12 (siP_d b hLs hj hd h1 d9 hd9)).1⟩) (fun j e9 hj he => (eo 8 (by decide) 3).1 _ (pi_en hV hj he)) ((eo 11 (by decide) 1).2) ((eo 11 (by decide) 2).2) ((eo 11 (by decide) 4).1) ((eo 11 (by decide) 5).1) (fun m => (eo 100 (by decide) m).1 _ LA.1) (fun m => (eo 100 (by decide) m).1 _ LA.2.2.1)
  · exact siR_eq hV dd ((eo 11 (by decide) 2).2) ((eo 11 (by decide) 12).1) ((eo 11 (by decide) 13).1) ((eo 8 (by decide) 1).1) ((eo 13 (by decide) 1).1) ((eo 13 (by decide) 2).1)
  · exact siD_eq hLs e.1 ((eo 8 (by decide) 0).1) ((eo 8 (by decide) 1).1) ((eo 8 (by decide) 6).1) (fun i k hi hk => (eo 6 (by decide) 3).1 _ (Le i k hi hk).2.2)
/-- an endpoint is made -/
theorem SI_ep {u v : Int32} (hV : VL cy ad τ Y σ) (h : SI Y σ B) (hi : i < 16) (hk : k < 3) (h1 : sgI σ (yd Y i) 7 = 117) (h0 : sgI σ (ye Y i k) 0 = 0) : SI Y (sgPI (sgPI (sgPI σ (ye Y i k) 0 1) (ye Y i k) 1 u) (ye Y i k) 3 v) B := by
  generalize es : sgPI (sgPI (sgPI σ (ye Y i k) 0 1) (ye Y i k) 1 u) (ye Y i k) 3 v = s2
  have hLs := hV.2
  obtain ⟨LX, LD, Ld, LE, Le, LP9, Lp, Lt, LU, LA, Lz⟩ := hV.2
  have te := (Le i k hi hk).1
  have ne : ∀ a m, a ≠ ye Y i k → sgI s2 a m = sgI σ a m := fun a m ha => by
    rw [← es, sgI_PI, if_neg (fun z => ha z.1), sgI_PI, if_neg (fun z => ha z.1), sgI_PI, if_neg (fun z => ha z.1)]
  have nk : ∀ a m, m ≠ 0 → m ≠ 1 → m ≠ 3 → sgI s2 a m = sgI σ a m := fun a m q0 q1 q3 => by
    rw [← es, c_nk q3, c_nk q1, c_nk q0]
  have eR : ∀ a m, sgR s2 a m = sgR σ a m := fun a m => by rw [← es]; rfl
  have eo : ∀ t, t ≠ 8 → ∀ m, agI σ s2 t m := fun t ht m a ha => ne a m (fun z => ht (by rw [← ha, z]; exact te))
  have pe : ∀ j, j < 12 → ∀ e, sgR σ (yp Y j) 2 = some e → e ≠ ye Y i k := fun j hj => siP_n h.2.1 hLs hj hi hk h1
  refine ⟨siT_eq hLs h.1 (eo _ (by decide) _) (eo _ (by decide) _) (eo _ (by decide) _) (fun _ _ => eR _ _) (eo _ (by decide) _), siP_eq hLs h.2.1 (eo _ (by decide) _) (fun _ _ => eR _ _) (fun _ _ => eR _ _) (eo _ (by decide) _), sC_eq hV h.2.2.1 (fun j d hj hd => ⟨eo 7 (by decide) 11 _ (pi_dv hV hj hd), eo 7 (by decide) 12 _ (pi_dv hV hj hd)⟩) (fun j e hj he => ne e 3 (pe j hj e he)) (fun _ _ => eR _ _) (fun _ _ => eR _ _) (eo _ (by decide) _) (eo _ (by decide) _) (fun m => eo 100 (by decide) m _ LA.1) (fun m => eo 100 (by decide) m _ LA.2.2.1), fun j hj e he hin x x0 x1 => ?_, fun n m hn hm => ?_, siB_eq h.2.2.2.2.2 (eo 15 (by decide) 7 _ LX.1)⟩
  · rw [eR] at he
    rw [ne e 1 (pe j hj e he)] at hin
    rw [eo 11 (by decide) 13 _ (Lp j hj).1] at x1
    rw [tx_eq (eo 11 (by decide) 12 _ (Lp j hj).1), eo 13 (by decide) 1 _ (tx_T hLs hj), eo 13 (by decide) 2 _ (tx_T hLs hj)]
    exact h.2.2.2.1 j hj e he hin x x0 x1
  · rw [eo 6 (by decide) 3 _ (Le n m hn hm).2.2, nk _ 6 (by decide) (by decide) (by decide)]
    by_cases w : n = i ∧ m = k
    · rw [w.1, w.2]
      refine ⟨fun _ => (h.2.2.2.2.1 i k hi hk).1 ((h.2.2.2.2.1 i k hi hk).2 h0), fun z => ?_⟩
      have e1 : sgI s2 (ye Y i k) 0 = 1 := by
        rw [← es, c_nk (by decide), c_nk (by decide)]
        exact if_pos ⟨rfl, rfl⟩
      rw [e1] at z
      exact absurd z (by decide)
    · have hne : ye Y n m ≠ ye Y i k := fun z => w (Lz.2.1 n m i k hn hm hi hk z)
      rw [ne _ 0 hne, ne _ 1 hne]
      exact h.2.2.2.2.1 n m hn hm
end CSI3
