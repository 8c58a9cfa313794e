section CSI7
/-! p54: what a transaction rests on -/
variable {cy : Nat → ClassId} {ad τ : List Nat} {Y : CY} {σ σ1 σ2 σ3 σ26 : SG} {B B2 n m : Int} {i j k h t T a b e d ci kd : Nat} {x y f g z p : Int32} {M : List (Nat × Nat × Nat)}
/-- only the row of bytes at a, and other arrays of ints -/
def adR (Y : CY) (a : Nat) (σ σ2 : SG) : Prop := (∀ b, sgT σ2 b = sgT σ b) ∧ (∀ b k, sgR σ2 b k = sgR σ b k) ∧ (∀ b k, sgT σ b ≠ 100 → (b ≠ a ∨ k = 0 ∨ 4 ≤ k) → sgI σ2 b k = sgI σ b k) ∧ (∀ j, sgI σ2 (yh Y) j = sgI σ (yh Y) j) ∧ ∀ j, sgI σ2 (yk Y) j = sgI σ (yk Y) j
theorem adR_rf : adR Y a σ σ := ⟨fun _ => rfl, fun _ _ => rfl, fun _ _ _ _ => rfl, fun _ => rfl, fun _ => rfl⟩
theorem adR_tr (h : adR Y a σ σ1) (h2 : adR Y a σ1 σ2) : adR Y a σ σ2 := ⟨fun b => (h2.1 b).trans (h.1 b), fun b k => (h2.2.1 b k).trans (h.2.1 b k), fun b k q1 q2 => (h2.2.2.1 b k (by rw [h.1]; exact q1) q2).trans (h.2.2.1 b k q1 q2), fun j => (h2.2.2.2.1 j).trans (h.2.2.2.1 j), fun j => (h2.2.2.2.2 j).trans (h.2.2.2.2 j)⟩
theorem adR_ok {c0 ix u : Nat} {v w : Int32} (hV : VL cy ad τ Y σ) (ha : sgT σ a = 6) (hc : sgT σ c0 = 100) (h1 : c0 ≠ yh Y) (h2 : c0 ≠ yk Y) (hu : u = 1 ∨ u = 2) : adR Y a σ (sgPI (sgPI (sgPI σ c0 ix v) a 3 x) a u w) ∧ sgI (sgPI (sgPI (sgPI σ c0 ix v) a 3 x) a u w) a 3 = x := by
  have LA := hV.2.2.2.2.2.2.2.2.2.2.1
  have n1 : yh Y ≠ a := fun z => by rw [← z, LA.1] at ha; exact absurd ha (by decide)
  have n2 : yk Y ≠ a := fun z => by rw [← z, LA.2.2.1] at ha; exact absurd ha (by decide)
  refine ⟨⟨fun _ => rfl, fun _ _ => rfl, fun b k q1 q2 => ?_, fun j => ?_, fun j => ?_⟩, ?_⟩
  · rw [sgI_PI, if_neg (fun z => by rcases q2 with w | w | w; exact w z.1; omega; omega), sgI_PI, if_neg (fun z => by rcases q2 with w | w | w; exact w z.1; omega; omega), sgI_PI, if_neg (fun z => q1 (by rw [z.1]; exact hc))]
  · rw [sgI_PI, if_neg (fun z => n1 z.1), sgI_PI, if_neg (fun z => n1 z.1), sgI_PI, if_neg (fun z => h1 z.1.symm)]
  · rw [sgI_PI, if_neg (fun z => n2 z.1), sgI_PI, if_neg (fun z => n2 z.1), sgI_PI, if_neg (fun z => h2 z.1.symm)]
  · rw [sgI_PI, if_neg (fun z => by omega)]
    exact if_pos ⟨rfl, rfl⟩
theorem yr_n (hV : VL cy ad τ Y σ) {i2 k2 : Nat} (hi : i < 16) (hk : k < 3) (hi2 : i2 < 16) (hk2 : k2 < 3) (hne : ¬ (i2 = i ∧ k2 = k)) : yr Y i2 k2 ≠ yr Y i k := fun z => hne (hV.2.2.2.2.2.2.2.2.2.2.2.2.2.1 i2 k2 i k hi2 hk2 hi hk z)
/-- a row of bytes that goes out grew -/
theorem SI_ad (hV : VL cy ad τ Y σ) (h : SI Y σ B) (hi : i < 16) (hk : k < 3) (hR : adR Y (yr Y i k) σ σ2) (hn : sgI σ (ye Y i k) 1 = 0 → (sgI σ2 (yr Y i k) 3).toInt ≤ (sgI σ (ye Y i k) 6).toInt) : SI Y σ2 B := by
  have hLs := hV.2
  obtain ⟨LX, LD, Ld, LE, Le, LP9, Lp, Lt, LU, LA, Lz⟩ := hV.2
  have tr := (Le i k hi hk).2.2
  have aI : ∀ t, t ≠ 6 → t ≠ 100 → ∀ m, agI σ σ2 t m := fun t h1 h2 m b hb => hR.2.2.1 b m (by rw [hb]; exact h2) (Or.inl (fun z => h1 (by rw [← hb, z]; exact tr)))
  have aR : ∀ t m, agR σ σ2 t m := fun t m b _ => hR.2.1 b m
  refine ⟨siT_eq hLs h.1 (aI _ (by decide) (by decide) _) (aI _ (by decide) (by decide) _) (aI _ (by decide) (by decide) _) (aR _ _) (aI _ (by decide) (by decide) _), siP_eq hLs h.2.1 (aI _ (by decide) (by decide) _) (aR _ _) (aR _ _) (aI _ (by decide) (by decide) _), sC_eq hV h.2.2.1 (fun j d hj hd => ⟨aI 7 (by decide) (by decide) 11 _ (pi_dv hV hj hd), aI 7 (by decide) (by decide) 12 _ (pi_dv hV hj hd)⟩) (fun j e hj he => aI 8 (by decide) (by decide) 3 _ (pi_en hV hj he)) (aR _ _) (aR _ _) (aI _ (by decide) (by decide) _) (aI _ (by decide) (by decide) _) hR.2.2.2.1 hR.2.2.2.2, siR_eq hV h.2.2.2.1 (aR _ _) (aI _ (by decide) (by decide) _) (aI _ (by decide) (by decide) _) (aI _ (by decide) (by decide) _) (aI _ (by decide) (by decide) _) (aI _ (by decide) (by decide) _), fun i2 k2 hi2 hk2 => ?_, siB_eq h.2.2.2.2.2 (aI 15 (by decide) (by decide) 7 _ LX.1)⟩
  have te := (Le i2 k2 hi2 hk2).1
  have q := h.2.2.2.2.1 i2 k2 hi2 hk2
  rw [aI 8 (by decide) (by decide) 0 _ te, aI 8 (by decide) (by decide) 1 _ te, aI 8 (by decide) (by decide) 6 _ te]
  by_cases w : i2 = i ∧ k2 = k
  · rw [w.1, w.2] at q ⊢
    exact ⟨fun z => ⟨hn z, (q.1 z).2⟩, q.2⟩
  · rw [hR.2.2.1 (yr Y i2 k2) 3 (by rw [(Le i2 k2 hi2 hk2).2.2]; decide) (Or.inl (fun z => w (Lz.2.2.1 i2 k2 i k hi2 hk2 hi hk z)))]
    exact q
/-- the pipe, its device and endpoint, and that something waits -/
def TQ (Y : CY) (σ : SG) (j i k : Nat) : Prop := sgR σ (yp Y j) 1 = some (yd Y i) ∧ sgR σ (yp Y j) 2 = some (ye Y i k) ∧ 1 ≤ (sgI σ (yp Y j) 13).toInt
/-- a transfer out of the host has n bytes to go -/
def TP (Y : CY) (σ : SG) (j i k T : Nat) (n : Int) : Prop := sgI σ (ye Y i k) 1 = 0 → 0 ≤ n ∧ 0 ≤ (sgI σ (yt Y j T) 2).toInt ∧ (sgI σ (yt Y j T) 2).toInt + n ≤ (sgI σ (yt Y j T) 1).toInt ∧ (sgI σ (yt Y j T) 1).toInt ≤ 16
theorem TQ_eq (hL : LY Y σ) (hj : j < 12) (h : TQ Y σ j i k) (h1 : agR σ σ2 11 1) (h2 : agR σ σ2 11 2) (h3 : agI σ σ2 11 13) : TQ Y σ2 j i k := by
  have t := (hL.2.2.2.2.2.2.1 j hj).1
  unfold TQ
  rw [h1 _ t, h2 _ t, h3 _ t]
  exact h
theorem TP_eq (hL : LY Y σ) (hj : j < 12) (hi : i < 16) (hk : k < 3) (hT : T < 4) (h : TP Y σ j i k T n) (h1 : agI σ σ2 8 1) (h2 : agI σ σ2 13 1) (h3 : agI σ σ2 13 2) : TP Y σ2 j i k T n := by
  have te := (hL.2.2.2.2.1 i k hi hk).1
  have tt := ((hL.2.2.2.2.2.2.2.1 j hj).2.2 T hT).2
  unfold TP
  rw [h1 _ te, h2 _ tt, h3 _ tt]
  exact h
def tqF (t k : Nat) : Bool := [(11, 13), (8, 1), (13, 1), (13, 2)].contains (t, k)
theorem ag_F {t9 k9 t k : Nat} {F : Nat → Nat → Bool} (ht : sgT σ a = t) (hk : F t k = false) (h9 : F t9 k9 = true) : agI σ (sgPI σ a k x) t9 k9 := ag_I (Classical.byContradiction fun z => by
  have z1 : sgT σ a = t9 ∧ k9 = k := by
    constructor
    · exact Classical.byContradiction fun w => z (Or.inl w)
    · exact Classical.byContradiction fun w => z (Or.inr w)
  rw [← z1.1, ht, z1.2, hk] at h9
  cases h9)
theorem TQ_PI {t k9 : Nat} (hV : VL cy ad τ Y σ) (hj : j < 12) (h : TQ Y σ j i k) (ht : sgT σ a = t) (hk : (t = 11 → k9 ≠ 13)) : TQ Y (sgPI σ a k9 x) j i k :=
  TQ_eq hV.2 hj h ag_rI ag_rI (ag_I (by
    by_cases c : t = 11
    · exact Or.inr (fun z => hk c z.symm)
    · exact Or.inl (by rw [ht]; exact c)))
theorem TP_PI {t k9 : Nat} (hV : VL cy ad τ Y σ) (hj : j < 12) (hi : i < 16) (hk : k < 3) (hT : T < 4) (h : TP Y σ j i k T n) (ht : sgT σ a = t) (hF : tqF t k9 = false) : TP Y (sgPI σ a k9 x) j i k T n :=
  TP_eq hV.2 hj hi hk hT h (ag_F ht hF rfl) (ag_F ht hF rfl) (ag_F ht hF rfl)
theorem SIM_I {ci k t : Nat} (hV : VL cy ad τ Y σ) (hV2 : VL cy ad τ Y σ2) (hk : vi_kept τ M (cwL cy ad σ) (cwL cy ad σ2)) (hM : SIM M = true) (h1 : siL.contains (ci, k) = true) (h2 : ci + 1 < 100) (h3 : (sgC ci)[k]? = some t) (h4 : t < 3) : agI σ σ2 (ci + 1) k := fun a ha => kp_I hV.1 hV2.1 hk ha h2 h3 h4 (fun d _ => SIM_f hM h1 d)
theorem SIM_R {ci k : Nat} (hV : VL cy ad τ Y σ) (hV2 : VL cy ad τ Y σ2) (hk : vi_kept τ M (cwL cy ad σ) (cwL cy ad σ2)) (hM : SIM M = true) (h1 : siL.contains (ci, k) = true) (h2 : ci + 1 < 100) (h3 : (sgC ci)[k]? = some 3) : agR σ σ2 (ci + 1) k := fun a ha => kp_R hV.1 hV2.1 hk ha h2 h3 (fun d _ => SIM_f hM h1 d)
theorem TQ_kept (hV : VL cy ad τ Y σ) (hV2 : VL cy ad τ Y σ2) (hk : vi_kept τ M (cwL cy ad σ) (cwL cy ad σ2)) (hM : SIM M = true) (hj : j < 12) (h : TQ Y σ j i k) : TQ Y σ2 j i k :=
  TQ_eq hV.2 hj h (SIM_R (ci := 10) hV hV2 hk hM rfl (by decide) rfl) (SIM_R (ci := 10) hV hV2 hk hM rfl (by decide) rfl) (SIM_I (ci := 10) hV hV2 hk hM rfl (by decide) rfl (by decide))
theorem TP_kept (hV : VL cy ad τ Y σ) (hV2 : VL cy ad τ Y σ2) (hk9 : vi_kept τ M (cwL cy ad σ) (cwL cy ad σ2)) (hM : SIM M = true) (hj : j < 12) (hi : i < 16) (hk : k < 3) (hT : T < 4) (h : TP Y σ j i k T n) : TP Y σ2 j i k T n :=
  TP_eq hV.2 hj hi hk hT h (SIM_I (ci := 7) hV hV2 hk9 hM rfl (by decide) rfl (by decide)) (SIM_I (ci := 12) hV hV2 hk9 hM rfl (by decide) rfl (by decide)) (SIM_I (ci := 12) hV hV2 hk9 hM rfl (by decide) rfl (by decide))
theorem TQ_ad (hV : VL cy ad τ Y σ) (hj : j < 12) (ha : sgT σ a = 6) (hR : adR Y a σ σ2) (h : TQ Y σ j i k) : TQ Y σ2 j i k :=
  TQ_eq hV.2 hj h (fun b _ => hR.2.1 b _) (fun b _ => hR.2.1 b _) (fun b hb => hR.2.2.1 b _ (by rw [hb]; decide) (Or.inl (fun z => by rw [z, ha] at hb; exact absurd hb (by decide))))
theorem TP_ad (hV : VL cy ad τ Y σ) (hj : j < 12) (hi : i < 16) (hk : k < 3) (hT : T < 4) (ha : sgT σ a = 6) (hR : adR Y a σ σ2) (h : TP Y σ j i k T n) : TP Y σ2 j i k T n :=
  have q : ∀ t, t ≠ 6 → t ≠ 100 → ∀ m, agI σ σ2 t m := fun t h1 h2 m b hb => hR.2.2.1 b m (by rw [hb]; exact h2) (Or.inl (fun z => h1 (by rw [← hb, z]; exact ha)))
  TP_eq hV.2 hj hi hk hT h (q _ (by decide) (by decide) _) (q _ (by decide) (by decide) _) (q _ (by decide) (by decide) _)
/-- bytes are sent there -/
theorem SI_sent (hV : VL cy ad τ Y σ) (h : SI Y σ B) (hi : i < 16) (hk : k < 3) (hT : TP Y σ j i k T x.toInt) (h8 : x.toInt ≤ 8) (hB : B ≤ 1000000000) : SI Y (sgPI σ (ye Y i k) 6 (sgI σ (ye Y i k) 6 + x)) (B + 8) ∧ (sgI σ (ye Y i k) 1 = 0 → (sgI (sgPI σ (ye Y i k) 6 (sgI σ (ye Y i k) 6 + x)) (yr Y i k) 3).toInt + x.toInt ≤ (sgI (sgPI σ (ye Y i k) 6 (sgI σ (ye Y i k) 6 + x)) (ye Y i k) 6).toInt ∧ (sgI (sgPI σ (ye Y i k) 6 (sgI σ (ye Y i k) 6 + x)) (ye Y i k) 6).toInt ≤ B + 8 ∧ 0 ≤ x.toInt) := by
  have hLs := hV.2
  obtain ⟨LX, LD, Ld, LE, Le, LP9, Lp, Lt, LU, LA, Lz⟩ := hV.2
  have te := (Le i k hi hk).1
  have eo : ∀ b m, m ≠ 6 → sgI (sgPI σ (ye Y i k) 6 (sgI σ (ye Y i k) 6 + x)) b m = sgI σ b m := fun b m hm => c_nk hm
  have ea : ∀ b, sgT σ b = 100 → ∀ m, sgI (sgPI σ (ye Y i k) 6 (sgI σ (ye Y i k) 6 + x)) b m = sgI σ b m := fun b hb m => (ag_I (Or.inl (by rw [te]; decide)) : agI σ _ 100 m) _ hb
  have ex : sgI (sgPI σ (ye Y i k) 6 (sgI σ (ye Y i k) 6 + x)) (ye Y i k) 6 = sgI σ (ye Y i k) 6 + x := if_pos ⟨rfl, rfl⟩
  have val : sgI σ (ye Y i k) 1 = 0 → (sgI σ (ye Y i k) 6 + x).toInt = (sgI σ (ye Y i k) 6).toInt + x.toInt ∧ 0 ≤ x.toInt ∧ (sgI σ (yr Y i k) 3).toInt ≤ (sgI σ (ye Y i k) 6).toInt ∧ (sgI σ (ye Y i k) 6).toInt ≤ B ∧ 0 ≤ (sgI σ (ye Y i k) 6).toInt := fun z => by
    have q := (h.2.2.2.2.1 i k hi hk).1 z
    have q2 := hT z
    exact ⟨by rw [i_add (by omega) (by omega)], q2.1, q⟩
  refine ⟨⟨siT_eq hLs h.1 (fun _ _ => eo _ _ (by decide)) (fun _ _ => eo _ _ (by decide)) (fun _ _ => eo _ _ (by decide)) ag_rI (fun _ _ => eo _ _ (by decide)), siP_eq hLs h.2.1 (fun _ _ => eo _ _ (by decide)) ag_rI ag_rI (fun _ _ => eo _ _ (by decide)), sC_eq hV h.2.2.1 (fun j d hj hd => ⟨eo _ _ (by decide), eo _ _ (by decide)⟩) (fun _ _ _ _ => eo _ _ (by decide)) ag_rI ag_rI (fun _ _ => eo _ _ (by decide)) (fun _ _ => eo _ _ (by decide)) (ea _ LA.1) (ea _ LA.2.2.1), siR_eq hV h.2.2.2.1 ag_rI (fun _ _ => eo _ _ (by decide)) (fun _ _ => eo _ _ (by decide)) (fun _ _ => eo _ _ (by decide)) (fun _ _ => eo _ _ (by decide)) (fun _ _ => eo _ _ (by decide)), fun i2 k2 hi2 hk2 => ?_, siB_up (siB_eq h.2.2.2.2.2 (eo _ 7 (by decide))) (by omega)⟩, fun z => ?_⟩
  · have q := h.2.2.2.2.1 i2 k2 hi2 hk2
    rw [eo _ 0 (by decide), eo _ 1 (by decide), eo _ 3 (by decide)]
    by_cases w : i2 = i ∧ k2 = k
    · rw [w.1, w.2] at q ⊢
      rw [ex]
      refine ⟨fun z => ?_, q.2⟩
      have := val z
      omega
    · rw [sgI_PI, if_neg (fun z => w (Lz.2.1 i2 k2 i k hi2 hk2 hi hk z.1))]
      refine ⟨fun z => ?_, q.2⟩
      have := q.1 z
      omega
  · have := val z
    rw [eo _ 3 (by decide), ex]
    omega
/-- a transfer's bytes are done -/
theorem SI_done (hV : VL cy ad τ Y σ) (h : SI Y σ B) (hj : j < 12) (hi : i < 16) (hk : k < 3) (hT : T < 4) (hQ : TQ Y σ j i k) (hP : TP Y σ j i k T x.toInt) : SI Y (sgPI σ (yt Y j T) 2 (sgI σ (yt Y j T) 2 + x)) B := by
  have hLs := hV.2
  obtain ⟨LX, LD, Ld, LE, Le, LP9, Lp, Lt, LU, LA, Lz⟩ := hV.2
  have tt := ((Lt j hj).2.2 T hT).2
  have eo : ∀ t, t ≠ 13 → ∀ m, agI σ (sgPI σ (yt Y j T) 2 (sgI σ (yt Y j T) 2 + x)) t m := fun t h1 m => ag_I (Or.inl (by rw [tt]; exact fun z => h1 z.symm))
  refine ⟨siT_eq hLs h.1 (eo _ (by decide) _) (eo _ (by decide) _) (eo _ (by decide) _) ag_rI (eo _ (by decide) _), siP_eq hLs h.2.1 (eo _ (by decide) _) ag_rI ag_rI (eo _ (by decide) _), sC_eq hV h.2.2.1 (fun j d hj hd => ⟨eo 7 (by decide) 11 _ (pi_dv hV hj hd), eo 7 (by decide) 12 _ (pi_dv hV hj hd)⟩) (fun j e hj he => eo 8 (by decide) 3 _ (pi_en hV hj he)) ag_rI ag_rI (eo _ (by decide) _) (eo _ (by decide) _) (fun m => eo 100 (by decide) m _ LA.1) (fun m => eo 100 (by decide) m _ LA.2.2.1), fun n hn e he hin y y0 y1 => ?_, siD_eq hLs h.2.2.2.2.1 (eo _ (by decide) _) (eo _ (by decide) _) (eo _ (by decide) _) (fun i k hi hk => eo 6 (by decide) 3 _ (Le i k hi hk).2.2), siB_eq h.2.2.2.2.2 (eo 15 (by decide) 7 _ LX.1)⟩
  have he : sgR σ (yp Y n) 2 = some e := he
  rw [eo 8 (by decide) 1 _ (pi_en hV hn he)] at hin
  rw [eo 11 (by decide) 13 _ (Lp n hn).1] at y1
  rw [tx_eq (eo 11 (by decide) 12 _ (Lp n hn).1)]
  have q := h.2.2.2.1 n hn e he hin y y0 y1
  rw [c_nk (k := 2) (j := 1) (by decide)]
  by_cases w : tx Y σ n y = yt Y j T
  · have en : n = j := by
      rw [tx_m4] at w
      exact (Lz.2.2.2.2.1 n _ j T hn m4_lt hj hT w).1
    subst en
    have hee : e = ye Y i k := Option.some.inj (he.symm.trans hQ.2.1)
    subst hee
    have r := hP hin
    rw [w] at q ⊢
    have ev : (sgI σ (yt Y n T) 2 + x).toInt = (sgI σ (yt Y n T) 2).toInt + x.toInt := i_add (by omega) (by omega)
    rw [show sgI (sgPI σ (yt Y n T) 2 (sgI σ (yt Y n T) 2 + x)) (yt Y n T) 2 = sgI σ (yt Y n T) 2 + x from if_pos ⟨rfl, rfl⟩, ev]
    omega
  · rw [sgI_PI, if_neg (fun z => w z.1)]
    exact q
/-- what the first transfer of an outgoing pipe has to go -/
theorem TP_of (h : SI Y σ B) (hj : j < 12) (hQ : TQ Y σ j i k) (hT : T = m4 (sgI σ (yp Y j) 12 + 0)) (hn : sgI σ (ye Y i k) 1 = 0 → n ≤ (sgI σ (yt Y j T) 1).toInt - (sgI σ (yt Y j T) 2).toInt ∧ 0 ≤ n) : TP Y σ j i k T n := by
  intro hin
  have e0 : (0 : Int32).toInt = 0 := rfl
  have q := h.2.2.2.1 j hj _ hQ.2.1 hin 0 (by decide) (by rw [e0]; have := hQ.2.2; omega)
  rw [tx_m4, ← hT] at q
  have r := hn hin
  omega
theorem TQ_of {d : Nat} (h : siP Y σ) (hj : j < 12) (hd : sgR σ (yp Y j) 1 = some d) (hc : 1 ≤ (sgI σ (yp Y j) 13).toInt) : ∃ i k, i < 16 ∧ k < 3 ∧ d = yd Y i ∧ TQ Y σ j i k ∧ ¬ sgI σ (yd Y i) 7 = 117 := by
  obtain ⟨e, he, i, k, h1, h2, rfl, rfl, h5⟩ := siP_e h hj hd
  exact ⟨i, k, h1, h2, rfl, ⟨hd, he, hc⟩, h5⟩
theorem TQ_st (h : siP Y σ) (hL : LY Y σ) (hj : j < 12) (hi : i < 16) (hQ : TQ Y σ j i k) : ¬ sgI σ (yd Y i) 7 = 117 := by
  obtain ⟨e, he, i2, k2, h1, h2, h3, -, h5⟩ := siP_e h hj hQ.1
  have := hL.2.2.2.2.2.2.2.2.2.2.1 i i2 hi h1 h3
  rw [this]
  exact h5
theorem adR_n {i9 : Int} (h : (sgI σ a 3).toInt + i9 = (sgI σ1 a 3).toInt) (hx : sgI σ2 a 3 = sgI σ1 a 3 + 1) (hb : (sgI σ1 a 3).toInt < 2147483647) : (sgI σ a 3).toInt + (i9 + 1) = (sgI σ2 a 3).toInt := by
  have e1 : (1 : Int32).toInt = 1 := rfl
  have := Int32.le_toInt (sgI σ1 a 3)
  rw [hx, i_add (by rw [e1]; omega) (by rw [e1]; omega), e1]
  omega
end CSI7
