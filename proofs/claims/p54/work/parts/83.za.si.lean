section CSI4
/-! p54: addresses, transfers' rows -/
variable {cy : Nat → ClassId} {ad τ : List Nat} {Y : CY} {σ σ1 σ2 σ3 σ26 : SG} {B B2 : Int} {i j k h t a e d n ci : Nat} {x y f g z : Int32} {M : List (Nat × Nat × Nat)}
theorem pigeon : ∀ (n : Nat) (f : Nat → Nat), (∀ x, x < n + 1 → f x < n) → ∃ a b, a < b ∧ b < n + 1 ∧ f a = f b
  | 0, f, h => absurd (h 0 (by omega)) (Nat.not_lt_zero _)
  | n + 1, f, h => by
    by_cases c : ∃ a, a < n + 1 ∧ f a = f (n + 1)
    · obtain ⟨a, h1, h2⟩ := c
      exact ⟨a, n + 1, h1, by omega, h2⟩
    · have hne : ∀ a, a < n + 1 → f a ≠ f (n + 1) := fun a ha w => c ⟨a, ha, w⟩
      have hl := h (n + 1) (by omega)
      obtain ⟨a, b, h1, h2, h3⟩ := pigeon n (fun a => if f a < f (n + 1) then f a else f a - 1) (fun x hx => by
        have q1 := hne x hx
        have q2 := h x (by omega)
        show (if f x < f (n + 1) then f x else f x - 1) < n
        split <;> omega)
      have h3 : (if f a < f (n + 1) then f a else f a - 1) = (if f b < f (n + 1) then f b else f b - 1) := h3
      have q1 := hne a (by omega)
      have q2 := hne b (by omega)
      refine ⟨a, b, h1, by omega, ?_⟩
      split at h3 <;> split at h3 <;> omega
theorem ofI_small {m : Nat} (h : m < 100) : (Int32.ofInt (m : Int)).toInt = m := by
  rw [Int32.toInt_ofInt]
  exact vi_bmod (by omega) (by omega)
/-- a device without an address: there is a free one -/
theorem SI_free (hL : LY Y σ) (h : siT Y σ) (hi : i < 16) (hi0 : i ≠ 0) (hs : sgI σ (yd Y i) 7 = 110) (hz : z.toInt ≤ 16) (hu : ∀ x : Int32, 1 ≤ x.toInt → x.toInt < z.toInt → ∃ n, n < 16 ∧ sgI σ (yd Y n) 13 = x) : z.toInt < 16 := by
  refine Classical.byContradiction fun hc => ?_
  have h1 : ∀ m : Nat, m < 15 → ∃ n, n < 16 ∧ sgI σ (yd Y n) 13 = Int32.ofInt ((m : Int) + 1) := fun m hm => by
    have e : (Int32.ofInt ((m : Int) + 1)).toInt = m + 1 := by
      have := ofI_small (m := m + 1) (by omega)
      rw [Int.natCast_add] at this
      simpa using this
    exact hu _ (by omega) (by omega)
  have h2 : ∀ m : Nat, ∃ n : Nat, m < 15 → n < 16 ∧ sgI σ (yd Y n) 13 = Int32.ofInt ((m : Int) + 1) := fun m => by
    by_cases c : m < 15
    · obtain ⟨n, w⟩ := h1 m c
      exact ⟨n, fun _ => w⟩
    · exact ⟨0, fun w => absurd w c⟩
  obtain ⟨f, hf⟩ := Classical.axiomOfChoice h2
  have hA := h.2.2.2.2.2.1
  have e1 : ∀ m : Nat, m < 15 → (Int32.ofInt ((m : Int) + 1)).toInt = m + 1 := fun m hm => by
    have := ofI_small (m := m + 1) (by omega)
    rw [Int.natCast_add] at this
    simpa using this
  have e0 : (0 : Int32).toInt = 0 := rfl
  have f0 : ∀ m : Nat, m < 15 → f m ≠ 0 ∧ f m ≠ i := fun m hm => by
    have w := (hf m hm).2
    have w1 := e1 m hm
    constructor
    · intro q
      rw [q, hA 0 (by decide) (Or.inr (Or.inr rfl))] at w
      rw [← w, e0] at w1
      omega
    · intro q
      rw [q, hA i hi (Or.inr (Or.inl hs))] at w
      rw [← w, e0] at w1
      omega
  obtain ⟨a, b, q1, q2, q3⟩ := pigeon 14 (fun m => if f m < i then f m - 1 else f m - 2) (fun m hm => by
    have w := f0 m hm
    have w2 := (hf m hm).1
    show (if f m < i then f m - 1 else f m - 2) < 14
    split <;> omega)
  have q3 : (if f a < i then f a - 1 else f a - 2) = (if f b < i then f b - 1 else f b - 2) := q3
  have wa := f0 a (by omega)
  have wb := f0 b (by omega)
  have e : f a = f b := by
    split at q3 <;> split at q3 <;> omega
  have w1 := (hf a (by omega)).2
  have w2 := (hf b (by omega)).2
  rw [e, w2] at w1
  have w3 := e1 a (by omega)
  have w4 := e1 b (by omega)
  rw [w1] at w4
  omega
/-- a found device's address and state -/
theorem SI_look (hV : VL cy ad τ Y σ) (h : SI Y σ B) (hi : i < 16) (h0 : i ≠ 0) (h1 : sgI σ (yd Y i) 7 = 110) (h2 : ¬ x = 117) (h3 : ¬ x = 110) (hz : ∀ n, n < 16 → ¬ sgI σ (yd Y n) 13 = z) : SI Y (sgPI (sgPI σ (yd Y i) 13 z) (yd Y i) 7 x) B := by
  have es0 : SI Y (sgPI σ (yd Y i) 7 x) B := SI_st hV h hi (by rw [h1]; decide) h2 h3
  have tg := (hV.2.2.2.1 i hi).1
  generalize e2 : sgPI (sgPI σ (yd Y i) 13 z) (yd Y i) 7 x = s2
  generalize e1 : sgPI σ (yd Y i) 7 x = s1 at es0
  have inj : ∀ n, n < 16 → yd Y n = yd Y i → n = i := fun n hn w => hV.2.2.2.2.2.2.2.2.2.2.2.1 n i hn hi w
  have ne : ∀ b m, b ≠ yd Y i ∨ m ≠ 13 → sgI s2 b m = sgI s1 b m := fun b m hm => by
    rw [← e1, ← e2]
    by_cases c : b = yd Y i ∧ m = 7
    · rw [sgI_PI, if_pos c, sgI_PI, if_pos c]
    · rw [sgI_PI, if_neg c, sgI_PI, if_neg (fun w => by rcases hm with q | q; exact q w.1; exact q w.2), sgI_PI, if_neg c]
  have a1 : ∀ n, n < 16 → n ≠ i → sgI s2 (yd Y n) 13 = sgI σ (yd Y n) 13 := fun n hn w => by
    rw [← e2, c_nk (by decide), sgI_PI, if_neg (fun q => w (inj n hn q.1))]
  have a2 : sgI s2 (yd Y i) 13 = z := by
    rw [← e2, c_nk (by decide)]
    exact if_pos ⟨rfl, rfl⟩
  have a7 : sgI s2 (yd Y i) 7 = x := by
    rw [← e2]
    exact if_pos ⟨rfl, rfl⟩
  have b7 : ∀ n, sgI s1 (yd Y n) 7 = sgI s2 (yd Y n) 7 := fun n => (ne _ 7 (Or.inr (by decide))).symm
  have eR : ∀ b m, sgR s2 b m = sgR s1 b m := fun b m => by rw [← e1, ← e2]; rfl
  have eT : ∀ b, sgT s1 b = sgT σ b := fun b => by rw [← e1]; rfl
  have hV1 : VL cy ad τ Y s1 ∨ True := Or.inr trivial
  obtain ⟨⟨t1, t2, t3, t4, t5, t6, t7⟩, p, c, r, dd⟩ := es0
  have c13 : ∀ n, n < 16 → sgI s1 (yd Y n) 13 = sgI σ (yd Y n) 13 := fun n hn => by rw [← e1, c_nk (by decide)]
  refine ⟨⟨fun n hn h9 hs => ?_, fun n hn hs => ?_, ⟨?_, ?_, ?_⟩, fun n hn hs => ?_, fun n hn hs => ?_, fun n hn hs => ?_, fun n m hn hm hs => ?_⟩, fun n hn => ?_, ⟨fun f f0 f1 => ?_, fun f g f0 f1 g0 g1 => ?_⟩, fun n hn e he hin y y0 y1 => ?_, fun n m hn hm => ?_, siB_eq dd.2 (ne _ 7 (Or.inr (by decide)))⟩
  · rw [← b7] at hs
    obtain ⟨m, m1, m2, m3, m4⟩ := t1 n hn h9 hs
    exact ⟨m, m1, by rw [eR]; exact m2, by rw [← b7]; exact m3, by rw [ne _ 10 (Or.inr (by decide)), ne _ 10 (Or.inr (by decide))]; exact m4⟩
  · rw [← b7] at hs
    rw [eR]
    exact t2 n hn hs
  · rw [← b7]; exact t3.1
  · rw [eR]; exact t3.2.1
  · rw [ne _ 10 (Or.inr (by decide))]; exact t3.2.2
  · rw [← b7] at hs
    rw [ne _ 10 (Or.inr (by decide))]
    exact t4 n hn hs
  · rw [ne _ 1 (Or.inr (by decide))] at hs
    rw [← b7]
    exact t5 n hn hs
  · by_cases w : n = i
    · subst w
      rw [a7] at hs
      rcases hs with q | q | q
      · exact absurd q h2
      · exact absurd q h3
      · exact absurd q h0
    · rw [a1 n hn w, ← c13 n hn]
      rw [← b7] at hs
      exact t6 n hn hs
  · by_cases w : n = i
    · subst w
      rw [a2, a1 m (by omega) (by omega)]
      exact fun q => hz m (by omega) q.symm
    · rw [a1 n hn w] at hs ⊢
      by_cases w2 : m = i
      · rw [w2, a2]
        exact hz n hn
      · rw [a1 m (by omega) w2, ← c13 n hn, ← c13 m (by omega)]
        rw [← c13 n hn] at hs
        exact t7 n m hn hm hs
  · have q := p n hn
    unfold siP1 at q ⊢
    rw [eR, eR, ne _ 13 (Or.inl (fun w => by have := (hV.2.2.2.2.2.2.2.1 n hn).1; rw [w, tg] at this; exact absurd this (by decide)))]
    rcases q with q | ⟨i9, k9, w1, w2, w3, w4, w5⟩
    · exact Or.inl q
    · exact Or.inr ⟨i9, k9, w1, w2, w3, w4, by rw [← b7]; exact w5⟩
  · have q := c.1 f f0 f1
    have cc : sumTo (cH Y s2 f) 12 = sumTo (cH Y s1 f) 12 := sumTo_eq (fun j hj => by
      unfold cH
      rw [eR, eR]
      cases sgR s1 (yp Y j) 1 with
      | none => rfl
      | some d => cases sgR s1 (yp Y j) 2 with
        | none => rfl
        | some e =>
          show (if f &&& (sgI s2 (yp Y j) 4 - 1) = sgI s2 (yp Y j) 5 then 2 + (sgI s2 e 3).toInt else 0) = (if f &&& (sgI s1 (yp Y j) 4 - 1) = sgI s1 (yp Y j) 5 then 2 + (sgI s1 e 3).toInt else 0)
          rw [ne _ 4 (Or.inr (by decide)), ne _ 5 (Or.inr (by decide)), ne _ 3 (Or.inr (by decide))])
    rw [ne _ _ (Or.inl (fun w => by have := hV.2.2.2.2.2.2.2.2.2.2.1.1; rw [w, tg] at this; exact absurd this (by decide))), cc]
    exact q
  · have q := c.2 f g f0 f1 g0 g1
    have cc : sumTo (cU Y s2 f g) 12 = sumTo (cU Y s1 f g) 12 := sumTo_eq (fun j hj => by
      unfold cU
      rw [eR, eR]
      cases sgR s1 (yp Y j) 1 with
      | none => rfl
      | some d => cases sgR s1 (yp Y j) 2 with
        | none => rfl
        | some e =>
          show (if f &&& (sgI s2 (yp Y j) 4 - 1) = sgI s2 (yp Y j) 5 ∧ sgI s2 d 12 = g then hubC (sgI s2 d 11) (sgI s2 e 3).toInt else 0) = (if f &&& (sgI s1 (yp Y j) 4 - 1) = sgI s1 (yp Y j) 5 ∧ sgI s1 d 12 = g then hubC (sgI s1 d 11) (sgI s1 e 3).toInt else 0)
          rw [ne _ 4 (Or.inr (by decide)), ne _ 5 (Or.inr (by decide)), ne _ 3 (Or.inr (by decide)), ne _ 11 (Or.inr (by decide)), ne _ 12 (Or.inr (by decide))])
    rw [ne _ _ (Or.inl (fun w => by have := hV.2.2.2.2.2.2.2.2.2.2.1.2.2.1; rw [w, tg] at this; exact absurd this (by decide))), cc]
    exact q
  · rw [eR] at he
    rw [ne _ 1 (Or.inr (by decide))] at hin
    have np : yp Y n ≠ yd Y i := fun w => by have := (hV.2.2.2.2.2.2.2.1 n hn).1; rw [w, tg] at this; exact absurd this (by decide)
    rw [ne _ 13 (Or.inl np)] at y1
    rw [tx_eq (ne _ 12 (Or.inr (by decide))), ne _ 1 (Or.inr (by decide)), ne _ 2 (Or.inr (by decide))]
    exact r n hn e he hin y y0 y1
  · rw [ne _ 0 (Or.inr (by decide)), ne _ 1 (Or.inr (by decide)), ne _ 3 (Or.inr (by decide)), ne _ 6 (Or.inr (by decide))]
    exact dd.1 n m hn hm
theorem SI_hub (h : siT Y σ) (hi : i < 16) : sgR σ (yd Y i) 8 = none ∨ ∃ m, m < 16 ∧ sgR σ (yd Y i) 8 = some (yd Y m) := by
  by_cases c : sgI σ (yd Y i) 7 = 117
  · exact Or.inl (h.2.1 i hi c)
  · by_cases z : i = 0
    · rw [z]; exact Or.inl h.2.2.1.2.1
    · obtain ⟨m, m1, m2, -⟩ := h.1 i hi z c
      exact Or.inr ⟨m, m1, m2⟩
/-! the four places of a pipe's row -/
def m4 (x : Int32) : Nat := x.toBitVec.toNat % 4
theorem m4_and {x : Int32} : (x &&& 3).toInt = m4 x := by
  have h1 : (x &&& 3).toBitVec.toNat = x.toBitVec.toNat % 4 := by
    rw [Int32.toBitVec_and, BitVec.toNat_and]
    exact Nat.and_two_pow_sub_one_eq_mod _ 2
  have h2 : (x &&& 3).toInt = (x &&& 3).toBitVec.toInt := rfl
  rw [h2, BitVec.toInt_eq_toNat_of_lt (by rw [h1]; omega), h1]
  rfl
theorem m4_lt {x : Int32} : m4 x < 4 := Nat.mod_lt _ (by decide)
theorem m4_add {x y : Int32} : m4 (x + y) = (m4 x + m4 y) % 4 := by
  unfold m4
  rw [Int32.toBitVec_add, BitVec.toNat_add]
  omega
theorem m4_a3 {x : Int32} : m4 (x &&& 3) = m4 x := by
  unfold m4
  rw [Int32.toBitVec_and, BitVec.toNat_and]
  have : x.toBitVec.toNat &&& (3 : Int32).toBitVec.toNat = x.toBitVec.toNat % 4 := Nat.and_two_pow_sub_one_eq_mod _ 2
  rw [this]
  omega
theorem m4_sm {x : Int32} (h0 : 0 ≤ x.toInt) (h1 : x.toInt < 4) : (m4 x : Int) = x.toInt := by
  obtain ⟨m, hm, e1, e2⟩ := vi_ofNat h0
  have h2 : x.toInt = x.toBitVec.toInt := rfl
  have h3 : x.toBitVec.toNat < 4294967296 := x.toBitVec.isLt
  rw [h2, BitVec.toInt_eq_toNat_cond] at h0 h1 ⊢
  unfold m4
  split at h0 <;> rename_i c
  · rw [if_pos c] at h1 ⊢
    omega
  · omega
theorem tx_m4 : tx Y σ j x = yt Y j (m4 (sgI σ (yp Y j) 12 + x)) := by
  unfold tx
  rw [m4_and]
  rfl
/-- a transfer is added -/
theorem SI_add {e : Nat} {v : Int32} (hV : VL cy ad τ Y σ) (h : SI Y σ B) (hj : j < 12) (he : sgR σ (yp Y j) 2 = some e) (hv : sgI σ e 1 = 0 → 0 ≤ v.toInt ∧ v.toInt ≤ 16) (h4 : (sgI σ (yp Y j) 13).toInt < 4) {T : Nat} (hT : T = yt Y j ((sgI σ (yp Y j) 12 + sgI σ (yp Y j) 13) &&& 3).toInt.toNat) :
    SI Y (sgPI (sgPI (sgPI (sgPI (sgPI (sgPI σ T 1 v) T 2 0) T 3 0) T 4 0) T 5 0) (yp Y j) 13 (sgI σ (yp Y j) 13 + 1)) B := by
  generalize es : sgPI (sgPI (sgPI (sgPI (sgPI (sgPI σ T 1 v) T 2 0) T 3 0) T 4 0) T 5 0) (yp Y j) 13 (sgI σ (yp Y j) 13 + 1) = s2
  have hLs := hV.2
  obtain ⟨LX, LD, Ld, LE, Le, LP9, Lp, Lt, LU, LA, Lz⟩ := hV.2
  have c0 := VT_in (ci := 10) (k := 13) (t := 0) (lo := 0) (hi := 4) hV.1 (Lp j hj).1 (by decide) rfl (by decide) (by decide +kernel)
  have e1 : (1 : Int32).toInt = 1 := rfl
  have ec : (sgI σ (yp Y j) 13 + 1).toInt = (sgI σ (yp Y j) 13).toInt + 1 := by rw [i_add (by rw [e1]; omega) (by rw [e1]; omega), e1]
  have eT : T = yt Y j (m4 (sgI σ (yp Y j) 12 + sgI σ (yp Y j) 13)) := by rw [hT, m4_and]; rfl
  have tT : sgT σ T = 13 := by rw [eT]; exact ((Lt j hj).2.2 _ m4_lt).2
  have nT : ∀ a k, a ≠ T → a ≠ yp Y j ∨ k ≠ 13 → sgI s2 a k = sgI σ a k := fun a k h1 h2 => by
    rw [← es, sgI_PI, if_neg (fun z => by rcases h2 with w | w; exact w z.1; exact w z.2), sgI_PI, if_neg (fun z => h1 z.1), sgI_PI, if_neg (fun z => h1 z.1), sgI_PI, if_neg (fun z => h1 z.1), sgI_PI, if_neg (fun z => h1 z.1), sgI_PI, if_neg (fun z => h1 z.1)]
  have eR : ∀ a k, sgR s2 a k = sgR σ a k := fun a k => by rw [← es]; rfl
  have np : yp Y j ≠ T := fun z => by have := (Lp j hj).1; rw [z, tT] at this; exact absurd this (by decide)
  have p13 : sgI s2 (yp Y j) 13 = sgI σ (yp Y j) 13 + 1 := by rw [← es]; exact if_pos ⟨rfl, rfl⟩
  have T1 : sgI s2 T 1 = v := by
    rw [← es, sgI_PI, if_neg (fun z => np z.1.symm), c_nk (by decide), c_nk (by decide), c_nk (by decide), c_nk (by decide)]
    exact if_pos ⟨rfl, rfl⟩
  have T2 : sgI s2 T 2 = 0 := by
    rw [← es, sgI_PI, if_neg (fun z => np z.1.symm), c_nk (by decide), c_nk (by decide), c_nk (by decide)]
    exact if_pos ⟨rfl, rfl⟩
  have eo : ∀ t, t ≠ 13 → t ≠ 11 → ∀ k, agI σ s2 t k := fun t h1 h2 k a ha => nT a k (fun z => h1 (by rw [← ha, z]; exact tT)) (Or.inl (fun z => h2 (by rw [← ha, z]; exact (Lp j hj).1)))
  have ep : ∀ k, k ≠ 13 → agI σ s2 11 k := fun k hk a ha => nT a k (fun z => by rw [z, tT] at ha; exact absurd ha (by decide)) (Or.inr hk)
  refine ⟨siT_eq hLs h.1 (eo _ (by decide) (by decide) _) (eo _ (by decide) (by decide) _) (eo _ (by decide) (by decide) _) (fun _ _ => eR _ _) (eo _ (by decide) (by decide) _), fun n hn => ?_, sC_eq hV h.2.2.1 (fun j d hj hd => ⟨eo 7 (by decide) (by decide) 11 _ (pi_dv hV hj hd), eo 7 (by decide) (by decide) 12 _ (pi_dv hV hj hd)⟩) (fun j e hj he => eo 8 (by decide) (by decide) 3 _ (pi_en hV hj he)) (fun _ _ => eR _ _) (fun _ _ => eR _ _) (ep _ (by decide)) (ep _ (by decide)) (fun m => eo 100 (by decide) (by decide) m _ LA.1) (fun m => eo 100 (by decide) (by decide) m _ LA.2.2.1), fun n hn => ?_, siD_eq hLs h.2.2.2.2.1 (eo _ (by decide) (by decide) _) (eo _ (by decide) (by decide) _) (eo _ (by decide) (by decide) _) (fun i k hi hk => eo 6 (by decide) (by decide) 3 _ (Le i k hi hk).2.2), siB_eq h.2.2.2.2.2 (eo 15 (by decide) (by decide) 7 _ LX.1)⟩
  · by_cases c : n = j
    · subst c
      unfold siP1
      rw [eR, eR]
      rcases h.2.1 n hn with ⟨-, q, -⟩ | ⟨i9, k9, w1, w2, w3, w4, w5⟩
      · rw [q] at he; cases he
      · exact Or.inr ⟨i9, k9, w1, w2, w3, w4, by rw [eo 7 (by decide) (by decide) 7 _ (Ld i9 w1).1]; exact w5⟩
    · exact siP1_eq hLs (h.2.1 n hn) (fun i hi w _ => by rw [eo 7 (by decide) (by decide) 7 _ (Ld i hi).1]; exact w) (eR _ _) (eR _ _) (nT _ _ (fun z => by have := (Lp n hn).1; rw [z, tT] at this; exact absurd this (by decide)) (Or.inl (fun z => c (Lz.2.2.2.1 n j hn hj z))))
  · intro e9 he9 hin y y0 y1
    rw [eR] at he9
    rw [eo 8 (by decide) (by decide) 1 _ (pi_en hV hn he9)] at hin
    have ty : tx Y s2 n y = tx Y σ n y := tx_eq (ep 12 (by decide) _ (Lp n hn).1)
    rw [ty]
    by_cases c : n = j
    · subst c
      rw [he] at he9
      cases he9
      rw [p13, ec] at y1
      by_cases c2 : y.toInt < (sgI σ (yp Y n) 13).toInt
      · have hne : tx Y σ n y ≠ T := fun z => by
          rw [tx_m4, eT] at z
          have q := (Lz.2.2.2.2.1 n _ n _ hn m4_lt hn m4_lt z).2
          rw [m4_add, m4_add] at q
          have q1 := m4_sm y0 (by omega)
          have q2 := m4_sm c0.1 h4
          have q3 := m4_lt (x := sgI σ (yp Y n) 12)
          omega
        have t13 : sgT σ (tx Y σ n y) = 13 := tx_T hLs hn
        have np2 : tx Y σ n y ≠ yp Y n := fun z => by rw [z, (Lp n hn).1] at t13; exact absurd t13 (by decide)
        rw [nT _ 1 hne (Or.inl np2), nT _ 2 hne (Or.inl np2)]
        exact h.2.2.2.1 n hn e he hin y y0 c2
      · have ey : y = sgI σ (yp Y n) 13 := i_eq.mpr (by omega)
        have et : tx Y σ n y = T := by rw [ey, hT]; rfl
        have hv9 := hv hin
        have e0 : (0 : Int32).toInt = 0 := rfl
        rw [et, T1, T2, e0]
        omega
    · have t13 : sgT σ (tx Y σ n y) = 13 := tx_T hLs hn
      have hne : tx Y σ n y ≠ T := fun z => by
        rw [tx_m4, eT] at z
        exact c (Lz.2.2.2.2.1 n _ j _ hn m4_lt hj m4_lt z).1
      have np2 : tx Y σ n y ≠ yp Y j := fun z => by rw [z, (Lp j hj).1] at t13; exact absurd t13 (by decide)
      have npn : yp Y n ≠ T := fun z => by have := (Lp n hn).1; rw [z, tT] at this; exact absurd this (by decide)
      rw [nT _ 13 npn (Or.inl (fun z => c (Lz.2.2.2.1 n j hn hj z)))] at y1
      rw [nT _ 1 hne (Or.inl np2), nT _ 2 hne (Or.inl np2)]
      exact h.2.2.2.1 n hn e9 he9 hin y y0 y1
/-- a pipe's first transfer goes -/
theorem SI_drop (hV : VL cy ad τ Y σ) (h : SI Y σ B) (hj : j < 12) (h1 : 1 ≤ (sgI σ (yp Y j) 13).toInt) : SI Y (dropd (yp Y j) σ) B := by
  generalize es : dropd (yp Y j) σ = s2
  have es : sgPI (sgPI σ (yp Y j) 12 ((sgI σ (yp Y j) 12 + 1) &&& 3)) (yp Y j) 13 (sgI σ (yp Y j) 13 - 1) = s2 := es
  have hLs := hV.2
  obtain ⟨LX, LD, Ld, LE, Le, LP9, Lp, Lt, LU, LA, Lz⟩ := hV.2
  have c0 := VT_in (ci := 10) (k := 13) (t := 0) (lo := 0) (hi := 4) hV.1 (Lp j hj).1 (by decide) rfl (by decide) (by decide +kernel)
  have e1 : (1 : Int32).toInt = 1 := rfl
  have ec : (sgI σ (yp Y j) 13 - 1).toInt = (sgI σ (yp Y j) 13).toInt - 1 := by rw [i_sub (by rw [e1]; omega) (by rw [e1]; omega), e1]
  have nT : ∀ a k, a ≠ yp Y j ∨ (k ≠ 12 ∧ k ≠ 13) → sgI s2 a k = sgI σ a k := fun a k h2 => by
    rw [← es, sgI_PI, if_neg (fun z => by rcases h2 with w | w; exact w z.1; exact w.2 z.2), sgI_PI, if_neg (fun z => by rcases h2 with w | w; exact w z.1; exact w.1 z.2)]
  have eR : ∀ a k, sgR s2 a k = sgR σ a k := fun a k => by rw [← es]; rfl
  have p13 : sgI s2 (yp Y j) 13 = sgI σ (yp Y j) 13 - 1 := by rw [← es]; exact if_pos ⟨rfl, rfl⟩
  have p12 : sgI s2 (yp Y j) 12 = (sgI σ (yp Y j) 12 + 1) &&& 3 := by rw [← es, c_nk (by decide)]; exact if_pos ⟨rfl, rfl⟩
  have eo : ∀ t, t ≠ 11 → ∀ k, agI σ s2 t k := fun t h2 k a ha => nT a k (Or.inl (fun z => h2 (by rw [← ha, z]; exact (Lp j hj).1)))
  have ep : ∀ k, k ≠ 12 → k ≠ 13 → agI σ s2 11 k := fun k hk h9 a ha => nT a k (Or.inr ⟨hk, h9⟩)
  have pn : ∀ n, n < 12 → n ≠ j → ∀ k, sgI s2 (yp Y n) k = sgI σ (yp Y n) k := fun n hn c k => nT _ k (Or.inl (fun z => c (Lz.2.2.2.1 n j hn hj z)))
  refine ⟨siT_eq hLs h.1 (eo _ (by decide) _) (eo _ (by decide) _) (eo _ (by decide) _) (fun _ _ => eR _ _) (eo _ (by decide) _), fun n hn => ?_, sC_eq hV h.2.2.1 (fun j d hj hd => ⟨eo 7 (by decide) 11 _ (pi_dv hV hj hd), eo 7 (by decide) 12 _ (pi_dv hV hj hd)⟩) (fun j e hj he => eo 8 (by decide) 3 _ (pi_en hV hj he)) (fun _ _ => eR _ _) (fun _ _ => eR _ _) (ep _ (by decide) (by decide)) (ep _ (by decide) (by decide)) (fun m => eo 100 (by decide) m _ LA.1) (fun m => eo 100 (by decide) m _ LA.2.2.1), fun n hn => ?_, siD_eq hLs h.2.2.2.2.1 (eo _ (by decide) _) (eo _ (by decide) _) (eo _ (by decide) _) (fun i k hi hk => eo 6 (by decide) 3 _ (Le i k hi hk).2.2), siB_eq h.2.2.2.2.2 (eo 15 (by decide) 7 _ LX.1)⟩
  · by_cases c : n = j
    · subst c
      unfold siP1
      rw [eR, eR]
      rcases h.2.1 n hn with ⟨-, -, q⟩ | ⟨i9, k9, w1, w2, w3, w4, w5⟩
      · rw [q] at h1
        exact absurd h1 (by decide)
      · exact Or.inr ⟨i9, k9, w1, w2, w3, w4, by rw [eo 7 (by decide) 7 _ (Ld i9 w1).1]; exact w5⟩
    · exact siP1_eq hLs (h.2.1 n hn) (fun i hi w _ => by rw [eo 7 (by decide) 7 _ (Ld i hi).1]; exact w) (eR _ _) (eR _ _) (pn n hn c 13)
  · by_cases c : n = j
    · subst c
      intro e he hin y y0 y1
      rw [eR] at he
      rw [eo 8 (by decide) 1 _ (pi_en hV hn he)] at hin
      rw [p13, ec] at y1
      have ey : (y + 1).toInt = y.toInt + 1 := by rw [i_add (by rw [e1]; omega) (by rw [e1]; omega), e1]
      have ty : tx Y s2 n y = tx Y σ n (y + 1) := by
        rw [tx_m4, tx_m4, p12, m4_add, m4_a3, m4_add, m4_add (x := sgI σ (yp Y n) 12) (y := y + 1), m4_add (x := y)]
        congr 1
        omega
      rw [ty, eo 13 (by decide) 1 _ (tx_T hLs hn), eo 13 (by decide) 2 _ (tx_T hLs hn)]
      exact h.2.2.2.1 n hn e he hin (y + 1) (by omega) (by omega)
    · exact siR1_eq hV hn (h.2.2.2.1 n hn) (eR _ _) (pn n hn c 12) (pn n hn c 13) (eo 8 (by decide) 1) (eo 13 (by decide) 1) (eo 13 (by decide) 2)
/-- two arrays of unlike kinds -/
theorem kd_ne {k1 k2 a b : Nat} (h : VT cy ad τ σ) (h1 : ∃ q : Nat, τ[q]? = some k1 ∧ ad[q]? = some a) (h2 : ∃ q : Nat, τ[q]? = some k2 ∧ ad[q]? = some b) (hn : k1 ≠ k2) : a ≠ b := by
  rintro rfl
  obtain ⟨q1, w1, w2⟩ := h1
  obtain ⟨q2, w3, w4⟩ := h2
  have := (List.getElem?_inj (List.getElem?_eq_some_iff.mp w2).1 h.2.1).mp (w2.trans w4.symm)
  subst this
  exact hn (Option.some.inj (w1.symm.trans w3))
theorem kd_N {kd a : Nat} (h : VT cy ad τ σ) (h1 : ∃ q : Nat, τ[q]? = some kd ∧ ad[q]? = some a) : sgT σ a = vTag kd ∧ sgN σ a = vLen kd := by
  obtain ⟨q, w1, w2⟩ := h1
  exact h.2.2.2.1 q kd a w1 w2
theorem yhk (hV : VL cy ad τ Y σ) : (∃ q : Nat, τ[q]? = some 21 ∧ ad[q]? = some (yh Y)) ∧ ∃ q : Nat, τ[q]? = some 13 ∧ ad[q]? = some (yk Y) := by
  have LU := hV.2.2.2.2.2.2.2.2.2.1
  obtain ⟨b1, x1, -, x2⟩ := VT_nn (ci := 13) (k := 0) (kd := 21) hV.1 LU.1 (by decide) rfl (by decide +kernel)
  obtain ⟨b2, y1, -, y2⟩ := VT_nn (ci := 13) (k := 1) (kd := 13) hV.1 LU.1 (by decide) rfl (by decide +kernel)
  have e1 : b1 = yh Y := Option.some.inj (x1.symm.trans LU.2.1)
  have e2 : b2 = yk Y := Option.some.inj (y1.symm.trans LU.2.2)
  exact ⟨by rw [← e1]; exact x2, by rw [← e2]; exact y2⟩
/-- another array of ints is written -/
theorem SI_arr {kd : Nat} (hV : VL cy ad τ Y σ) (h : SI Y σ B) (ha : ∃ q : Nat, τ[q]? = some kd ∧ ad[q]? = some a) (h100 : vTag kd = 100) (h1 : kd ≠ 21) (h2 : kd ≠ 13) : SI Y (sgPI σ a k x) B := by
  have ht := (kd_N hV.1 ha).1.trans h100
  have nh := kd_ne hV.1 ha (yhk hV).1 h1
  have nk := kd_ne hV.1 ha (yhk hV).2 h2
  have q : ∀ t k9, t ≠ 100 → agI σ (sgPI σ a k x) t k9 := fun t k9 h9 => ag_I (Or.inl (by rw [ht]; exact fun z => h9 z.symm))
  exact SI_eq hV h (fun k hk => q 7 k (by decide)) ag_rI (q 15 1 (by decide)) (q 15 7 (by decide)) (fun _ _ => ag_rI) (fun k hk => q 11 k (by decide)) (fun k hk => q 8 k (by decide)) (fun k hk => q 13 k (by decide)) (fun i k hi hk => q 6 3 (by decide) _ (hV.2.2.2.2.2.1 i k hi hk).2.2) (fun j => by rw [sgI_PI, if_neg (fun z => nh z.1.symm)]) (fun j => by rw [sgI_PI, if_neg (fun z => nk z.1.symm)])
end CSI4
