section CSI2
/-! p54: the invariant behind a pipe's close, and behind devices' leave -/
variable {cy : Nat → ClassId} {ad τ : List Nat} {Y : CY} {σ σ1 σ2 σ3 σ26 : SG} {B B2 : Int} {i j k h t a e d n : Nat} {x f g : Int32}
theorem sumTo_ge {u : Nat → Int} {n j : Nat} (hj : j < n) (h : ∀ m, m < n → 0 ≤ u m) : u j ≤ sumTo u n := by
  induction n with
  | zero => omega
  | succ n ih =>
    show u j ≤ sumTo u n + u n
    have h0 : ∀ m, m ≤ n → 0 ≤ sumTo u m := by
      intro m
      induction m with
      | zero => intro _; exact Int.le_refl _
      | succ m ihm =>
        intro hm
        have q1 := ihm (by omega)
        have q2 := h m (by omega)
        show 0 ≤ sumTo u m + u m
        omega
    by_cases c : j = n
    · subst c
      have := h0 j (Nat.le_refl _)
      omega
    · have q1 := ih (by omega) (fun m hm => h m (by omega))
      have q2 := h n (by omega)
      omega
theorem cH_is {d e : Nat} (h1 : sgR σ (yp Y j) 1 = some d) (h2 : sgR σ (yp Y j) 2 = some e) : cH Y σ f j = if due σ (yp Y j) f then 2 + (sgI σ e 3).toInt else 0 := by
  unfold cH
  rw [h1, h2]
theorem cU_is {d e : Nat} (h1 : sgR σ (yp Y j) 1 = some d) (h2 : sgR σ (yp Y j) 2 = some e) : cU Y σ f g j = if due σ (yp Y j) f ∧ sgI σ d 12 = g then hubC (sgI σ d 11) (sgI σ e 3).toInt else 0 := by
  unfold cU
  rw [h1, h2]
theorem cH_no (h1 : sgR σ (yp Y j) 1 = none) : cH Y σ f j = 0 := by
  unfold cH
  rw [h1]
theorem cU_no (h1 : sgR σ (yp Y j) 1 = none) : cU Y σ f g j = 0 := by
  unfold cU
  rw [h1]
theorem i_neg1 {x : Int32} (h0 : -1000 ≤ x.toInt) (h1 : x.toInt ≤ 1000) : (-1 * x).toInt = -x.toInt := by
  have e : (-1 : Int32).toInt = -1 := rfl
  rw [Int32.toInt_mul, e, vi_bmod (by omega) (by omega)]
  omega
/-- devices' fields are the same -/
def dvS (Y : CY) (σ σ2 : SG) : Prop := ∀ n, n < 16 → (∀ k, k = 7 ∨ k = 10 ∨ k = 11 ∨ k = 12 ∨ k = 13 ∨ k = 17 → sgI σ2 (yd Y n) k = sgI σ (yd Y n) k) ∧ sgR σ2 (yd Y n) 8 = sgR σ (yd Y n) 8
theorem dvS_tr (h : dvS Y σ σ1) (h2 : dvS Y σ1 σ2) : dvS Y σ σ2 := fun n hn => ⟨fun k hk => ((h2 n hn).1 k hk).trans ((h n hn).1 k hk), ((h2 n hn).2).trans (h n hn).2⟩
theorem SI_close {d9 e9 : Nat} {z26 : Int32} (hV : VL cy ad τ Y σ) (h : SI Y σ B) (hj : j < 12) (h1 : sgR σ (yp Y j) 1 = some d9) (h2 : sgR σ (yp Y j) 2 = some e9) (hz : z26.toInt = hubC (sgI σ d9 11) (sgI σ e9 3).toInt) (hr : resN Y σ (yp Y j) (-1 * (2 + sgI σ e9 3)) (-1 * z26) (sgI σ d9 12) 8 σ26) (hJ : evJ Y (yp Y j) σ26 σ3) (h0 : sgI σ3 (yp Y j) 13 = 0) :
    SI Y (sgPR (sgPR (sgPI σ3 e9 2 0) (yp Y j) 1 none) (yp Y j) 2 none) B ∧ dvS Y σ (sgPR (sgPR (sgPI σ3 e9 2 0) (yp Y j) 1 none) (yp Y j) 2 none) ∧ sgR (sgPR (sgPR (sgPI σ3 e9 2 0) (yp Y j) 1 none) (yp Y j) 2 none) (yp Y j) 1 = none ∧ ∀ n, n < 12 → n ≠ j → sgR (sgPR (sgPR (sgPI σ3 e9 2 0) (yp Y j) 1 none) (yp Y j) 2 none) (yp Y n) 1 = sgR σ (yp Y n) 1 := by
  have hLs := hV.2
  obtain ⟨LX, LD, Ld, LE, Le, LP9, Lp, Lt, LU, LA, Lz⟩ := hV.2
  have te : sgT σ e9 = 8 := pi_en hV hj h2
  generalize es : sgPR (sgPR (sgPI σ3 e9 2 0) (yp Y j) 1 none) (yp Y j) 2 none = s2
  have fI : ∀ {a k t ci}, sgT σ a = ci + 1 → ci + 1 < 100 → ci ≠ 8 → (sgC ci)[k]? = some t → t < 3 → (a ≠ yp Y j ∨ (k ≠ 12 ∧ k ≠ 13)) → (ci ≠ 7 ∨ k ≠ 2) → sgI s2 a k = sgI σ a k := by
    intro a k t ci q1 q2 q3 q4 q5 q6 q7
    rw [← es]
    show sgI (sgPI σ3 e9 2 0) a k = _
    rw [sgI_PI, if_neg (fun z => by rcases q7 with w | w; (· rw [z.1, te] at q1; omega); (· exact w z.2))]
    have n1 : a ≠ yh Y := fun z => by rw [z, LA.1] at q1; omega
    have n2 : a ≠ yk Y := fun z => by rw [z, LA.2.2.1] at q1; omega
    exact (hJ.2.1 a k t ci (((hr.1 a).1).trans q1) q2 q3 q4 q5 q6).trans (hr.2.2.1 a k n1 n2)
  have fR : ∀ {a k ci}, sgT σ a = ci + 1 → ci + 1 < 100 → (sgC ci)[k]? = some 3 → (a ≠ yp Y j ∨ (k ≠ 1 ∧ k ≠ 2)) → sgR s2 a k = sgR σ a k := by
    intro a k ci q1 q2 q3 q4
    rw [← es, sgR_PR, if_neg (fun z => by rcases q4 with w | w; exact w z.1; exact w.2 z.2), sgR_PR, if_neg (fun z => by rcases q4 with w | w; exact w z.1; exact w.1 z.2)]
    exact (hJ.2.2.1 a k ci (((hr.1 a).1).trans q1) q2 q3).trans (hr.2.1 a k)
  have d1 : sgR s2 (yp Y j) 1 = none := by rw [← es, sgR_PR, if_neg (fun z => by omega)]; exact if_pos ⟨rfl, rfl⟩
  have d2 : sgR s2 (yp Y j) 2 = none := by rw [← es]; exact if_pos ⟨rfl, rfl⟩
  have d13 : sgI s2 (yp Y j) 13 = 0 := by
    rw [← es]
    show sgI (sgPI σ3 e9 2 0) (yp Y j) 13 = 0
    rw [sgI_PI, if_neg (fun z => by omega)]
    exact h0
  have hh : ∀ m, sgI s2 (yh Y) m = sgI σ26 (yh Y) m := fun m => by
    rw [← es]
    show sgI (sgPI σ3 e9 2 0) (yh Y) m = _
    rw [sgI_PI, if_neg (fun z => by have := z.1; rw [← this, LA.1] at te; omega)]
    exact hJ.2.2.2.1 m
  have hk : ∀ m, sgI s2 (yk Y) m = sgI σ26 (yk Y) m := fun m => by
    rw [← es]
    show sgI (sgPI σ3 e9 2 0) (yk Y) m = _
    rw [sgI_PI, if_neg (fun z => by have := z.1; rw [← this, LA.2.2.1] at te; omega)]
    exact hJ.2.2.2.2.1 m
  have a7 : ∀ k t, (sgC 6)[k]? = some t → t < 3 → agI σ s2 7 k := fun k t q1 q2 a ha => fI (ci := 6) ha (by decide) (by decide) q1 q2 (Or.inl (fun z => by rw [z, (Lp j hj).1] at ha; omega)) (Or.inl (by decide))
  have a8 : ∀ k t, (sgC 7)[k]? = some t → t < 3 → k ≠ 2 → agI σ s2 8 k := fun k t q1 q2 q3 a ha => fI (ci := 7) ha (by decide) (by decide) q1 q2 (Or.inl (fun z => by rw [z, (Lp j hj).1] at ha; omega)) (Or.inr q3)
  have a13 : ∀ k t, (sgC 12)[k]? = some t → t < 3 → agI σ s2 13 k := fun k t q1 q2 a ha => fI (ci := 12) ha (by decide) (by decide) q1 q2 (Or.inl (fun z => by rw [z, (Lp j hj).1] at ha; omega)) (Or.inl (by decide))
  have r8 : agR σ s2 7 8 := fun a ha => fR (ci := 6) ha (by decide) rfl (Or.inl (fun z => by rw [z, (Lp j hj).1] at ha; omega))
  have pI : ∀ n k t, n < 12 → (sgC 10)[k]? = some t → t < 3 → (n ≠ j ∨ (k ≠ 12 ∧ k ≠ 13)) → sgI s2 (yp Y n) k = sgI σ (yp Y n) k := fun n k t hn q1 q2 q3 => fI (ci := 10) (Lp n hn).1 (by decide) (by decide) q1 q2 (by
    rcases q3 with w | w
    · exact Or.inl (fun z => w (Lz.2.2.2.1 n j hn hj z))
    · exact Or.inr w) (Or.inl (by decide))
  have pR : ∀ n k, n < 12 → (sgC 10)[k]? = some 3 → n ≠ j → sgR s2 (yp Y n) k = sgR σ (yp Y n) k := fun n k hn q1 q3 => fR (ci := 10) (Lp n hn).1 (by decide) q1 (Or.inl (fun z => q3 (Lz.2.2.2.1 n j hn hj z)))
  have tX : agI σ s2 15 1 := fun a ha => fI (ci := 14) ha (by decide) (by decide) (k := 1) (t := 0) rfl (by decide) (Or.inl (fun z => by rw [z, (Lp j hj).1] at ha; omega)) (Or.inl (by decide))
  have hg := en_gr hV te
  have eg : (2 + sgI σ e9 3).toInt = 2 + (sgI σ e9 3).toInt := hc_h hg.1 (by omega)
  have en : (-1 * (2 + sgI σ e9 3)).toInt = -(2 + (sgI σ e9 3).toInt) := by rw [i_neg1 (by omega) (by omega), eg]
  have hu := hubC_rg (r := sgI σ d9 11) hg.1 hg.2
  have ez : (-1 * z26).toInt = -hubC (sgI σ d9 11) (sgI σ e9 3).toInt := by rw [i_neg1 (by omega) (by omega), hz]
  refine ⟨⟨siT_eq hLs h.1 (a7 _ 1 rfl (by decide)) (a7 _ 0 rfl (by decide)) (a7 _ 0 rfl (by decide)) r8 tX, fun n hn => ?_, ?_, fun n hn => ?_, ?_, siB_eq h.2.2.2.2.2 (fI (ci := 14) LX.1 (by decide) (by decide) (k := 7) (t := 0) rfl (by decide) (Or.inl (fun z => by have q := LX.1; rw [z, (Lp j hj).1] at q; exact absurd q (by decide))) (Or.inl (by decide)))⟩, fun n hn => ⟨fun k hk => ?_, r8 _ (Ld n hn).1⟩, d1, fun n hn hne => pR n 1 hn rfl hne⟩
  · by_cases c : n = j
    · subst c
      exact Or.inl ⟨d1, d2, d13⟩
    · exact siP1_eq hLs (h.2.1 n hn) (fun i hi w _ => by rw [a7 7 1 rfl (by decide) _ (Ld i hi).1]; exact w) (pR n 1 hn rfl c) (pR n 2 hn rfl c) (pI n 13 0 hn rfl (by decide) (Or.inl c))
  · refine sC_ch (j := j) h.2.2.1 hj (fun f n hn hne => ?_) (fun f g n hn hne => ?_) (fun f f0 f1 => ?_) (fun f g f0 f1 g0 g1 => ?_)
    · exact cH_eq hV hn (pR n 1 hn rfl hne) (pR n 2 hn rfl hne) (pI n 4 0 hn rfl (by decide) (Or.inl hne)) (pI n 5 0 hn rfl (by decide) (Or.inl hne)) (fun e he => a8 3 0 rfl (by decide) (by decide) _ (pi_en hV hn he))
    · exact cU_eq hV hn (pR n 1 hn rfl hne) (pR n 2 hn rfl hne) (pI n 4 0 hn rfl (by decide) (Or.inl hne)) (pI n 5 0 hn rfl (by decide) (Or.inl hne)) (fun e he => a8 3 0 rfl (by decide) (by decide) _ (pi_en hV hn he)) (fun d hd => ⟨a7 11 1 rfl (by decide) _ (pi_dv hV hn hd), a7 12 0 rfl (by decide) _ (pi_dv hV hn hd)⟩)
    · have q1 := h.2.2.1.1 f f0 f1
      have q2 := sumTo_ge (u := cH Y σ f) hj (fun m hm => (cH_rg hV hm).1)
      rw [cH_no d1, hh, hr.2.2.2.1 f f0 f1]
      rw [cH_is h1 h2] at q2 ⊢
      by_cases c : due σ (yp Y j) f
      · rw [if_pos c] at q2
        rw [if_pos ⟨by omega, c⟩, if_pos c, i_add (by rw [en]; omega) (by rw [en]; omega), en]
        omega
      · rw [if_neg (fun z => c z.2), if_neg c]
        omega
    · have q1 := h.2.2.1.2 f g f0 f1 g0 g1
      have q2 := sumTo_ge (u := cU Y σ f g) hj (fun m hm => (cU_rg hV hm).1)
      rw [cU_no d1, hk, hr.2.2.2.2 f g f0 f1 g0 g1]
      rw [cU_is h1 h2] at q2 ⊢
      by_cases c : due σ (yp Y j) f ∧ sgI σ d9 12 = g
      · rw [if_pos c] at q2
        rw [if_pos ⟨by omega, c.1, c.2⟩, if_pos c, i_add (by rw [ez]; omega) (by rw [ez]; omega), ez]
        omega
      · rw [if_neg (fun z => c z.2), if_neg c]
        omega
  · by_cases c : n = j
    · subst c
      intro e he
      rw [d2] at he
      cases he
    · exact siR1_eq hV hn (h.2.2.2.1 n hn) (pR n 2 hn rfl c) (pI n 12 0 hn rfl (by decide) (Or.inl c)) (pI n 13 0 hn rfl (by decide) (Or.inl c)) (a8 1 2 rfl (by decide) (by decide)) (a13 1 0 rfl (by decide)) (a13 2 0 rfl (by decide))
  · exact siD_eq hLs h.2.2.2.2.1 (a8 0 2 rfl (by decide) (by decide)) (a8 1 2 rfl (by decide) (by decide)) (a8 6 0 rfl (by decide) (by decide)) (fun i k hi hk => fI (ci := 5) (Le i k hi hk).2.2 (by decide) (by decide) (k := 3) (t := 0) rfl (by decide) (Or.inr (by decide)) (Or.inl (by decide)))
  · rcases hk with rfl | rfl | rfl | rfl | rfl | rfl
    · exact a7 7 1 rfl (by decide) _ (Ld n hn).1
    · exact a7 10 0 rfl (by decide) _ (Ld n hn).1
    · exact a7 11 1 rfl (by decide) _ (Ld n hn).1
    · exact a7 12 0 rfl (by decide) _ (Ld n hn).1
    · exact a7 13 0 rfl (by decide) _ (Ld n hn).1
    · exact a7 17 2 rfl (by decide) _ (Ld n hn).1
/-- the devices below i that are leaving have left -/
def lvJ (Y : CY) (σ σ2 : SG) (i : Nat) : Prop := (∀ a k, sgT σ a ≠ 7 → sgI σ2 a k = sgI σ a k ∧ sgR σ2 a k = sgR σ a k) ∧ ∀ n, n < 16 →
  (n < i → ¬ sgI σ (yd Y n) 17 = 0 → sgI σ2 (yd Y n) 7 = 117 ∧ sgR σ2 (yd Y n) 8 = none ∧ sgI σ2 (yd Y n) 13 = 0) ∧ (i ≤ n ∨ sgI σ (yd Y n) 17 = 0 → ∀ k, sgI σ2 (yd Y n) k = sgI σ (yd Y n) k ∧ sgR σ2 (yd Y n) k = sgR σ (yd Y n) k) ∧ sgI σ2 (yd Y n) 17 = sgI σ (yd Y n) 17
theorem lvJ_0 : lvJ Y σ σ 0 := ⟨fun _ _ _ => ⟨rfl, rfl⟩, fun n _ => ⟨fun z => absurd z (Nat.not_lt_zero n), fun _ _ => ⟨rfl, rfl⟩, rfl⟩⟩
theorem lvJ_no (h : lvJ Y σ σ2 i) (hi : i < 16) (h0 : sgI σ2 (yd Y i) 17 = 0) : lvJ Y σ σ2 (i + 1) := by
  refine ⟨h.1, fun n hn => ⟨fun z1 z2 => ?_, fun z1 => ?_, (h.2 n hn).2.2⟩⟩
  · by_cases c : n = i
    · subst c
      rw [(h.2 n hn).2.2] at h0
      exact absurd h0 z2
    · exact (h.2 n hn).1 (by omega) z2
  · refine (h.2 n hn).2.1 ?_
    rcases z1 with z | z
    · exact Or.inl (by omega)
    · exact Or.inr z
theorem lvJ_go (hL : LY Y σ) (h : lvJ Y σ σ1 i) (hi : i < 16) (h0 : ¬ sgI σ1 (yd Y i) 17 = 0) (hg : gone (yd Y i) σ1 σ2) : lvJ Y σ σ2 (i + 1) := by
  have hne : ∀ n, n < 16 → n ≠ i → yd Y n ≠ yd Y i := fun n hn c z => c (hL.2.2.2.2.2.2.2.2.2.2.1 n i hn hi z)
  have hsame : ∀ b k, b ≠ yd Y i → sgI σ2 b k = sgI σ1 b k ∧ sgR σ2 b k = sgR σ1 b k := fun b k hb => hg.1.2 b k hb
  refine ⟨fun a k ha => ?_, fun n hn => ?_⟩
  · have q1 := hsame a k (fun z => ha (by rw [z]; exact (hL.2.2.1 i hi).1))
    have q2 := h.1 a k ha
    exact ⟨q1.1.trans q2.1, q1.2.trans q2.2⟩
  · by_cases c : n = i
    · subst c
      have q := (h.2 n hn).2.2
      refine ⟨fun _ _ => ⟨hg.2.1, hg.2.2.1, hg.2.2.2.2.2.1⟩, fun z => ?_, (hg.2.2.2.2.2.2.2 17 (by omega)).trans q⟩
      rw [q] at h0
      rcases z with z | z
      · omega
      · exact absurd z h0
    · have q := h.2 n hn
      refine ⟨fun z1 z2 => ?_, fun z k => ?_, ((hsame _ 17 (hne n hn c)).1).trans q.2.2⟩
      · have q1 := q.1 (by omega) z2
        exact ⟨((hsame _ 7 (hne n hn c)).1).trans q1.1, ((hsame _ 8 (hne n hn c)).2).trans q1.2.1, ((hsame _ 13 (hne n hn c)).1).trans q1.2.2⟩
      · have q1 := q.2.1 (by rcases z with z | z; exact Or.inl (by omega); exact Or.inr z) k
        exact ⟨((hsame _ k (hne n hn c)).1).trans q1.1, ((hsame _ k (hne n hn c)).2).trans q1.2⟩
theorem SI_leave (hV : VL cy ad τ Y σ) (h : SI Y σ B) (hcl : ∀ n m, n < 16 → m < 16 → ¬ sgI σ (yd Y n) 7 = 117 → sgI σ (yd Y n) 17 = 0 → sgR σ (yd Y n) 8 = some (yd Y m) → sgI σ (yd Y m) 17 = 0) (h0 : sgI σ (yd Y 0) 17 = 0) (hp : ∀ j, j < 12 → sgR σ (yp Y j) 1 = none ∨ ∃ d, sgR σ (yp Y j) 1 = some d ∧ sgI σ d 17 = 0) (hJ : lvJ Y σ σ2 16) : SI Y σ2 B := by
  obtain ⟨⟨a1, a2, ⟨a3, a4, a5⟩, a6, a7, a8, a9⟩, b, c, d, e⟩ := h
  have hLs := hV.2
  obtain ⟨LX, LD, Ld, LE, Le, LP9, Lp, Lt, LU, LA, Lz⟩ := hV.2
  have st : ∀ n, n < 16 → ¬ sgI σ2 (yd Y n) 7 = 117 → sgI σ (yd Y n) 17 = 0 ∧ ¬ sgI σ (yd Y n) 7 = 117 := fun n hn hs => by
    have q0 : sgI σ (yd Y n) 17 = 0 := Classical.byContradiction fun z => hs ((hJ.2 n hn).1 hn z).1
    have q := ((hJ.2 n hn).2.1 (Or.inr q0) 7).1
    rw [q] at hs
    exact ⟨q0, hs⟩
  have sm : ∀ n k, n < 16 → sgI σ (yd Y n) 17 = 0 → sgI σ2 (yd Y n) k = sgI σ (yd Y n) k ∧ sgR σ2 (yd Y n) k = sgR σ (yd Y n) k := fun n k hn z => (hJ.2 n hn).2.1 (Or.inr z) k
  have oI : ∀ t k, t ≠ 7 → agI σ σ2 t k := fun t k ht a ha => (hJ.1 a k (by rw [ha]; exact ht)).1
  have oR : ∀ t k, t ≠ 7 → agR σ σ2 t k := fun t k ht a ha => (hJ.1 a k (by rw [ha]; exact ht)).2
  have ad0 : ∀ n, n < 16 → ¬ sgI σ2 (yd Y n) 13 = 0 → sgI σ2 (yd Y n) 13 = sgI σ (yd Y n) 13 := fun n hn hs => by
    have q0 : sgI σ (yd Y n) 17 = 0 := Classical.byContradiction fun z => hs ((hJ.2 n hn).1 hn z).2.2
    exact (sm n 13 hn q0).1
  refine ⟨⟨fun n hn hne hs => ?_, fun n hn hs => ?_, ⟨?_, ?_, ?_⟩, fun n hn hs => ?_, fun n hn hs => ?_, fun n hn hs => ?_, fun n m hn hm hs => ?_⟩, fun n hn => ?_, ?_, ?_, ?_, siB_eq e.2 (oI 15 7 (by decide) _ LX.1)⟩
  · obtain ⟨q0, q1⟩ := st n hn hs
    obtain ⟨m, w1, w2, w3, w4⟩ := a1 n hn hne q1
    have q2 := hcl n m hn w1 q1 q0 w2
    exact ⟨m, w1, by rw [(sm n 8 hn q0).2]; exact w2, by rw [(sm m 7 w1 q2).1]; exact w3, by rw [(sm n 10 hn q0).1, (sm m 10 w1 q2).1]; exact w4⟩
  · by_cases z : sgI σ (yd Y n) 17 = 0
    · rw [(sm n 7 hn z).1] at hs
      rw [(sm n 8 hn z).2]
      exact a2 n hn hs
    · exact ((hJ.2 n hn).1 hn z).2.1
  · rw [(sm 0 7 (by decide) h0).1]; exact a3
  · rw [(sm 0 8 (by decide) h0).2]; exact a4
  · rw [(sm 0 10 (by decide) h0).1]; exact a5
  · obtain ⟨q0, q1⟩ := st n hn hs
    rw [(sm n 10 hn q0).1]
    exact a6 n hn q1
  · rw [oI 15 1 (by decide) _ LX.1] at hs
    by_cases z : sgI σ (yd Y n) 17 = 0
    · rw [(sm n 7 hn z).1]
      exact a7 n hn hs
    · exact ((hJ.2 n hn).1 hn z).1
  · by_cases z : sgI σ (yd Y n) 17 = 0
    · rw [(sm n 7 hn z).1] at hs
      rw [(sm n 13 hn z).1]
      exact a8 n hn hs
    · exact ((hJ.2 n hn).1 hn z).2.2
  · intro hq
    have e1 := ad0 n hn hs
    have e2 := ad0 m (by omega) (by rw [← hq]; exact hs)
    rw [e1] at hs
    rw [e1, e2] at hq
    exact a9 n m hn hm hs hq
  · refine siP1_eq hLs (b n hn) (fun i hi w1 w2 => ?_) (oR 11 1 (by decide) _ (Lp n hn).1) (oR 11 2 (by decide) _ (Lp n hn).1) (oI 11 13 (by decide) _ (Lp n hn).1)
    rcases hp n hn with q | ⟨d9, q1, q2⟩
    · rw [q] at w2; cases w2
    · rw [q1] at w2
      cases w2
      rw [(sm i 7 hi q2).1]
      exact w1
  · refine sC_eq hV c (fun j d9 hj hd => ?_) (fun j e9 hj he => oI 8 3 (by decide) _ (pi_en hV hj he)) (oR 11 1 (by decide)) (oR 11 2 (by decide)) (oI 11 4 (by decide)) (oI 11 5 (by decide)) (fun m => oI 100 m (by decide) _ LA.1) (fun m => oI 100 m (by decide) _ LA.2.2.1)
    rcases hp j hj with q | ⟨d8, q1, q2⟩
    · rw [q] at hd; cases hd
    · rcases b j hj with ⟨q3, -⟩ | ⟨i, k, w1, w2, w3, -⟩
      · rw [q3] at hd; cases hd
      · rw [q1] at w3 hd
        cases w3
        cases hd
        exact ⟨(sm i 11 w1 q2).1, (sm i 12 w1 q2).1⟩
  · exact siR_eq hV d (oR 11 2 (by decide)) (oI 11 12 (by decide)) (oI 11 13 (by decide)) (oI 8 1 (by decide)) (oI 13 1 (by decide)) (oI 13 2 (by decide))
  · exact siD_eq hLs e.1 (oI 8 0 (by decide)) (oI 8 1 (by decide)) (oI 8 6 (by decide)) (fun i k hi hk => oI 6 3 (by decide) _ (Le i k hi hk).2.2)
/-! who is below whom -/
theorem hp_eq (h : ∀ x, sgR σ2 x 8 = sgR σ x 8) {d n : Nat} : hp σ2 d n = hp σ d n := by
  induction n with
  | zero => rfl
  | succ n ih =>
    show (hp σ2 d n).bind (fun x => sgR σ2 x 8) = (hp σ d n).bind (fun x => sgR σ x 8)
    rw [ih, show (fun x => sgR σ2 x 8) = (fun x => sgR σ x 8) from funext h]
theorem hp_s {d h n : Nat} (hd : sgR σ d 8 = some h) : hp σ d (n + 1) = hp σ h n := by
  induction n with
  | zero => exact hd
  | succ n ih =>
    show (hp σ d (n + 1)).bind (fun x => sgR σ x 8) = (hp σ h n).bind (fun x => sgR σ x 8)
    rw [ih]
theorem hp_0 {d n : Nat} (hd : sgR σ d 8 = none) : hp σ d (n + 1) = none := by
  induction n with
  | zero => exact hd
  | succ n ih =>
    show (hp σ d (n + 1)).bind (fun x => sgR σ x 8) = none
    rw [ih]
    rfl
theorem hp_dp (h : siT Y σ) (hi : i < 16) (hs : ¬ sgI σ (yd Y i) 7 = 117) : ∀ {n x : Nat}, hp σ (yd Y i) n = some x → ∃ k, k < 16 ∧ x = yd Y k ∧ ¬ sgI σ (yd Y k) 7 = 117 ∧ (sgI σ (yd Y i) 10).toInt = (sgI σ (yd Y k) 10).toInt + n
  | 0, x, h9 => by
    cases h9
    exact ⟨i, hi, rfl, hs, by simp⟩
  | n + 1, x, h9 => by
    have h9 : (hp σ (yd Y i) n).bind (fun x => sgR σ x 8) = some x := h9
    cases e : hp σ (yd Y i) n with
    | none => rw [e] at h9; cases h9
    | some y =>
      rw [e] at h9
      have h9 : sgR σ y 8 = some x := h9
      obtain ⟨k, k1, rfl, k3, k4⟩ := hp_dp h hi hs e
      have hk : k ≠ 0 := fun z => by rw [z, h.2.2.1.2.1] at h9; cases h9
      obtain ⟨m, m1, m2, m3, m4⟩ := h.1 k k1 hk k3
      rw [m2] at h9
      cases h9
      exact ⟨m, m1, rfl, m3, by rw [Int.natCast_add, k4, m4]; simp; omega⟩
/-- the device n leaves, when top is detached -/
def lvP (Y : CY) (σ : SG) (tp : Nat) (wt : Int32) (n : Nat) : Prop := (yd Y n = tp ∧ ¬ wt = 0) ∨ (¬ yd Y n = tp ∧ ∃ m, m < 16 ∧ hp σ (yd Y n) m = some tp)
theorem lv_cl (hL : LY Y σ) (h : siT Y σ) {t9 n m : Nat} {wt : Int32} (ht : t9 < 16) (hn : n < 16) (hm : m < 16) (hs : ¬ sgI σ (yd Y n) 7 = 117) (h0 : ¬ lvP Y σ (yd Y t9) wt n) (hr : sgR σ (yd Y n) 8 = some (yd Y m)) : ¬ lvP Y σ (yd Y t9) wt m := by
  have hn0 : n ≠ 0 := fun z => by rw [z, h.2.2.1.2.1] at hr; cases hr
  obtain ⟨m9, w1, w2, w3, w4⟩ := h.1 n hn hn0 hs
  have em : m9 = m := hL.2.2.2.2.2.2.2.2.2.2.1 m9 m w1 hm (Option.some.inj (w2.symm.trans hr))
  subst em
  have r6 := h.2.2.2.1 m9 w1 w3
  rintro (⟨z1, z2⟩ | ⟨z1, q, q1, q2⟩)
  · refine h0 (Or.inr ⟨fun w => ?_, 1, by decide, by rw [hp_s hr]; rw [z1]; rfl⟩)
    have := hL.2.2.2.2.2.2.2.2.2.2.1 n m9 hn w1 (w.trans z1.symm)
    subst this
    omega
  · obtain ⟨k, k1, k2, k3, k4⟩ := hp_dp h w1 w3 q2
    have ek : k = t9 := hL.2.2.2.2.2.2.2.2.2.2.1 k t9 k1 ht k2.symm
    subst ek
    have rk9 := h.2.2.2.1 k k1 k3
    by_cases c : yd Y n = yd Y k
    · have := hL.2.2.2.2.2.2.2.2.2.2.1 n k hn k1 c
      subst this
      omega
    · exact h0 (Or.inr ⟨c, q + 1, by omega, by rw [hp_s hr]; exact q2⟩)
theorem lv_0 (hL : LY Y σ) (h : siT Y σ) {t9 : Nat} {wt : Int32} (ht : t9 < 16) (hw : t9 = 0 → wt = 0) : ¬ lvP Y σ (yd Y t9) wt 0 := by
  rintro (⟨z1, z2⟩ | ⟨z1, q, q1, q2⟩)
  · exact z2 (hw (hL.2.2.2.2.2.2.2.2.2.2.1 0 t9 (by decide) ht z1).symm)
  · cases q with
    | zero => exact z1 (Option.some.inj q2)
    | succ q => rw [hp_0 h.2.2.1.2.1] at q2; cases q2
/-- below i, the devices are marked that leave -/
def mk17 (Y : CY) (σ σ1 : SG) (P : Nat → Prop) (i : Nat) : Prop := (∀ a, sgT σ1 a = sgT σ a) ∧ (∀ a k, sgT σ a ≠ 7 ∨ k ≠ 17 → sgI σ1 a k = sgI σ a k) ∧ (∀ a k, sgR σ1 a k = sgR σ a k) ∧ ∀ n, n < i → (¬ sgI σ1 (yd Y n) 17 = 0 ↔ P n)
theorem mk_0 {P : Nat → Prop} : mk17 Y σ σ P 0 := ⟨fun _ => rfl, fun _ _ _ => rfl, fun _ _ => rfl, fun n hn => absurd hn (Nat.not_lt_zero n)⟩
theorem mk_st {P : Nat → Prop} {b : Int32} (hL : LY Y σ) (h : mk17 Y σ σ1 P i) (hi : i < 16) (hb : ¬ b = 0 ↔ P i) : mk17 Y σ (sgPI σ1 (yd Y i) 17 b) P (i + 1) := by
  refine ⟨h.1, fun a k hk => ?_, h.2.2.1, fun n hn => ?_⟩
  · rw [sgI_PI, if_neg (fun z => by rcases hk with w | w; (· rw [z.1] at w; exact w (hL.2.2.1 i hi).1); (· exact w z.2))]
    exact h.2.1 a k hk
  · rw [sgI_PI]
    by_cases c : n = i
    · subst c
      rw [if_pos ⟨rfl, rfl⟩]
      exact hb
    · rw [if_neg (fun z => c (hL.2.2.2.2.2.2.2.2.2.2.1 n i (by omega) hi z.1))]
      exact h.2.2.2 n (by omega)
theorem mk_SI {P : Nat → Prop} (hV : VL cy ad τ Y σ) (h : SI Y σ B) (hm : mk17 Y σ σ1 P i) : SI Y σ1 B :=
  SI_eq hV h (fun k hk a _ => hm.2.1 a k (Or.inr (by omega))) (fun a _ => hm.2.2.1 a 8) (fun a _ => hm.2.1 a 1 (Or.inr (by decide))) (fun a _ => hm.2.1 a 7 (Or.inr (by decide))) (fun k _ a _ => hm.2.2.1 a k) (fun k hk a _ => hm.2.1 a k (Or.inr (by omega))) (fun k hk a _ => hm.2.1 a k (Or.inr (by omega))) (fun k hk a _ => hm.2.1 a k (Or.inr (by omega))) (fun i k hi hk => hm.2.1 _ 3 (Or.inr (by decide))) (fun j => hm.2.1 _ j (Or.inl (by rw [hV.2.2.2.2.2.2.2.2.2.2.1.1]; decide))) (fun j => hm.2.1 _ j (Or.inl (by rw [hV.2.2.2.2.2.2.2.2.2.2.1.2.2.1]; decide)))
theorem lvP_1 {tp : Nat} {wt : Int32} (c : yd Y n = tp) : ¬ wt = 0 ↔ lvP Y σ tp wt n := ⟨fun z => Or.inl ⟨c, z⟩, fun z => z.elim (fun w => w.2) (fun w => absurd c w.1)⟩
theorem lvP_2 {tp : Nat} {wt b : Int32} {P : Nat → Prop} (hm : mk17 Y σ σ1 P i) (c : ¬ yd Y n = tp) (hb : sgb b (∃ m, m < 16 ∧ hp σ1 (yd Y n) m = some tp)) : ¬ b = 0 ↔ lvP Y σ tp wt n := by
  have e : ∀ m, hp σ1 (yd Y n) m = hp σ (yd Y n) m := fun m => hp_eq (fun x => hm.2.2.1 x 8)
  constructor
  · intro z
    obtain ⟨m, m1, m2⟩ := sgb_t hb z
    exact Or.inr ⟨c, m, m1, by rw [← e]; exact m2⟩
  · rintro (⟨z, -⟩ | ⟨-, m, m1, m2⟩)
    · exact absurd z c
    · intro z
      exact sgb_f hb z ⟨m, m1, by rw [e]; exact m2⟩
theorem sgb_F {b : Int32} {P : Prop} (h : sgb b P) : sgF 2 b := by
  rcases h with ⟨rfl, -⟩ | ⟨rfl, -⟩
  · exact ⟨by decide, by decide⟩
  · exact ⟨by decide, by decide⟩
/-- the pipe's device isn't marked -/
def qp (Y : CY) (σ : SG) (n : Nat) : Prop := ∀ i, i < 16 → sgR σ (yp Y n) 1 = some (yd Y i) → sgI σ (yd Y i) 17 = 0
theorem siP_e {d : Nat} (h : siP Y σ) (hj : j < 12) (hd : sgR σ (yp Y j) 1 = some d) : ∃ e, sgR σ (yp Y j) 2 = some e ∧ ∃ i k, i < 16 ∧ k < 3 ∧ d = yd Y i ∧ e = ye Y i k ∧ ¬ sgI σ (yd Y i) 7 = 117 := by
  rcases h j hj with ⟨q, -⟩ | ⟨i, k, w1, w2, w3, w4, w5⟩
  · rw [q] at hd; cases hd
  · rw [hd] at w3
    cases w3
    exact ⟨_, w4, i, k, w1, w2, rfl, rfl, w5⟩
theorem qp_c (h : ∀ n, n < j → n < 12 → qp Y σ n) (hd : dvS Y σ σ2) (h1 : sgR σ2 (yp Y j) 1 = none) (h2 : ∀ n, n < 12 → n ≠ j → sgR σ2 (yp Y n) 1 = sgR σ (yp Y n) 1) : ∀ n, n < j + 1 → n < 12 → qp Y σ2 n := by
  intro n hn h12 i hi hr
  by_cases c : n = j
  · rw [c, h1] at hr; cases hr
  · rw [h2 n h12 c] at hr
    rw [(hd i hi).1 17 (by omega)]
    exact h n (by omega) h12 i hi hr
theorem qp_n (h : ∀ n, n < j → n < 12 → qp Y σ n) (h1 : qp Y σ j) : ∀ n, n < j + 1 → n < 12 → qp Y σ n := by
  intro n hn h12
  by_cases c : n = j
  · rw [c]; exact h1
  · exact h n (by omega) h12
theorem SI_det {t9 : Nat} {wt : Int32} (hV : VL cy ad τ Y σ) (hI : SI Y σ B) (hm : mk17 Y σ σ1 (lvP Y σ (yd Y t9) wt) 16) (hd : dvS Y σ1 σ2) (hV2 : VL cy ad τ Y σ2) (h2 : SI Y σ2 B) (hq : ∀ n, n < 12 → qp Y σ2 n) (hJ : lvJ Y σ2 σ3 16) (ht : t9 < 16) (hw : t9 = 0 → wt = 0) : SI Y σ3 B := by
  have e : ∀ n k, n < 16 → k = 7 → sgI σ2 (yd Y n) k = sgI σ (yd Y n) k := fun n k hn hk => ((hd n hn).1 k (by omega)).trans (hm.2.1 _ k (Or.inr (by omega)))
  have r8 : ∀ n, n < 16 → sgR σ2 (yd Y n) 8 = sgR σ (yd Y n) 8 := fun n hn => ((hd n hn).2).trans (hm.2.2.1 _ 8)
  have m17 : ∀ n, n < 16 → (¬ sgI σ2 (yd Y n) 17 = 0 ↔ lvP Y σ (yd Y t9) wt n) := fun n hn => by
    rw [(hd n hn).1 17 (by omega)]
    exact hm.2.2.2 n hn
  refine SI_leave hV2 h2 (fun n m hn hm9 hs h0 hr => ?_) ?_ (fun j hj => ?_) hJ
  · rw [e n 7 hn rfl] at hs
    rw [r8 n hn] at hr
    exact Classical.byContradiction fun z => lv_cl hV.2 hI.1 ht hn hm9 hs (fun w => absurd h0 ((m17 n hn).mpr w)) hr ((m17 m hm9).mp z)
  · exact Classical.byContradiction fun z => lv_0 hV.2 hI.1 ht hw ((m17 0 (by decide)).mp z)
  · cases e1 : sgR σ2 (yp Y j) 1 with
    | none => exact Or.inl rfl
    | some d =>
      obtain ⟨-, -, i, k, w1, -, rfl, -⟩ := siP_e h2.2.1 hj e1
      exact Or.inr ⟨_, rfl, hq j hj i w1 e1⟩
end CSI2
