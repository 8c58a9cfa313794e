section CSI6
/-! p54: a pipe is opened -/
variable {cy : Nat → ClassId} {ad τ : List Nat} {Y : CY} {σ σ1 σ2 σ3 σ26 : SG} {B B2 : Int} {i j k h t a b e d n ci kd : Nat} {x y f g z p : Int32} {M : List (Nat × Nat × Nat)}
theorem mx1 : x.toInt ≤ (if p < x then x else p).toInt := by
  by_cases c : p < x
  · rw [if_pos c]; exact Int.le_refl _
  · rw [if_neg c]; exact i_nlt c
theorem mx2 : p.toInt ≤ (if p < x then x else p).toInt := by
  by_cases c : p < x
  · rw [if_pos c]; have := i_lt c; omega
  · rw [if_neg c]; exact Int.le_refl _
theorem pk_st {P : Int32 → Prop} {F : Int32 → Int} {i9 : Int32} (h : ∀ f : Int32, 0 ≤ f.toInt → f.toInt < i9.toInt → P f → F f ≤ p.toInt) (hx : P i9 → F i9 ≤ x.toInt) : ∀ f : Int32, 0 ≤ f.toInt → f.toInt < i9.toInt + 1 → P f → F f ≤ (if p < x then x else p).toInt := fun f f0 f1 hf => by
  by_cases c : f.toInt < i9.toInt
  · exact Int.le_trans (h f f0 c hf) mx2
  · have e : f = i9 := i_eq.mpr (by omega)
    rw [e] at hf ⊢
    exact Int.le_trans (hx hf) mx1
theorem sC_rg (hV : VL cy ad τ Y σ) (h : sC Y σ) (f0 : 0 ≤ f.toInt) (f1 : f.toInt < 8) : 0 ≤ (sgI σ (yh Y) f.toInt.toNat).toInt ∧ (sgI σ (yh Y) f.toInt.toNat).toInt ≤ 80 := by
  have q := h.1 f f0 f1
  have r := sumTo_rg (f := cH Y σ f) (u := 10) (by decide) (n := 12) (fun j hj => cH_rg hV hj)
  omega
theorem sC_ru (hV : VL cy ad τ Y σ) (h : sC Y σ) (f0 : 0 ≤ f.toInt) (f1 : f.toInt < 8) (g0 : 0 ≤ g.toInt) (g1 : g.toInt < 16) : 0 ≤ (sgI σ (yk Y) (g.toInt * 8 + f.toInt).toNat).toInt ∧ (sgI σ (yk Y) (g.toInt * 8 + f.toInt).toNat).toInt ≤ 48 := by
  have q := h.2 f g f0 f1 g0 g1
  have r := sumTo_rg (f := cU Y σ f g) (u := 72) (by decide) (n := 12) (fun j hj => cU_rg hV hj)
  omega
theorem one_mul32 (x : Int32) : 1 * x = x := Int32.one_mul x
theorem SI_open {kk w ph z : Int32} {s1 : SG} (hV : VL cy ad τ Y σ) (h : SI Y σ B) (hj : j < 12) (hi : i < 16) (hk : k < 3) (hp : sgR σ (yp Y j) 1 = none) (hs : ¬ sgI σ (yd Y i) 7 = 117)
    (hbH : ∀ f : Int32, 0 ≤ f.toInt → f.toInt < 8 → f &&& (w - 1) = ph → (sgI σ (yh Y) f.toInt.toNat).toInt + (2 + (sgI σ (ye Y i k) 3).toInt) ≤ 80)
    (hbU : ∀ f g : Int32, 0 ≤ f.toInt → f.toInt < 8 → 0 ≤ g.toInt → g.toInt < 16 → f &&& (w - 1) = ph → sgI σ (yd Y i) 12 = g → (sgI σ (yk Y) (g.toInt * 8 + f.toInt).toNat).toInt + hubC (sgI σ (yd Y i) 11) (sgI σ (ye Y i k) 3).toInt ≤ 48)
    (es : sgPI (sgPI (sgPI (sgPI (sgPI (sgPI (sgPI (sgPI (sgPI (sgPI (sgPR (sgPR σ (yp Y j) 1 (some (yd Y i))) (yp Y j) 2 (some (ye Y i k))) (yp Y j) 3 kk) (yp Y j) 9 32) (ye Y i k) 2 1) (yp Y j) 8 0) (yp Y j) 7 0) (yp Y j) 6 0) (ye Y i k) 4 0) (ye Y i k) 5 0) (yp Y j) 4 w) (yp Y j) 5 ph = s1)
    (hz : z.toInt = hubC (sgI s1 (yd Y i) 11) (sgI s1 (ye Y i k) 3).toInt) (hr : resN Y s1 (yp Y j) (1 * (2 + sgI s1 (ye Y i k) 3)) (1 * z) (sgI s1 (yd Y i) 12) 8 σ2) : SI Y σ2 B := by
  have hLs := hV.2
  obtain ⟨LX, LD, Ld, LE, Le, LP9, Lp, Lt, LU, LA, Lz⟩ := hV.2
  have te := (Le i k hi hk).1
  have tp := (Lp j hj).1
  have nI : ∀ a m, (a ≠ yp Y j ∨ m = 12 ∨ m = 13) → (a ≠ ye Y i k ∨ m = 0 ∨ m = 1 ∨ m = 3 ∨ m = 6) → sgI s1 a m = sgI σ a m := fun a m h1 h2 => by
    have q : ∀ r, r ≠ 12 → r ≠ 13 → ¬ (a = yp Y j ∧ m = r) := fun r r1 r2 w => by rcases h1 with u | u | u; exact u w.1; omega; omega
    have q2 : ∀ r, r ≠ 0 → r ≠ 1 → r ≠ 3 → r ≠ 6 → ¬ (a = ye Y i k ∧ m = r) := fun r r0 r1 r3 r6 w => by rcases h2 with u | u | u | u | u; exact u w.1; omega; omega; omega; omega
    rw [← es, sgI_PI, if_neg (q 5 (by decide) (by decide)), sgI_PI, if_neg (q 4 (by decide) (by decide)), sgI_PI, if_neg (q2 5 (by decide) (by decide) (by decide) (by decide)), sgI_PI, if_neg (q2 4 (by decide) (by decide) (by decide) (by decide)), sgI_PI, if_neg (q 6 (by decide) (by decide)), sgI_PI, if_neg (q 7 (by decide) (by decide)), sgI_PI, if_neg (q 8 (by decide) (by decide)), sgI_PI, if_neg (q2 2 (by decide) (by decide) (by decide) (by decide)), sgI_PI, if_neg (q 9 (by decide) (by decide)), sgI_PI, if_neg (q 3 (by decide) (by decide)), c_IR, c_IR]
  have nR : ∀ a m, a ≠ yp Y j ∨ (m ≠ 1 ∧ m ≠ 2) → sgR s1 a m = sgR σ a m := fun a m h1 => by
    rw [← es]
    show sgR (sgPR (sgPR σ (yp Y j) 1 (some (yd Y i))) (yp Y j) 2 (some (ye Y i k))) a m = _
    rw [sgR_PR, if_neg (fun w => by rcases h1 with u | u; exact u w.1; exact u.2 w.2), sgR_PR, if_neg (fun w => by rcases h1 with u | u; exact u w.1; exact u.1 w.2)]
  have p1 : sgR s1 (yp Y j) 1 = some (yd Y i) := by
    rw [← es]
    show sgR (sgPR (sgPR σ (yp Y j) 1 (some (yd Y i))) (yp Y j) 2 (some (ye Y i k))) (yp Y j) 1 = _
    rw [sgR_PR, if_neg (fun w => by omega)]
    exact if_pos ⟨rfl, rfl⟩
  have p2 : sgR s1 (yp Y j) 2 = some (ye Y i k) := by rw [← es]; exact if_pos ⟨rfl, rfl⟩
  have p5 : sgI s1 (yp Y j) 5 = ph := by rw [← es]; exact if_pos ⟨rfl, rfl⟩
  have p4 : sgI s1 (yp Y j) 4 = w := by rw [← es, c_nk (by decide)]; exact if_pos ⟨rfl, rfl⟩
  have eT : ∀ a, sgT s1 a = sgT σ a := fun a => by rw [← es]; rfl
  have fI : ∀ a m, sgT σ a ≠ 100 → (a ≠ yp Y j ∨ m = 12 ∨ m = 13) → (a ≠ ye Y i k ∨ m = 0 ∨ m = 1 ∨ m = 3 ∨ m = 6) → sgI σ2 a m = sgI σ a m := fun a m h0 h1 h2 => (hr.2.2.1 a m (fun u => h0 (by rw [u]; exact LA.1)) (fun u => h0 (by rw [u]; exact LA.2.2.1))).trans (nI a m h1 h2)
  have fR : ∀ a m, a ≠ yp Y j ∨ (m ≠ 1 ∧ m ≠ 2) → sgR σ2 a m = sgR σ a m := fun a m h1 => (hr.2.1 a m).trans (nR a m h1)
  have eo : ∀ t, t ≠ 11 → t ≠ 8 → t ≠ 100 → ∀ m, agI σ σ2 t m := fun t h1 h2 h3 m a ha => fI a m (by rw [ha]; exact h3) (Or.inl (fun u => h1 (by rw [← ha, u]; exact tp))) (Or.inl (fun u => h2 (by rw [← ha, u]; exact te)))
  have e8 : ∀ m, m = 0 ∨ m = 1 ∨ m = 3 ∨ m = 6 → agI σ σ2 8 m := fun m hm a ha => fI a m (by rw [ha]; decide) (Or.inl (fun u => by rw [u, tp] at ha; exact absurd ha (by decide))) (Or.inr hm)
  have pn : ∀ n, n < 12 → n ≠ j → yp Y n ≠ yp Y j := fun n hn hne u => hne (Lz.2.2.2.1 n j hn hj u)
  have pI : ∀ n m, n < 12 → n ≠ j → sgI σ2 (yp Y n) m = sgI σ (yp Y n) m := fun n m hn hne => fI _ m (by rw [(Lp n hn).1]; decide) (Or.inl (pn n hn hne)) (Or.inl (fun u => by have := (Lp n hn).1; rw [u, te] at this; exact absurd this (by decide)))
  have hc : sgI σ (yp Y j) 13 = 0 := by
    rcases h.2.1 j hj with ⟨-, -, q⟩ | ⟨i9, k9, w1, w2, w3, w4, w5⟩
    · exact q
    · rw [hp] at w3; cases w3
  have hc2 : sgI σ2 (yp Y j) 13 = 0 := (fI _ 13 (by rw [tp]; decide) (Or.inr (Or.inr rfl)) (Or.inl (fun u => by have := tp; rw [u, te] at this; exact absurd this (by decide)))).trans hc
  have g3 : sgI s1 (ye Y i k) 3 = sgI σ (ye Y i k) 3 := nI _ _ (Or.inl (fun u => by rw [u, tp] at te; exact absurd te (by decide))) (Or.inr (by omega))
  have td := (Ld i hi).1
  have g11 : ∀ m, sgI s1 (yd Y i) m = sgI σ (yd Y i) m := fun m => nI _ _ (Or.inl (fun u => by rw [u, tp] at td; exact absurd td (by decide))) (Or.inl (fun u => by rw [u, te] at td; exact absurd td (by decide)))
  have hg := en_gr hV te
  have eg : (2 + sgI σ (ye Y i k) 3).toInt = 2 + (sgI σ (ye Y i k) 3).toInt := hc_h hg.1 (by omega)
  have hu := hubC_rg (r := sgI σ (yd Y i) 11) hg.1 hg.2
  rw [g3, g11] at hz
  rw [g3, g11, one_mul32, one_mul32] at hr
  have r1 : sgR σ2 (yp Y j) 1 = some (yd Y i) := (hr.2.1 _ _).trans p1
  have r2 : sgR σ2 (yp Y j) 2 = some (ye Y i k) := (hr.2.1 _ _).trans p2
  have nyh : yp Y j ≠ yh Y ∧ yp Y j ≠ yk Y := ⟨fun u => by rw [u, LA.1] at tp; exact absurd tp (by decide), fun u => by rw [u, LA.2.2.1] at tp; exact absurd tp (by decide)⟩
  have r5 : sgI σ2 (yp Y j) 5 = ph := (hr.2.2.1 _ _ nyh.1 nyh.2).trans p5
  have r4 : sgI σ2 (yp Y j) 4 = w := (hr.2.2.1 _ _ nyh.1 nyh.2).trans p4
  have due1 : ∀ f : Int32, due s1 (yp Y j) f ↔ f &&& (w - 1) = ph := fun f => by
    show f &&& (sgI s1 (yp Y j) 4 - 1) = sgI s1 (yp Y j) 5 ↔ _
    rw [p4, p5]
  have due2 : ∀ f : Int32, due σ2 (yp Y j) f ↔ f &&& (w - 1) = ph := fun f => by
    show f &&& (sgI σ2 (yp Y j) 4 - 1) = sgI σ2 (yp Y j) 5 ↔ _
    rw [r4, r5]
  have e3 : sgI σ2 (ye Y i k) 3 = sgI σ (ye Y i k) 3 := e8 3 (by omega) _ te
  have e11 : ∀ m, sgI σ2 (yd Y i) m = sgI σ (yd Y i) m := fun m => eo 7 (by decide) (by decide) (by decide) m _ td
  have yhs : ∀ m, sgI s1 (yh Y) m = sgI σ (yh Y) m := fun m => nI _ _ (Or.inl (fun u => nyh.1 u.symm)) (Or.inl (fun u => by rw [← u, LA.1] at te; exact absurd te (by decide)))
  have yks : ∀ m, sgI s1 (yk Y) m = sgI σ (yk Y) m := fun m => nI _ _ (Or.inl (fun u => nyh.2 u.symm)) (Or.inl (fun u => by rw [← u, LA.2.2.1] at te; exact absurd te (by decide)))
  refine ⟨siT_eq hLs h.1 (eo _ (by decide) (by decide) (by decide) _) (eo _ (by decide) (by decide) (by decide) _) (eo _ (by decide) (by decide) (by decide) _) (fun a ha => fR a 8 (Or.inr (by decide))) (eo _ (by decide) (by decide) (by decide) _), fun n hn => ?_, ?_, fun n hn => ?_, siD_eq hLs h.2.2.2.2.1 (e8 0 (by omega)) (e8 1 (by omega)) (e8 6 (by omega)) (fun i k hi hk => eo 6 (by decide) (by decide) (by decide) 3 _ (Le i k hi hk).2.2), siB_eq h.2.2.2.2.2 (eo 15 (by decide) (by decide) (by decide) 7 _ LX.1)⟩
  · by_cases c : n = j
    · subst c
      exact Or.inr ⟨i, k, hi, hk, r1, r2, by rw [e11]; exact hs⟩
    · exact siP1_eq hLs (h.2.1 n hn) (fun m hm u _ => by rw [eo 7 (by decide) (by decide) (by decide) 7 _ (Ld m hm).1]; exact u) (fR _ 1 (Or.inl (pn n hn c))) (fR _ 2 (Or.inl (pn n hn c))) (pI n 13 hn c)
  · refine sC_ch (j := j) h.2.2.1 hj (fun f n hn hne => ?_) (fun f g n hn hne => ?_) (fun f f0 f1 => ?_) (fun f g f0 f1 g0 g1 => ?_)
    · exact cH_eq hV hn (fR _ 1 (Or.inl (pn n hn hne))) (fR _ 2 (Or.inl (pn n hn hne))) (pI n 4 hn hne) (pI n 5 hn hne) (fun e he => e8 3 (by omega) _ (pi_en hV hn he))
    · exact cU_eq hV hn (fR _ 1 (Or.inl (pn n hn hne))) (fR _ 2 (Or.inl (pn n hn hne))) (pI n 4 hn hne) (pI n 5 hn hne) (fun e he => e8 3 (by omega) _ (pi_en hV hn he)) (fun d hd => ⟨eo 7 (by decide) (by decide) (by decide) 11 _ (pi_dv hV hn hd), eo 7 (by decide) (by decide) (by decide) 12 _ (pi_dv hV hn hd)⟩)
    · have q1 := sC_rg hV h.2.2.1 f0 f1
      rw [cH_no hp, cH_is r1 r2, hr.2.2.2.1 f f0 f1, yhs, e3]
      by_cases c : f &&& (w - 1) = ph
      · have q2 := hbH f f0 f1 c
        rw [if_pos ⟨by omega, (due1 f).mpr c⟩, if_pos ((due2 f).mpr c), i_add (by rw [eg]; omega) (by rw [eg]; omega), eg]
        omega
      · rw [if_neg (fun u => c ((due1 f).mp u.2)), if_neg (fun u => c ((due2 f).mp u))]
        omega
    · have q1 := sC_ru hV h.2.2.1 f0 f1 g0 g1
      rw [cU_no hp, cU_is r1 r2, hr.2.2.2.2 f g f0 f1 g0 g1, yks, e3, e11, e11]
      by_cases c : f &&& (w - 1) = ph ∧ sgI σ (yd Y i) 12 = g
      · have q2 := hbU f g f0 f1 g0 g1 c.1 c.2
        rw [if_pos ⟨by omega, (due1 f).mpr c.1, c.2⟩, if_pos ⟨(due2 f).mpr c.1, c.2⟩, i_add (by rw [hz]; omega) (by rw [hz]; omega), hz]
        omega
      · rw [if_neg (fun u => c ⟨(due1 f).mp u.2.1, u.2.2⟩), if_neg (fun u => c ⟨(due2 f).mp u.1, u.2⟩)]
        omega
  · by_cases c : n = j
    · subst c
      intro e he hin x x0 x1
      have e0 : (0 : Int32).toInt = 0 := rfl
      rw [hc2, e0] at x1
      omega
    · exact siR1_eq hV hn (h.2.2.2.1 n hn) (fR _ 2 (Or.inl (pn n hn c))) (pI n 12 hn c) (pI n 13 hn c) (e8 1 (by omega)) (eo 13 (by decide) (by decide) (by decide) 1) (eo 13 (by decide) (by decide) (by decide) 2)
end CSI6
