section CLB
theorem cl_nfc {x : Int32} (h : sgF 1 x) : narrow .char (.int x) = .int x ∧ fits .char (.int x) = true := by
  obtain ⟨n, hn, e1, e2⟩ := vi_ofNat (x := x) h.1
  have h2 : x.toInt ≤ 65535 := h.2
  rw [e1]
  exact pk_charN (by omega)
theorem cl_nfz {x : Int32} (h : sgF 2 x) : narrow .boolean (.int x) = .int x ∧ fits .boolean (.int x) = true := by
  obtain ⟨n, hn, e1, e2⟩ := vi_ofNat (x := x) h.1
  have h2 : x.toInt ≤ 1 := h.2
  have : n = 0 ∨ n = 1 := by omega
  rw [e1]
  rcases this with rfl | rfl <;> exact ⟨rfl, rfl⟩
/-! p54: walks over the class's cells by addresses -/
/-! where the class's cells lie: a layout that no method changes -/
abbrev CY : Type := Nat → Nat → Nat → Nat
def yX (Y : CY) : Nat := Y 0 0 0
def yDA (Y : CY) : Nat := Y 1 0 0
def yd (Y : CY) (i : Nat) : Nat := Y 2 i 0
def yEA (Y : CY) (i : Nat) : Nat := Y 3 i 0
def ye (Y : CY) (i k : Nat) : Nat := Y 4 i k
def yr (Y : CY) (i k : Nat) : Nat := Y 5 i k
def yPA (Y : CY) : Nat := Y 6 0 0
def yp (Y : CY) (j : Nat) : Nat := Y 7 j 0
def yTA (Y : CY) (j : Nat) : Nat := Y 8 j 0
def yt (Y : CY) (j r : Nat) : Nat := Y 9 j r
def yu (Y : CY) : Nat := Y 10 0 0
def yh (Y : CY) : Nat := Y 11 0 0
def yk (Y : CY) : Nat := Y 12 0 0
def ya (Y : CY) : Nat := Y 13 0 0
def yc (Y : CY) : Nat := Y 14 0 0
def LY (Y : CY) (σ : SG) : Prop :=
  (sgT σ (yX Y) = 15 ∧ sgR σ (yX Y) 0 = some (yDA Y) ∧ sgR σ (yX Y) 5 = some (yPA Y) ∧ sgR σ (yX Y) 10 = some (yu Y) ∧ sgR σ (yX Y) 8 = some (ya Y) ∧ sgR σ (yX Y) 9 = some (yc Y)) ∧
  (sgT σ (yDA Y) = 104 ∧ sgN σ (yDA Y) = 16 ∧ ∀ i, i < 16 → sgR σ (yDA Y) i = some (yd Y i)) ∧
  (∀ i, i < 16 → sgT σ (yd Y i) = 7 ∧ (sgI σ (yd Y i) 0).toInt = i ∧ sgR σ (yd Y i) 19 = some (yEA Y i)) ∧
  (∀ i, i < 16 → sgT σ (yEA Y i) = 105 ∧ sgN σ (yEA Y i) = 3 ∧ ∀ k, k < 3 → sgR σ (yEA Y i) k = some (ye Y i k)) ∧
  (∀ i k, i < 16 → k < 3 → sgT σ (ye Y i k) = 8 ∧ sgR σ (ye Y i k) 7 = some (yr Y i k) ∧ sgT σ (yr Y i k) = 6) ∧
  (sgT σ (yPA Y) = 106 ∧ sgN σ (yPA Y) = 12 ∧ ∀ j, j < 12 → sgR σ (yPA Y) j = some (yp Y j)) ∧
  (∀ j, j < 12 → sgT σ (yp Y j) = 11 ∧ (sgI σ (yp Y j) 0).toInt = j ∧ sgR σ (yp Y j) 11 = some (yTA Y j)) ∧
  (∀ j, j < 12 → sgT σ (yTA Y j) = 107 ∧ sgN σ (yTA Y j) = 4 ∧ ∀ r, r < 4 → sgR σ (yTA Y j) r = some (yt Y j r) ∧ sgT σ (yt Y j r) = 13) ∧
  (sgT σ (yu Y) = 14 ∧ sgR σ (yu Y) 0 = some (yh Y) ∧ sgR σ (yu Y) 1 = some (yk Y)) ∧
  (sgT σ (yh Y) = 100 ∧ sgN σ (yh Y) = 8 ∧ sgT σ (yk Y) = 100 ∧ sgN σ (yk Y) = 128) ∧
  (∀ i j, i < 16 → j < 16 → yd Y i = yd Y j → i = j) ∧ (∀ i k j n, i < 16 → k < 3 → j < 16 → n < 3 → ye Y i k = ye Y j n → i = j ∧ k = n) ∧ (∀ i k j n, i < 16 → k < 3 → j < 16 → n < 3 → yr Y i k = yr Y j n → i = j ∧ k = n) ∧ (∀ i j, i < 12 → j < 12 → yp Y i = yp Y j → i = j) ∧ (∀ i k j n, i < 12 → k < 4 → j < 12 → n < 4 → yt Y i k = yt Y j n → i = j ∧ k = n) ∧ (∀ i k, i < 16 → k < 3 → yr Y i k ≠ ya Y ∧ yr Y i k ≠ yc Y) ∧ yh Y ≠ yk Y
/-- the same layout -/
theorem LY_eq {Y : CY} {σ σ2 : SG} (h : LY Y σ) (hT : ∀ a, sgT σ a ≠ 0 → sgT σ2 a = sgT σ a ∧ sgN σ2 a = sgN σ a) (hI : ∀ a, sgT σ a = 7 ∨ sgT σ a = 11 → sgI σ2 a 0 = sgI σ a 0)
    (hA : ∀ a j, sgT σ a = 104 ∨ sgT σ a = 105 ∨ sgT σ a = 106 ∨ sgT σ a = 107 → sgR σ2 a j = sgR σ a j)
    (hR : ∀ a k, (sgT σ a = 15 ∧ (k = 0 ∨ k = 5 ∨ k = 10 ∨ k = 8 ∨ k = 9)) ∨ (sgT σ a = 7 ∧ k = 19) ∨ (sgT σ a = 8 ∧ k = 7) ∨ (sgT σ a = 11 ∧ k = 11) ∨ (sgT σ a = 14 ∧ (k = 0 ∨ k = 1)) → sgR σ2 a k = sgR σ a k) : LY Y σ2 := by
  obtain ⟨⟨a0, a1, a2, a3, a4, a5⟩, ⟨b0, b1, b2⟩, c, d, e, ⟨f0, f1, f2⟩, g, i, ⟨j0, j1, j2⟩, ⟨k0, k1, k2, k3⟩, r⟩ := h
  have t : ∀ {a n : Nat}, sgT σ a = n → n ≠ 0 → sgT σ2 a = n := fun h0 h1 => ((hT _ (by rw [h0]; exact h1)).1).trans h0
  have n : ∀ {a n m : Nat}, sgT σ a = n → n ≠ 0 → sgN σ a = m → sgN σ2 a = m := fun h0 h1 h2 => ((hT _ (by rw [h0]; exact h1)).2).trans h2
  refine ⟨⟨t a0 (by decide), ?_, ?_, ?_, ?_, ?_⟩, ⟨t b0 (by decide), n b0 (by decide) b1, fun x hx => ?_⟩, fun x hx => ?_, fun x hx => ?_, fun x y hx hy => ?_, ⟨t f0 (by decide), n f0 (by decide) f1, fun x hx => ?_⟩, fun x hx => ?_, fun x hx => ?_, ⟨t j0 (by decide), ?_, ?_⟩, ⟨t k0 (by decide), n k0 (by decide) k1, t k2 (by decide), n k2 (by decide) k3⟩, r⟩
  · rw [hR _ _ (Or.inl ⟨a0, Or.inl rfl⟩)]; exact a1
  · rw [hR _ _ (Or.inl ⟨a0, Or.inr (Or.inl rfl)⟩)]; exact a2
  · rw [hR _ _ (Or.inl ⟨a0, Or.inr (Or.inr (Or.inl rfl))⟩)]; exact a3
  · rw [hR _ _ (Or.inl ⟨a0, Or.inr (Or.inr (Or.inr (Or.inl rfl)))⟩)]; exact a4
  · rw [hR _ _ (Or.inl ⟨a0, Or.inr (Or.inr (Or.inr (Or.inr rfl)))⟩)]; exact a5
  · rw [hA _ _ (Or.inl b0)]; exact b2 x hx
  · obtain ⟨z1, z2, z3⟩ := c x hx
    exact ⟨t z1 (by decide), by rw [hI _ (Or.inl z1)]; exact z2, by rw [hR _ _ (Or.inr (Or.inl ⟨z1, rfl⟩))]; exact z3⟩
  · obtain ⟨z1, z2, z3⟩ := d x hx
    exact ⟨t z1 (by decide), n z1 (by decide) z2, fun y hy => by rw [hA _ _ (Or.inr (Or.inl z1))]; exact z3 y hy⟩
  · obtain ⟨z1, z2, z3⟩ := e x y hx hy
    exact ⟨t z1 (by decide), by rw [hR _ _ (Or.inr (Or.inr (Or.inl ⟨z1, rfl⟩)))]; exact z2, t z3 (by decide)⟩
  · rw [hA _ _ (Or.inr (Or.inr (Or.inl f0)))]; exact f2 x hx
  · obtain ⟨z1, z2, z3⟩ := g x hx
    exact ⟨t z1 (by decide), by rw [hI _ (Or.inr z1)]; exact z2, by rw [hR _ _ (Or.inr (Or.inr (Or.inr (Or.inl ⟨z1, rfl⟩))))]; exact z3⟩
  · obtain ⟨z1, z2, z3⟩ := i x hx
    exact ⟨t z1 (by decide), n z1 (by decide) z2, fun y hy => ⟨by rw [hA _ _ (Or.inr (Or.inr (Or.inr z1)))]; exact (z3 y hy).1, t (z3 y hy).2 (by decide)⟩⟩
  · rw [hR _ _ (Or.inr (Or.inr (Or.inr (Or.inr ⟨j0, Or.inl rfl⟩))))]; exact j1
  · rw [hR _ _ (Or.inr (Or.inr (Or.inr (Or.inr ⟨j0, Or.inr rfl⟩))))]; exact j2
theorem LY_PI {Y : CY} {σ : SG} {a k : Nat} {x : Int32} (h : LY Y σ) (hk : k ≠ 0 ∨ (sgT σ a ≠ 7 ∧ sgT σ a ≠ 11)) : LY Y (sgPI σ a k x) :=
  LY_eq h (fun _ _ => ⟨rfl, rfl⟩) (fun b hb => by rw [sgI_PI, if_neg (fun z => by rcases hk with w | w; exact w z.2.symm; rw [← z.1] at w; omega)]) (fun _ _ _ => rfl) (fun _ _ _ => rfl)
theorem LY_PR {Y : CY} {σ : SG} {a k : Nat} {x : Option Nat} (h : LY Y σ) (hk : (sgT σ a = 7 ∧ k = 8) ∨ (sgT σ a = 11 ∧ (k = 1 ∨ k = 2))) : LY Y (sgPR σ a k x) :=
  LY_eq h (fun _ _ => ⟨rfl, rfl⟩) (fun b hb => rfl) (fun b j hb => by rw [sgR_PR, if_neg (fun z => by rw [z.1] at hb; omega)]) (fun b j hb => by rw [sgR_PR, if_neg (fun z => by rw [z.1, z.2] at hb; omega)])
/-! what a contract keeps, by addresses -/
section
variable {cy : Nat → ClassId} {ad τ : List Nat} {σ σ2 : SG} {M : List (Nat × Nat × Nat)} {a ci k t : Nat}
theorem kp_T (h : VT cy ad τ σ) (h2 : VT cy ad τ σ2) (ha : sgT σ a ≠ 0) : sgT σ2 a = sgT σ a ∧ sgN σ2 a = sgN σ a := by
  obtain ⟨q, d, g1, g2, g3, g4, -⟩ := VT_at h ha
  obtain ⟨e1, e2⟩ := h2.2.2.2.1 q d a g2 g1
  exact ⟨e1.trans g3, e2.trans g4⟩
theorem kp_f (h : VT cy ad τ σ) (h2 : VT cy ad τ σ2) (hk : vi_kept τ M (cwL cy ad σ) (cwL cy ad σ2)) (ha : sgT σ a = ci + 1) (h1 : ci + 1 < 100) (ht : (sgC ci)[k]? = some t) (hM : ∀ d : Nat, vTag d = ci + 1 → (ci, k, d) ∉ M) : sgV σ2 a k t = sgV σ a k t := by
  obtain ⟨q, d, g1, g2, g3, -⟩ := VT_at h (a := a) (by omega)
  have e1 : (cwL cy ad σ)[q]? = some (a, .inr (ci, sgVs σ a 0 (sgC ci))) := by rw [cwL_at g1, sgE_ob ha h1]
  have e2 : (cwL cy ad σ2)[q]? = some (a, .inr (ci, sgVs σ2 a 0 (sgC ci))) := by rw [cwL_at g1, sgE_ob ((kp_T h h2 (by omega)).1.trans ha) h1]
  obtain ⟨v1, x1, -, x3⟩ := hk.2.2.1 q d a ci _ g2 e1
  have x4 := (Prod.mk.inj (Option.some.inj (x1.symm.trans e2))).2
  have x5 : v1 = sgVs σ2 a 0 (sgC ci) := (Prod.mk.inj (Sum.inr.inj x4)).2
  have x6 := x3 k (hM d (g3.trans ha))
  rw [x5, sgVs_at ht, sgVs_at ht] at x6
  have x7 := Option.some.inj x6
  rw [Nat.zero_add] at x7
  exact x7
theorem kp_I (h : VT cy ad τ σ) (h2 : VT cy ad τ σ2) (hk : vi_kept τ M (cwL cy ad σ) (cwL cy ad σ2)) (ha : sgT σ a = ci + 1) (h1 : ci + 1 < 100) (ht : (sgC ci)[k]? = some t) (h3 : t < 3) (hM : ∀ d : Nat, vTag d = ci + 1 → (ci, k, d) ∉ M) : sgI σ2 a k = sgI σ a k := by
  have := kp_f h h2 hk ha h1 ht hM
  match t, h3, this with
  | 0, _, h => exact Value.int.inj h
  | 1, _, h => exact Value.int.inj h
  | 2, _, h => exact Value.int.inj h
theorem kp_R (h : VT cy ad τ σ) (h2 : VT cy ad τ σ2) (hk : vi_kept τ M (cwL cy ad σ) (cwL cy ad σ2)) (ha : sgT σ a = ci + 1) (h1 : ci + 1 < 100) (ht : (sgC ci)[k]? = some 3) (hM : ∀ d : Nat, vTag d = ci + 1 → (ci, k, d) ∉ M) : sgR σ2 a k = sgR σ a k := by
  have h9 : va_rf (sgR σ2 a k) = va_rf (sgR σ a k) := kp_f h h2 hk ha h1 ht hM
  cases e1 : sgR σ2 a k with
  | none => cases e2 : sgR σ a k with
    | none => rfl
    | some y => rw [e1, e2] at h9; cases h9
  | some x => cases e2 : sgR σ a k with
    | none => rw [e1, e2] at h9; cases h9
    | some y => rw [e1, e2] at h9; cases h9; rfl
theorem kp_aR (h : VT cy ad τ σ) (h2 : VT cy ad τ σ2) (hk : vi_kept τ M (cwL cy ad σ) (cwL cy ad σ2)) (ha : sgT σ a = 100 + t) (h1 : sgIA t = false) : sgR σ2 a = sgR σ a := by
  obtain ⟨q, d, g1, g2, g3, -⟩ := VT_at h (a := a) (by omega)
  have e1 : (cwL cy ad σ)[q]? = some (a, .inl (cy t, sgN σ a, .inr (.inr (.inr (.inr (sgR σ a)))))) := by rw [cwL_at g1, sgE_ra ha h1]
  have e2 : (cwL cy ad σ2)[q]? = some (a, .inl (cy t, sgN σ2 a, .inr (.inr (.inr (.inr (sgR σ2 a)))))) := by rw [cwL_at g1, sgE_ra ((kp_T h h2 (by omega)).1.trans ha) h1]
  have x1 := hk.2.1 q a _ _ _ e1
  have x2 := (Prod.mk.inj (Option.some.inj (x1.symm.trans e2))).2
  have x3 := (Prod.mk.inj (Prod.mk.inj (Sum.inl.inj x2)).2).2
  exact (Sum.inr.inj (Sum.inr.inj (Sum.inr.inj (Sum.inr.inj x3)))).symm
theorem kp_aI {kd : Nat} (h : VT cy ad τ σ) (h2 : VT cy ad τ σ2) (hk : vi_kept τ M (cwL cy ad σ) (cwL cy ad σ2)) (ha : sgT σ a = 100 + t) (h1 : sgIA t = true) (hd : ∃ q : Nat, τ[q]? = some kd ∧ ad[q]? = some a) (hM : (200, kd, 0) ∉ M) : sgI σ2 a = sgI σ a := by
  obtain ⟨q, g2, g1⟩ := hd
  have e1 : (cwL cy ad σ)[q]? = some (a, .inl (cy t, sgN σ a, .inl (sgI σ a))) := by rw [cwL_at g1, sgE_ia ha h1]
  have e2 : (cwL cy ad σ2)[q]? = some (a, .inl (cy t, sgN σ2 a, .inl (sgI σ2 a))) := by rw [cwL_at g1, sgE_ia ((kp_T h h2 (by omega)).1.trans ha) h1]
  have x1 := hk.2.2.2 q kd a _ _ _ g2 hM e1
  have x2 := (Prod.mk.inj (Option.some.inj (x1.symm.trans e2))).2
  exact (Sum.inl.inj (Prod.mk.inj (Prod.mk.inj (Sum.inl.inj x2)).2).2).symm
/-- no final field of the layout is written -/
def LYM (M : List (Nat × Nat × Nat)) : Bool := M.all fun q => !([(14, 0), (14, 5), (14, 10), (14, 8), (14, 9), (6, 0), (6, 19), (7, 7), (10, 0), (10, 11), (13, 0), (13, 1)].contains (q.1, q.2.1))
theorem LYM_no {c f : Nat} (h : LYM M = true) (hc : [(14, 0), (14, 5), (14, 10), (14, 8), (14, 9), (6, 0), (6, 19), (7, 7), (10, 0), (10, 11), (13, 0), (13, 1)].contains (c, f) = true) : ∀ d : Nat, (c, f, d) ∉ M := by
  intro d hd
  have h1 := List.all_eq_true.mp h _ hd
  have h2 : (!([(14, 0), (14, 5), (14, 10), (14, 8), (14, 9), (6, 0), (6, 19), (7, 7), (10, 0), (10, 11), (13, 0), (13, 1)].contains (c, f))) = true := h1
  rw [hc] at h2
  cases h2
theorem LY_kept {Y : CY} (hL : LY Y σ) (h : VT cy ad τ σ) (h2 : VT cy ad τ σ2) (hk : vi_kept τ M (cwL cy ad σ) (cwL cy ad σ2)) (hM : LYM M = true) : LY Y σ2 := by
  refine LY_eq hL (fun a ha => kp_T h h2 ha) (fun a ha => ?_) (fun a j ha => ?_) (fun a k ha => ?_)
  · rcases ha with ha | ha
    · exact kp_I (ci := 6) (t := 0) h h2 hk ha (by decide) rfl (by decide) (fun d _ => LYM_no hM (by decide) d)
    · exact kp_I (ci := 10) (t := 0) h h2 hk ha (by decide) rfl (by decide) (fun d _ => LYM_no hM (by decide) d)
  · rcases ha with ha | ha | ha | ha
    · rw [kp_aR (t := 4) h h2 hk ha rfl]
    · rw [kp_aR (t := 5) h h2 hk ha rfl]
    · rw [kp_aR (t := 6) h h2 hk ha rfl]
    · rw [kp_aR (t := 7) h h2 hk ha rfl]
  · rcases ha with ⟨ha, hk9⟩ | ⟨ha, rfl⟩ | ⟨ha, rfl⟩ | ⟨ha, rfl⟩ | ⟨ha, hk9⟩
    · rcases hk9 with rfl | rfl | rfl | rfl | rfl <;> exact kp_R (ci := 14) h h2 hk ha (by decide) rfl (fun d _ => LYM_no hM (by decide) d)
    · exact kp_R (ci := 6) h h2 hk ha (by decide) rfl (fun d _ => LYM_no hM (by decide) d)
    · exact kp_R (ci := 7) h h2 hk ha (by decide) rfl (fun d _ => LYM_no hM (by decide) d)
    · exact kp_R (ci := 10) h h2 hk ha (by decide) rfl (fun d _ => LYM_no hM (by decide) d)
    · rcases hk9 with rfl | rfl <;> exact kp_R (ci := 13) h h2 hk ha (by decide) rfl (fun d _ => LYM_no hM (by decide) d)
end
/-- cells of their kinds, at their places -/
def VL (cy : Nat → ClassId) (ad τ : List Nat) (Y : CY) (σ : SG) : Prop := VT cy ad τ σ ∧ LY Y σ
/-- what a walk may change -/
def clA (ad : List Nat) (sz : Nat) : Nat → Prop := fun q => q ∈ ad ∨ sz ≤ q
theorem clA_eq {cy : Nat → ClassId} {ad : List Nat} {σ : SG} {sz : Nat} : va_A (cwL cy ad σ) sz = clA ad sz := by
  funext q
  apply propext
  constructor
  · rintro (⟨k, e, h⟩ | h)
    · exact Or.inl (List.mem_of_getElem? (cwL_to h).1)
    · exact Or.inr h
  · rintro (h | h)
    · obtain ⟨k, hk⟩ := List.mem_iff_getElem?.mp h
      exact Or.inl ⟨k, _, cwL_at hk⟩
    · exact Or.inr h
/-- what a walk rests on -/
def clFx (p : Program) (s : State) (m : MethodId) (args : Array Value) (meth : Method) (c : Code) (cc : ByteArray) (nL : Nat) (own : String) (Ts : List Cond) (D : va_G) (cy : Nat → ClassId) : Prop := CallFix p m c cc nL s args Ts own ∧ va_K D vwCl (tyL cy) s ∧ NL s ∧ meth.locks = false
/-- where a walk stands -/
def clB (D : va_G) (cy : Nat → ClassId) (ad τ : List Nat) (Y : CY) (s : State) (σ : SG) (H : Heap) (locs : List Loc) : Prop := sgG D cy (clA ad s.heap.size) s.heap σ H locs ∧ VL cy ad τ Y σ
def clQ (D : va_G) (cy : Nat → ClassId) (ad τ : List Nat) (Y : CY) (sz : Nat) (Post : Option Value → SG → Prop) : Array Value → State → Outcome → State → Prop := fun _ st oc t => (∃ (v : Option Value) (σ2 : SG), oc = .returned v ∧ va_P D vwCl (cwL cy ad σ2) t.heap ∧ VL cy ad τ Y σ2 ∧ Post v σ2) ∧ va_F (clA ad sz) st t
/-- a contract over the class's state σ -/
abbrev clM (l : Launch) (D : va_G) (cy : Nat → ClassId) (ad τ : List Nat) (Y : CY) (σ : SG) (sz : Nat) (y : MethodName) (WS : List Cond) (fr lo : Nat) (av : List Value) (Post : Option Value → SG → Prop) : Prop := Met l y WS { frames := fr, cells := 0, slots := 0, locals := lo } (va_Pc av (PME D cy (cwL cy ad σ) sz)) (clQ D cy ad τ Y sz Post) 0 0 (clA ad sz)
variable {p : Program} {l : Launch} {e : Env} {R : Room} {s : State} {m : MethodId} {args : Array Value} {below : List Frame} {meth : Method} {c : Code} {H : Heap} {locs : List Loc} {Q : State → Prop} {cc bytes : ByteArray} {pc : Nat} {ls : Array Slot} {rest As st0 : List Value}
variable {D : va_G} {cy : Nat → ClassId} {ad τ : List Nat} {Y : CY} {σ σ2 : SG} {y x : MethodName} {WS Ts : List Cond} {fr lo n nL index maxL b k N n9 a ci t : Nat} {av : List Value} {Post : Option Value → SG → Prop} {own C host ref : String} {ret : Option FieldType} {T : u_T}
theorem cwL_D {sz : Nat} (h : VT cy ad τ σ) : va_D (clA ad sz) (cwL cy ad σ) := by
  refine ⟨fun i j p q hi hj hpq => ?_, fun k q hk => Or.inl (List.mem_of_getElem? (cwL_to hk).1)⟩
  have h1 := (cwL_to hi).1
  have h2 := (cwL_to hj).1
  rw [← hpq] at h2
  exact (List.getElem?_inj (List.getElem?_eq_some_iff.mp h1).1 h.2.1).mp (h1.trans h2.symm)
theorem cl_ofW {WS' : List Cond} {lv : List (Nat × Value)} (hV : VL cy ad τ Y σ) (hy : plainName y.cls = true) (hw : WS = Cond.code y cc maxL ret :: WS') (hn : (lg_sl av).length ≤ maxL) (hlv : lv_args 0 av = lv)
    (body : ∀ (p : Program) (e : Env) (s : State) (m : MethodId) (below : List Frame) (meth : Method) (c : Code) (ls : Array Slot) (H : Heap), meth.sig.returnType = ret → meth.name = y.name → clFx p s m av.toArray meth c cc maxL y.cls WS D cy → clB D cy ad τ Y s σ H [] → lv_has ls maxL lv → W p l e { frames := fr, cells := 0, slots := 0, locals := lo } s m av.toArray below meth c H [] 0 0 (MQ below (clQ D cy ad τ Y s.heap.size Post) av.toArray s 0 0 (clA ad s.heap.size)) (F0 m 0 ls [])) (sz : Nat) : clM l D cy ad τ Y σ sz y WS fr lo av Post := by
  refine ro_ofW hy hw hn hlv (fun p e s m below meth c ls hx hb hr hml hown hlocks hnm hts hpre hl => ?_)
  obtain ⟨⟨rfl, hP, hD⟩, hK, hN⟩ := hpre
  exact body p e s m below meth c ls s.heap hr hnm ⟨⟨hx, hb, hml, hown, hts⟩, hK, hN, hlocks⟩ ⟨⟨VT_P hV.1 hP, fun a ha => Or.inl (hV.1.2.2.1 a ha), va_S.rf⟩, hV⟩ hl
/-- a written value -/
theorem clB_w {H1 : Heap} {locs1 : List Loc} (hG : sgG D cy (clA ad s.heap.size) s.heap σ2 H1 locs1) (hV : VT cy ad τ σ2) (hL : LY Y σ2) : clB D cy ad τ Y s σ2 H1 locs1 := ⟨hG, hV, hL⟩
/-- the method's end -/
theorem cl_out {v : Option Value} {g : JFrame} (hB : clB D cy ad τ Y s σ H locs) (hP : Post v σ) (kk : (∀ t : State, t.heap = H → s.WarmedH t.vm → clQ D cy ad τ Y s.heap.size Post args s (.returned v) t) → (∀ q ∈ locs, clA ad s.heap.size q.base) → W p l e R s m args below meth c H locs 0 0 (MQ below (clQ D cy ad τ Y s.heap.size Post) args s 0 0 (clA ad s.heap.size)) g) : W p l e R s m args below meth c H locs 0 0 (MQ below (clQ D cy ad τ Y s.heap.size Post) args s 0 0 (clA ad s.heap.size)) g :=
  kk (fun t ht _ => ⟨⟨v, σ, rfl, by rw [ht]; exact VT_W hB.2.1 hB.1.1, hB.2, hP⟩, hB.1.2.2.F ht⟩) hB.1.2.2.2.2
theorem cl_iret {v : Int32} (F : clFx p s m args meth c cc nL own Ts D cy) (hB : clB D cy ad τ Y s σ H locs) (hr : meth.sig.returnType = some .int) (hdg : decode cc pc = .ok (.ireturn, 1)) (hP : Post (some (.int v)) σ) : W p l e R s m args below meth c H locs 0 0 (MQ below (clQ D cy ad τ Y s.heap.size Post) args s 0 0 (clA ad s.heap.size)) (F0 m pc ls [.int v]) := by
  have hlocks := F.2.2.2
  exact cl_out hB hP (fun h1 h2 => W.iret F.1.1 F.1.2.1 hr h1 h2 hdg hlocks)
theorem cl_zret {v : Int32} {ty : FieldType} (F : clFx p s m args meth c cc nL own Ts D cy) (hB : clB D cy ad τ Y s σ H locs) (hr : meth.sig.returnType = some ty) (hdg : decode cc pc = .ok (.ireturn, 1)) (hv : narrow ty (.int v) = .int v) (hP : Post (some (.int v)) σ) : W p l e R s m args below meth c H locs 0 0 (MQ below (clQ D cy ad τ Y s.heap.size Post) args s 0 0 (clA ad s.heap.size)) (F0 m pc ls [.int v]) := by
  have hlocks := F.2.2.2
  exact cl_out hB hP (fun h1 h2 => W.zret F.1.1 F.1.2.1 hr hv h1 h2 hdg hlocks)
theorem cl_vret (F : clFx p s m args meth c cc nL own Ts D cy) (hB : clB D cy ad τ Y s σ H locs) (hr : meth.sig.returnType = none) (hdg : decode cc pc = .ok (.return_, 1)) (hP : Post none σ) : W p l e R s m args below meth c H locs 0 0 (MQ below (clQ D cy ad τ Y s.heap.size Post) args s 0 0 (clA ad s.heap.size)) (F0 m pc ls []) := by
  have hlocks := F.2.2.2
  exact cl_out hB hP (fun h1 h2 => W.vret F.1.1 F.1.2.1 hr h1 h2 hdg hlocks)
theorem cl_aret {v : Value} {rt : FieldType} (F : clFx p s m args meth c cc nL own Ts D cy) (hB : clB D cy ad τ Y s σ H locs) (hr : meth.sig.returnType = some rt) (hrt : (∃ n, rt = .object n) ∨ ∃ t, rt = .array t) (hv : v = .null ∨ ∃ a, v = .ref a) (hdg : decode cc pc = .ok (.areturn, 1)) (hP : Post (some v) σ) : W p l e R s m args below meth c H locs 0 0 (MQ below (clQ D cy ad τ Y s.heap.size Post) args s 0 0 (clA ad s.heap.size)) (F0 m pc ls [v]) := by
  have hlocks := F.2.2.2
  exact cl_out hB hP (fun h1 h2 => W.aret F.1.1 F.1.2.1 hr hrt hv h1 h2 hdg hlocks)
/-- behind a call -/
theorem cl_kk {a : Array Value} (hr : va_Run p l e R s m args below meth c H locs k N 0 0 (F0 m pc ls st0) rest (clQ D cy ad τ Y H.size Post a) (clA ad H.size)) (hB : clB D cy ad τ Y s σ H locs)
    (kk : ∀ (H : Heap) (locs : List Loc) (v : Option Value) (σ2 : SG), clB D cy ad τ Y s σ2 H locs → Post v σ2 → W p l e R s m args below meth c H locs k N Q (F0 m (pc + 3) ls (v.toList ++ rest))) : W p l e R s m args below meth c H locs k N Q (F0 m pc ls st0) := by
  intro T hT X
  obtain ⟨v', st₀, t, T', L, h0, X', hL, e1, e2, ⟨⟨v, σ2, hv, q1, q2, q3⟩, hF⟩, st⟩ := hr T hT X
  cases hv
  have hsub : ∀ q, clA ad H.size q → clA ad s.heap.size q := fun q hq => hq.elim Or.inl (fun z => Or.inr (Nat.le_trans hB.1.2.2.1 z))
  obtain ⟨k1, k2, k3⟩ := vx_keep h0 e1 hB.1.2.2 (fun q _ z => hsub q z) hsub hL hF
  obtain ⟨t2, a1, b1⟩ := kk T'.heap (locs ++ L) v' σ2 ⟨⟨VT_P q2.1 (by rw [e1]; exact q1), fun a ha => Or.inl (q2.1.2.2.1 a ha), k3⟩, q2⟩ q3 T' rfl X'
  exact ⟨t2, st t2 a1, b1⟩
theorem cl_pv (F : clFx p s m args meth c cc nL own Ts D cy) (hB : clB D cy ad τ Y s σ H locs) : ∀ U : State, U.heap = H → s.WarmedH U.vm → va_Pc As (PME D cy (cwL cy ad σ) H.size) As.toArray U := vi_pv (A0 := clA ad 0) (VT_W hB.2.1 hB.1.1) (cwL_D hB.2.1) F.2.1 F.2.2.1
theorem cl_recv (F : clFx p s m args meth c cc nL own Ts D cy) (hB : clB D cy ad τ Y s σ H locs) {r : vw_C} (ha : sgT σ b = ci + 1) (h100 : ci + 1 < 100) (hc : vwCl[ci]? = some r) : ∃ cell : Cell, H[b]? = some cell ∧ cell.vm.isStatics = false ∧ s.vm.findClass r.1 = some cell.cls := by
  obtain ⟨q, hq⟩ := sgL_at (cy := cy) hB.1.1.2 (a := b) (by omega)
  rw [sgE_ob ha h100] at hq
  exact va_recv F.2.1 (sgL_P hB.1.1) hc hq
theorem cl_callS (F : clFx p s m args meth c cc nL own Ts D cy) (hB : clB D cy ad τ Y s σ H locs) (hM : clM l D cy ad τ Y σ H.size y WS fr lo As Post) (cw : CallB R s args own index y bytes maxL ret WS { frames := fr, cells := 0, slots := 0, locals := lo } 0 0 n9 ∧ (Cond.static y).before args s = true) (hn : As.length = n9) (hsize : ls.size = nL) (hst : st0 = As.reverse ++ rest) (hW : (rest.map fun v => v.category).sum ≤ 8) (hdg : decode cc pc = .ok (.invokestatic index, 3)) (hk : k + 0 ≤ R.cells ∧ N + 0 ≤ R.slots)
    (kk : ∀ (H : Heap) (locs : List Loc) (v : Option Value) (σ2 : SG), clB D cy ad τ Y s σ2 H locs → Post v σ2 → W p l e R s m args below meth c H locs k N Q (F0 m (pc + 3) ls (v.toList ++ rest))) : W p l e R s m args below meth c H locs k N Q (F0 m pc ls st0) :=
  cl_kk (va_runS (g := F0 m pc ls st0) F.1 hM cw ⟨pme_blind, cl_pv F hB⟩ rfl hn hsize hst (lv_room hW) hdg hk) hB kk
theorem cl_callV {r : vw_C} (F : clFx p s m args meth c cc nL own Ts D cy) (hB : clB D cy ad τ Y s σ H locs) (hM : clM l D cy ad τ Y σ H.size y WS fr lo (.ref b :: As) Post) (cw : CallW R s args own C index y bytes maxL ret WS { frames := fr, cells := 0, slots := 0, locals := lo } 0 0 n9) (hc : vwCl[ci]? = some r) (hC : r.1 = C) (h100 : ci + 1 < 100) (hn : As.length = n9) (hsize : ls.size = nL) (hst : st0 = As.reverse ++ .ref b :: rest) (hW : (rest.map fun v => v.category).sum ≤ 8) (hdg : decode cc pc = .ok (.invokevirtual index, 3)) (hk : k + 0 ≤ R.cells ∧ N + 0 ≤ R.slots) (ha : sgT σ b = ci + 1)
    (kk : ∀ (H : Heap) (locs : List Loc) (v : Option Value) (σ2 : SG), clB D cy ad τ Y s σ2 H locs → Post v σ2 → W p l e R s m args below meth c H locs k N Q (F0 m (pc + 3) ls (v.toList ++ rest))) : W p l e R s m args below meth c H locs k N Q (F0 m pc ls st0) :=
  cl_kk (va_runV (g := F0 m pc ls st0) F.1 hM cw ⟨pme_blind, hC ▸ cl_recv F hB ha h100 hc, cl_pv F hB⟩ rfl hn hsize hst (lv_room hW) hdg hk) hB kk
theorem cl_callN {r : vw_C} (F : clFx p s m args meth c cc nL own Ts D cy) (hB : clB D cy ad τ Y s σ H locs) (hM : clM l D cy ad τ Y σ H.size y WS fr lo (.ref b :: As) Post) (cw : va_CN R s args own index y host bytes maxL ret WS { frames := fr, cells := 0, slots := 0, locals := lo } 0 0 n9 ∧ (Cond.instanceMethod y).before args s = true ∧ (Cond.selects C y y).before args s = true) (hc : vwCl[ci]? = some r) (hC : r.1 = C) (h100 : ci + 1 < 100) (hn : As.length = n9) (hsize : ls.size = nL) (hst : st0 = As.reverse ++ .ref b :: rest) (hW : (rest.map fun v => v.category).sum ≤ 8) (hdg : decode cc pc = .ok (.invokevirtual index, 3)) (hk : k + 0 ≤ R.cells ∧ N + 0 ≤ R.slots) (ha : sgT σ b = ci + 1)
    (kk : ∀ (H : Heap) (locs : List Loc) (v : Option Value) (σ2 : SG), clB D cy ad τ Y s σ2 H locs → Post v σ2 → W p l e R s m args below meth c H locs k N Q (F0 m (pc + 3) ls (v.toList ++ rest))) : W p l e R s m args below meth c H locs k N Q (F0 m pc ls st0) :=
  cl_kk (va_runVN (g := F0 m pc ls st0) F.1 hM cw ⟨pme_blind, hC ▸ cl_recv F hB ha h100 hc, cl_pv F hB⟩ rfl hn hsize hst (lv_room hW) hdg hk) hB kk
/-- a call of a method of which only the checker's contract is known -/
theorem cl_vi {sta : Bool} {ct : VCt} {NC : Nat} (hB : clB D cy ad τ Y s σ H locs) (hC : vi_Cr p l e R s m args below meth c Q cc vK nL D cy (fun _ => True) ad τ (clA ad s.heap.size) s.heap NC index sta ct) (hsize : ls.size = nL) (hl : av.length = ct.1.length) (hty : ∀ (j : Nat) (a : VA) (x : Value), ct.1[j]? = some a → av[j]? = some x → vi_ok ad τ a x) (hf : ∀ f ∈ ct.2.1, vi_fact ad τ (vi_av av) (cwL cy ad σ) f) (hr : rest.length ≤ 4) (hLM : LYM ct.2.2.2.1 = true) (hn : n + ct.2.2.2.2 ≤ NC) (hdg : decode cc pc = .ok (if sta = true then .invokestatic index else .invokevirtual index, 3)) (hst : st0 = av.reverse ++ rest)
    (kk : ∀ alt ∈ ct.2.2.1, ∀ (H : Heap) (locs : List Loc) (v : Option Value) (σ2 : SG) (w1 : va_W), clB D cy ad τ Y s σ2 H locs → vi_kept τ ct.2.2.2.1 (cwL cy ad σ) (cwL cy ad σ2) → vi_tw vK cy (fun _ => True) ad τ w1 → σ2 = wS ad τ w1 → vi_alt ad τ av w1 alt v → W p l e R s m args below meth c H locs (n + ct.2.2.2.2) (6 * (n + ct.2.2.2.2)) Q (F0 m (pc + 3) ls (v.toList ++ rest))) : W p l e R s m args below meth c H locs n (6 * n) Q (F0 m pc ls st0) := by
  rw [hst]
  refine hC H locs n pc (cwL cy ad σ) ls av rest hsize (VT_W hB.2.1 hB.1.1) (cwL_D hB.2.1) hB.1.2.2 hB.2.1.1 hl hty hf hr hn hdg (fun alt ha H1 locs1 w1 v h1 h2 h3 h4 h5 h6 => ?_)
  have hV := VT_of (cy := cy) h4 hB.2.1.2.1
  have hk := kept_of hB.2.1 h4 h5
  exact kk alt ha H1 locs1 v (wS ad τ w1) w1 ⟨⟨VT_P hV (P_of h4 hB.2.1.2.1 h1), fun a ha => Or.inl (hV.2.2.1 a ha), h3⟩, hV, LY_kept hB.2.2 hB.2.1 hV hk hLM⟩ hk h4 rfl h6
/-- an array of ints is written -/
theorem cl_iast {i x : Int32} (F : clFx p s m args meth c cc nL own Ts D cy) (hB : clB D cy ad τ Y s σ H locs) (hdg : decode cc pc = .ok (.iastore, 1)) (ha : sgT σ a = 100) (h1 : 0 ≤ i.toInt) (h2 : i.toInt < sgN σ a) (h3 : sgN σ a < 2147483648)
    (kk : ∀ (H : Heap) (locs : List Loc), clB D cy ad τ Y s (sgPI σ a i.toInt.toNat x) H locs → W p l e R s m args below meth c H locs k N Q (F0 m (pc + 1) ls rest)) : W p l e R s m args below meth c H locs k N Q (F0 m pc ls (.int x :: .int i :: .ref a :: rest)) := by
  refine sg_iast F.1.1 F.1.2.1 F.2.1 hB.1 hdg ha h1 h2 h3 (fun H1 locs1 hs1 => kk H1 locs1 ⟨hs1, VT_PA (ty := 0) hB.2.1 ha rfl (by omega) (fun d n N b els e => ?_), LY_PI hB.2.2 (Or.inr ⟨by omega, by omega⟩)⟩)
  have h9 : vK.all (fun k => match k with
    | (n + 1, 0, _, b :: _) => decide (b.2.1 = -2147483648) && decide (b.2.2 = 2147483647)
    | _ => true) = true := by decide +kernel
  have h8 := List.all_eq_true.mp h9 _ (List.mem_of_getElem? e)
  have h7 : (decide (b.2.1 = -2147483648) && decide (b.2.2 = 2147483647)) = true := h8
  rw [Bool.and_eq_true, decide_eq_true_eq, decide_eq_true_eq] at h7
  have := Int32.le_toInt x
  have := Int32.toInt_lt x
  omega
/-- a written int lies in its field's range, in all kinds of the class -/
theorem cl_rg {lo hi : Int} {x : Int32} (h : vK.all (fun q => match q with
    | (0, c, _, fs) => !(c == ci) || (match fs[k]? with
      | some b => (b.1 == 1) && (decide (b.2.1 ≤ lo) && decide (hi ≤ b.2.2))
      | none => true)
    | _ => true) = true) (hx : lo ≤ x.toInt ∧ x.toInt ≤ hi) : ∀ (d x0 : Nat) (fs : List VA) (b : VA), vK[d]? = some (0, ci, x0, fs) → fs[k]? = some b → vi_ok ad τ b (.int x) := by
  intro d x0 fs b e1 e2
  have h8 := List.all_eq_true.mp h _ (List.mem_of_getElem? e1)
  have h7 : (!(ci == ci) || (match fs[k]? with
      | some b => (b.1 == 1) && (decide (b.2.1 ≤ lo) && decide (hi ≤ b.2.2))
      | none => true)) = true := h8
  rw [e2, beq_self_eq_true, Bool.not_true, Bool.false_or] at h7
  have h7 : ((b.1 == 1) && (decide (b.2.1 ≤ lo) && decide (hi ≤ b.2.2))) = true := h7
  rw [Bool.and_eq_true, Bool.and_eq_true, beq_iff_eq, decide_eq_true_eq, decide_eq_true_eq] at h7
  obtain ⟨b1, b2, b3⟩ := b
  obtain ⟨z1, z2, z3⟩ := h7
  have z1 : b1 = 1 := z1
  have z2 : b2 ≤ lo := z2
  have z3 : hi ≤ b3 := z3
  subst z1
  exact ⟨x, rfl, by show b2 ≤ x.toInt; omega, by show x.toInt ≤ b3; omega⟩
theorem cl_full (x : Int32) : -2147483648 ≤ x.toInt ∧ x.toInt ≤ 2147483647 := by
  have := Int32.le_toInt x
  have := Int32.toInt_lt x
  omega
/-- a tag that one kind has -/
theorem cl_kd {kd : Nat} (h : VT cy ad τ σ) (ha : sgT σ a = t) (h0 : t ≠ 0) (hu : (List.range vK.length).all (fun d => !(vTag d == t) || (d == kd)) = true) : ∃ q : Nat, τ[q]? = some kd ∧ ad[q]? = some a := by
  obtain ⟨q, d, g1, g2, g3, -, kk, g5, -⟩ := VT_at h (a := a) (by omega)
  have h1 := List.all_eq_true.mp hu d (List.mem_range.mpr (List.getElem?_eq_some_iff.mp g5).1)
  rw [Bool.or_eq_true, Bool.not_eq_true', beq_eq_false_iff_ne, beq_iff_eq] at h1
  rcases h1 with h1 | h1
  · exact absurd (g3.trans ha) h1
  · exact ⟨q, by rw [← h1]; exact g2, g1⟩
theorem cl_rf {kd ci9 : Nat} {x : Option Nat} (h : vK.all (fun q => match q with
    | (0, c, _, fs) => !(c == ci9) || (match fs[k]? with
      | some b => (b.1 == 3) && (decide (b.2.1 = (kd : Int)) && !decide (b.2.2 = 0))
      | none => true)
    | _ => true) = true) (hx : ∀ b, x = some b → ∃ q : Nat, τ[q]? = some kd ∧ ad[q]? = some b) : ∀ (d x0 : Nat) (fs : List VA) (b : VA), vK[d]? = some (0, ci9, x0, fs) → fs[k]? = some b → vi_ok ad τ b (va_rf x) := by
  intro d x0 fs b e1 e2
  have h8 := List.all_eq_true.mp h _ (List.mem_of_getElem? e1)
  have h7 : (!(ci9 == ci9) || (match fs[k]? with
      | some b => (b.1 == 3) && (decide (b.2.1 = (kd : Int)) && !decide (b.2.2 = 0))
      | none => true)) = true := h8
  rw [e2, beq_self_eq_true, Bool.not_true, Bool.false_or] at h7
  have h7 : ((b.1 == 3) && (decide (b.2.1 = (kd : Int)) && !decide (b.2.2 = 0))) = true := h7
  rw [Bool.and_eq_true, Bool.and_eq_true, beq_iff_eq, decide_eq_true_eq, Bool.not_eq_true', decide_eq_false_iff_not] at h7
  obtain ⟨b1, b2, b3⟩ := b
  obtain ⟨z1, z2, z3⟩ := h7
  have z1 : b1 = 3 := z1
  have z2 : b2 = (kd : Int) := z2
  subst z1
  cases x with
  | none => exact Or.inl ⟨z3, rfl⟩
  | some b9 =>
    obtain ⟨q, g1, g2⟩ := hx b9 rfl
    exact Or.inr ⟨q, b9, by rw [z2]; exact g1, g2, rfl⟩
/-- an int of a field lies in its range -/
theorem VT_in {lo hi : Int} (h : VT cy ad τ σ) (ha : sgT σ a = ci + 1) (h1 : ci + 1 < 100) (ht : (sgC ci)[k]? = some t) (h3 : t < 3) (hr : vK.all (fun q => match q with
    | (0, c, _, fs) => !(c == ci) || (match fs[k]? with
      | some b => (b.1 == 1) && (decide (lo ≤ b.2.1) && decide (b.2.2 ≤ hi))
      | none => false)
    | _ => true) = true) : lo ≤ (sgI σ a k).toInt ∧ (sgI σ a k).toInt ≤ hi := by
  obtain ⟨q, d, -, -, g3, -, kk, g5, g6⟩ := VT_at h (a := a) (by omega)
  obtain ⟨x0, fs, e4⟩ := cl_of0 (g3.trans ha) h1
  cases g5.symm.trans e4
  obtain ⟨vs, e5, e6, e7⟩ := g6
  rw [sgE_ob ha h1] at e5
  have e8 : sgVs σ a 0 (sgC ci) = vs := (Prod.mk.inj (Sum.inr.inj e5)).2
  have h8 := List.all_eq_true.mp hr _ (List.mem_of_getElem? e4)
  have h7 : (!(ci == ci) || (match fs[k]? with
      | some b => (b.1 == 1) && (decide (lo ≤ b.2.1) && decide (b.2.2 ≤ hi))
      | none => false)) = true := h8
  rw [beq_self_eq_true, Bool.not_true, Bool.false_or] at h7
  cases e9 : fs[k]? with
  | none => rw [e9] at h7; cases h7
  | some b =>
    rw [e9] at h7
    have h7 : ((b.1 == 1) && (decide (lo ≤ b.2.1) && decide (b.2.2 ≤ hi))) = true := h7
    rw [Bool.and_eq_true, Bool.and_eq_true, beq_iff_eq, decide_eq_true_eq, decide_eq_true_eq] at h7
    obtain ⟨b1, b2, b3⟩ := b
    obtain ⟨z1, z2, z3⟩ := h7
    have z1 : b1 = 1 := z1
    have z2 : lo ≤ b2 := z2
    have z3 : b3 ≤ hi := z3
    subst z1
    have y3 : vs[k]? = some (sgV σ a k t) := by
      rw [← e8, sgVs_at ht, Nat.zero_add]
    obtain ⟨x, w1, w2, w3⟩ := e7 k _ _ e9 y3
    have w2 : b2 ≤ x.toInt := w2
    have w3 : x.toInt ≤ b3 := w3
    have w4 : sgI σ a k = x := by
      match t, h3, w1 with
      | 0, _, w1 => exact Value.int.inj w1
      | 1, _, w1 => exact Value.int.inj w1
      | 2, _, w1 => exact Value.int.inj w1
    rw [w4]
    omega
/-- what a reference of a field is -/
theorem VT_rf {kd : Nat} (h : VT cy ad τ σ) (ha : sgT σ a = ci + 1) (h1 : ci + 1 < 100) (ht : (sgC ci)[k]? = some 3) (hr : vK.all (fun q => match q with
    | (0, c, _, fs) => !(c == ci) || (match fs[k]? with
      | some b => (b.1 == 3) && decide (b.2.1.toNat = kd)
      | none => false)
    | _ => true) = true) (hb : sgR σ a k = some b) : sgT σ b = vTag kd ∧ ∃ q : Nat, τ[q]? = some kd ∧ ad[q]? = some b := by
  obtain ⟨q, d, -, -, g3, -, kk, g5, g6⟩ := VT_at h (a := a) (by omega)
  obtain ⟨x0, fs, e4⟩ := cl_of0 (g3.trans ha) h1
  cases g5.symm.trans e4
  obtain ⟨vs, e5, e6, e7⟩ := g6
  rw [sgE_ob ha h1] at e5
  have e8 : sgVs σ a 0 (sgC ci) = vs := (Prod.mk.inj (Sum.inr.inj e5)).2
  have h8 := List.all_eq_true.mp hr _ (List.mem_of_getElem? e4)
  have h7 : (!(ci == ci) || (match fs[k]? with
      | some b => (b.1 == 3) && decide (b.2.1.toNat = kd)
      | none => false)) = true := h8
  rw [beq_self_eq_true, Bool.not_true, Bool.false_or] at h7
  cases e9 : fs[k]? with
  | none => rw [e9] at h7; cases h7
  | some c =>
    rw [e9] at h7
    have h7 : ((c.1 == 3) && decide (c.2.1.toNat = kd)) = true := h7
    rw [Bool.and_eq_true, beq_iff_eq, decide_eq_true_eq] at h7
    obtain ⟨b1, b2, b3⟩ := c
    obtain ⟨z1, z2⟩ := h7
    have z1 : b1 = 3 := z1
    have z2 : b2.toNat = kd := z2
    subst z1
    have y3 : vs[k]? = some (va_rf (sgR σ a k)) := by
      rw [← e8, sgVs_at ht, Nat.zero_add]
      rfl
    rw [hb] at y3
    rcases e7 k _ _ e9 y3 with ⟨-, w⟩ | ⟨q9, b9, w1, w2, w3⟩
    · cases w
    · cases w3
      have w1 : τ[q9]? = some b2.toNat := w1
      rw [z2] at w1
      exact ⟨(h.2.2.2.1 q9 kd b w1 w2).1, q9, w1, w2⟩
end CLB
