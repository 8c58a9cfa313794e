section CTY
/-! the class's cells behind its constructor: each of its kind -/
variable {ad τ ad1 τ1 ad2 τ2 : List Nat} {cy : Nat → ClassId} {w1 w2 w : va_W}
def emb (ad τ ad1 τ1 : List Nat) : Prop := ∀ q d b : Nat, τ[q]? = some d → ad[q]? = some b → ∃ q1 : Nat, τ1[q1]? = some d ∧ ad1[q1]? = some b
theorem ok_emb (he : emb ad τ ad1 τ1) {a : VA} {v : Value} (h : vi_ok ad τ a v) : vi_ok ad1 τ1 a v := by
  obtain ⟨t, x, y⟩ := a
  match t, h with
  | 0, h => exact h
  | 1, h => exact h
  | 2, h => exact h
  | 3, h =>
    rcases h with h | ⟨q, b, h1, h2, h3⟩
    · exact Or.inl h
    · obtain ⟨q1, g1, g2⟩ := he q _ b h1 h2
      exact Or.inr ⟨q1, b, g1, g2, h3⟩
  | 4, h => exact h
  | 5, h => exact h
  | _ + 6, h => exact h
theorem cell_emb (he : emb ad τ ad1 τ1) {k : VK} {e : va_E} (h : vi_cell ad τ cy k e) : vi_cell ad1 τ1 cy k e := by
  obtain ⟨t, ci, n, els⟩ := k
  match t, h with
  | 0, ⟨vs, e, l, ok⟩ => exact ⟨vs, e, l, fun i a v h1 h2 => ok_emb he (ok i a v h1 h2)⟩
  | 1, h => exact h
  | _ + 2, ⟨f, e, ok⟩ => exact ⟨f, e, fun a h1 j hj => ok_emb he (ok a h1 j hj)⟩
theorem emb_l : emb ad1 τ1 (ad1 ++ ad2) (τ1 ++ τ2) := fun q d b h1 h2 => ⟨q, by rw [List.getElem?_append_left (List.getElem?_eq_some_iff.mp h1).1]; exact h1, by rw [List.getElem?_append_left (List.getElem?_eq_some_iff.mp h2).1]; exact h2⟩
theorem emb_r (hl : τ1.length = ad1.length) : emb ad2 τ2 (ad1 ++ ad2) (τ1 ++ τ2) := fun q d b h1 h2 => ⟨τ1.length + q, by rw [List.getElem?_append_right (by omega), Nat.add_sub_cancel_left]; exact h1, by rw [hl, List.getElem?_append_right (by omega), Nat.add_sub_cancel_left]; exact h2⟩
theorem tw_len (h : vi_tw vK cy (fun _ => True) ad τ w) : w.length = τ.length := by rw [h.2.1, ← h.1, List.length_map]
/-- two worlds, side by side: the cells of each of their kinds in the whole -/
theorem tw_both (hl : τ1.length = ad1.length) (hw : w1.map (fun q => q.1) = ad1) (h1 : ∀ (q d : Nat) (e : Nat × va_E), τ1[q]? = some d → w1[q]? = some e → ∃ k : VK, vK[d]? = some k ∧ vi_cell (ad1 ++ ad2) (τ1 ++ τ2) cy k e.2) (h2 : vi_tw vK cy (fun _ => True) ad2 τ2 w2) : vi_tw vK cy (fun _ => True) (ad1 ++ ad2) (τ1 ++ τ2) (w1 ++ w2) := by
  have hn : w1.length = τ1.length := by rw [hl, ← hw, List.length_map]
  refine ⟨by rw [List.map_append, hw, h2.1], by rw [List.length_append, List.length_append, hl, h2.2.1], fun q d e a1 a2 => ?_, True.intro⟩
  rcases Nat.lt_or_ge q τ1.length with z | z
  · rw [List.getElem?_append_left z] at a1
    rw [List.getElem?_append_left (by omega)] at a2
    exact h1 q d e a1 a2
  · rw [List.getElem?_append_right z] at a1
    rw [List.getElem?_append_right (by omega), hn] at a2
    obtain ⟨k, g1, g2⟩ := h2.2.2.1 _ d e a1 a2
    exact ⟨k, g1, cell_emb (emb_r hl) g2⟩
theorem tw_app (h1 : vi_tw vK cy (fun _ => True) ad1 τ1 w1) (h2 : vi_tw vK cy (fun _ => True) ad2 τ2 w2) : vi_tw vK cy (fun _ => True) (ad1 ++ ad2) (τ1 ++ τ2) (w1 ++ w2) := tw_both h1.2.1 h1.1 (fun q d e a1 a2 => by
  obtain ⟨k, g1, g2⟩ := h1.2.2.1 q d e a1 a2
  exact ⟨k, g1, cell_emb emb_l g2⟩) h2
theorem tw_nil : vi_tw vK cy (fun _ => True) [] [] [] := ⟨rfl, rfl, fun q d e h1 h2 => by simp at h1, True.intro⟩
theorem oki {lo hi : Int} {x : Int32} (h : lo ≤ x.toInt ∧ x.toInt ≤ hi) : vi_ok ad τ (1, lo, hi) (.int x) := ⟨x, rfl, h⟩
theorem okn {k n : Int} (h : n ≠ 0) : vi_ok ad τ (3, k, n) .null := Or.inl ⟨h, rfl⟩
theorem okr {k n : Int} {b : Nat} (q : Nat) (h1 : τ[q]? = some k.toNat) (h2 : ad[q]? = some b) : vi_ok ad τ (3, k, n) (.ref b) := Or.inr ⟨q, b, h1, h2, rfl⟩
theorem okN {i N : Nat} {lo hi : Int} (hi1 : i < N) (h : lo = 0 ∧ hi = (N : Int) - 1 ∧ N < 2147483647 := by decide) : lo ≤ (nI i).toInt ∧ (nI i).toInt ≤ hi := by
  rw [nI_toInt (by omega)]
  omega
theorem cellO {ci x : Nat} {as : List VA} {vs : List Value} (h : vi_tys ad τ as vs) (hl : vs.length = as.length) : vi_cell ad τ cy (0, ci, x, as) (.inr (ci, vs)) := ⟨vs, rfl, hl, fun i a v h1 h2 => vi_tys_ok h i a v h1 h2⟩
theorem cellI {ty N : Nat} {lo hi : Int} (h : lo ≤ (0 : Int32).toInt ∧ (0 : Int32).toInt ≤ hi) : vi_cell ad τ cy (1, ty, N, [(1, lo, hi)]) (.inl (cy ty, N, .inl (fun _ => 0))) := ⟨fun _ => 0, rfl, fun a h1 => by cases h1; exact ⟨rfl, fun j _ => h⟩⟩
theorem cellR {ty N : Nat} {a : VA} {f : Nat → Option Nat} (h : ∀ j : Nat, j < N → vi_ok ad τ a (va_rf (f j))) : vi_cell ad τ cy (2, ty, N, [a]) (.inl (cy ty, N, .inr (.inr (.inr (.inr f))))) := ⟨f, rfl, fun b h1 j hj => by cases h1; exact h j hj⟩
theorem cell_set {ci x k : Nat} {as : List VA} {vs : List Value} {v : Value} (h : vi_cell ad τ cy (0, ci, x, as) (.inr (ci, vs))) (hv : ∀ a : VA, as[k]? = some a → vi_ok ad τ a v) : vi_cell ad τ cy (0, ci, x, as) (.inr (ci, vs.set k v)) := by
  obtain ⟨vs2, e, l, ok⟩ := h
  have e2 : vs = vs2 := by
    injection e with e3
    exact (Prod.mk.inj e3).2
  subst e2
  refine ⟨_, rfl, by rw [List.length_set]; exact l, fun i a y h1 h2 => ?_⟩
  by_cases c : i = k
  · subst c
    have hlt := (List.getElem?_eq_some_iff.mp h2).1
    rw [List.length_set] at hlt
    rw [List.getElem?_set_self hlt] at h2
    cases h2
    exact hv a h1
  · rw [List.getElem?_set_ne (fun z => c z.symm)] at h2
    exact ok i a y h1 h2
/-- the kind of a cell of a class that has one kind -/
theorem tag_of {ci d0 a : Nat} {fs : List Value} (hd : ∀ d : Nat, ∀ k : VK, vK[d]? = some k → k.1 = 0 → k.2.1 = ci → d = d0) (h : vi_tw vK cy (fun _ => True) ad τ w) (hm : (a, .inr (ci, fs)) ∈ w) : ∃ q : Nat, τ[q]? = some d0 ∧ ad[q]? = some a ∧ w[q]? = some (a, .inr (ci, fs)) := by
  obtain ⟨q, hq⟩ := List.mem_iff_getElem?.mp hm
  have hlt := (List.getElem?_eq_some_iff.mp hq).1
  rw [tw_len h] at hlt
  have ht : τ[q]? = some τ[q] := List.getElem?_eq_getElem hlt
  obtain ⟨k, g1, g2⟩ := h.2.2.1 q _ _ ht hq
  have g2 : vi_cell ad τ cy k (.inr (ci, fs)) := g2
  obtain ⟨t, c2, n, els⟩ := k
  have hk : t = 0 ∧ c2 = ci := by
    match t, g2 with
    | 0, ⟨vs, e, _⟩ =>
      have e : (Sum.inr (ci, fs) : va_E) = .inr (c2, vs) := e
      injection e with e2
      exact ⟨rfl, (Prod.mk.inj e2).1.symm⟩
    | 1, ⟨f, e, _⟩ => cases e
    | _ + 2, ⟨f, e, _⟩ => cases e
  have := hd _ _ g1 hk.1 hk.2
  rw [this] at ht
  exact ⟨q, ht, by rw [← h.1, List.getElem?_map, hq]; rfl, hq⟩

set_option maxRecDepth 100000 in
theorem dev_tw (cy : Nat → ClassId) (q0 r1 r2 r3 r4 r5 r6 r7 r8 r9 r10 r11 r12 r13 r14 : Nat) {i : Nat} (hi : i < 16) : vi_tw vK cy (fun _ => True) (([(q0, .inr (6, [.int (nI i), .int 104, .int 0, .int 0, .int 0, .int 0, .int 0, .int 117, .null, .int 0, .int (-1), .int 104, .int (-1), .int 0, .int (-1), .int 0, .int 0, .int 0, .ref r1, .ref r2])), (r1, .inr (9, [.int 32, .int 0])), (r2, .inl (cy 5, 3, .inr (.inr (.inr (.inr (va_up (va_up (va_up (fun _ => none) 0 (some r3)) 1 (some r7)) 2 (some r11))))))), (r3, .inr (7, [.int 0, .int 0, .int 0, .int 0, .int 0, .int 0, .int 0, .ref r4, .ref r6])), (r4, .inr (5, [.ref r5, .int 0, .int 0, .int 0])), (r5, .inl (cy 0, 32, .inl (fun _ => 0))), (r6, .inr (9, [.int 32, .int 0])), (r7, .inr (7, [.int 0, .int 0, .int 0, .int 0, .int 0, .int 0, .int 0, .ref r8, .ref r10])), (r8, .inr (5, [.ref r9, .int 0, .int 0, .int 0])), (r9, .inl (cy 0, 32, .inl (fun _ => 0))), (r10, .inr (9, [.int 32, .int 0])), (r11, .inr (7, [.int 0, .int 0, .int 0, .int 0, .int 0, .int 0, .int 0, .ref r12, .ref r14])), (r12, .inr (5, [.ref r13, .int 0, .int 0, .int 0])), (r13, .inl (cy 0, 32, .inl (fun _ => 0))), (r14, .inr (9, [.int 32, .int 0]))] : va_W).map (fun q => q.1)) [4, 6, 16, 5, 3, 10, 6, 5, 3, 10, 6, 5, 3, 10, 6] [(q0, .inr (6, [.int (nI i), .int 104, .int 0, .int 0, .int 0, .int 0, .int 0, .int 117, .null, .int 0, .int (-1), .int 104, .int (-1), .int 0, .int (-1), .int 0, .int 0, .int 0, .ref r1, .ref r2])), (r1, .inr (9, [.int 32, .int 0])), (r2, .inl (cy 5, 3, .inr (.inr (.inr (.inr (va_up (va_up (va_up (fun _ => none) 0 (some r3)) 1 (some r7)) 2 (some r11))))))), (r3, .inr (7, [.int 0, .int 0, .int 0, .int 0, .int 0, .int 0, .int 0, .ref r4, .ref r6])), (r4, .inr (5, [.ref r5, .int 0, .int 0, .int 0])), (r5, .inl (cy 0, 32, .inl (fun _ => 0))), (r6, .inr (9, [.int 32, .int 0])), (r7, .inr (7, [.int 0, .int 0, .int 0, .int 0, .int 0, .int 0, .int 0, .ref r8, .ref r10])), (r8, .inr (5, [.ref r9, .int 0, .int 0, .int 0])), (r9, .inl (cy 0, 32, .inl (fun _ => 0))), (r10, .inr (9, [.int 32, .int 0])), (r11, .inr (7, [.int 0, .int 0, .int 0, .int 0, .int 0, .int 0, .int 0, .ref r12, .ref r14])), (r12, .inr (5, [.ref r13, .int 0, .int 0, .int 0])), (r13, .inl (cy 0, 32, .inl (fun _ => 0))), (r14, .inr (9, [.int 32, .int 0]))] := by
  refine ⟨rfl, rfl, fun q d e h1 h2 => ?_, True.intro⟩
  match q, h1, h2 with
  | 0, h1, h2 => cases h1; cases h2; exact ⟨_, rfl, cellO ⟨oki (okN hi), oki (by decide), oki (by decide), oki (by decide), oki (by decide), oki (by decide), oki (by decide), oki (by decide), okn (by decide), oki (by decide), oki (by decide), oki (by decide), oki (by decide), oki (by decide), oki (by decide), oki (by decide), oki (by decide), oki (by decide), okr 1 rfl rfl, okr 2 rfl rfl, True.intro⟩ rfl⟩
  | 1, h1, h2 => cases h1; cases h2; exact ⟨_, rfl, cellO ⟨oki (by decide), oki (by decide), True.intro⟩ rfl⟩
  | 2, h1, h2 => cases h1; cases h2; exact ⟨_, rfl, cellR (fun j hj => match j, hj with | 0, _ => okr 3 rfl rfl | 1, _ => okr 7 rfl rfl | 2, _ => okr 11 rfl rfl | j + 3, hj => absurd hj (by omega))⟩
  | 3, h1, h2 => cases h1; cases h2; exact ⟨_, rfl, cellO ⟨oki (by decide), oki (by decide), oki (by decide), oki (by decide), oki (by decide), oki (by decide), oki (by decide), okr 4 rfl rfl, okr 6 rfl rfl, True.intro⟩ rfl⟩
  | 4, h1, h2 => cases h1; cases h2; exact ⟨_, rfl, cellO ⟨okr 5 rfl rfl, oki (by decide), oki (by decide), oki (by decide), True.intro⟩ rfl⟩
  | 5, h1, h2 => cases h1; cases h2; exact ⟨_, rfl, cellI (by decide)⟩
  | 6, h1, h2 => cases h1; cases h2; exact ⟨_, rfl, cellO ⟨oki (by decide), oki (by decide), True.intro⟩ rfl⟩
  | 7, h1, h2 => cases h1; cases h2; exact ⟨_, rfl, cellO ⟨oki (by decide), oki (by decide), oki (by decide), oki (by decide), oki (by decide), oki (by decide), oki (by decide), okr 8 rfl rfl, okr 10 rfl rfl, True.intro⟩ rfl⟩
  | 8, h1, h2 => cases h1; cases h2; exact ⟨_, rfl, cellO ⟨okr 9 rfl rfl, oki (by decide), oki (by decide), oki (by decide), True.intro⟩ rfl⟩
  | 9, h1, h2 => cases h1; cases h2; exact ⟨_, rfl, cellI (by decide)⟩
  | 10, h1, h2 => cases h1; cases h2; exact ⟨_, rfl, cellO ⟨oki (by decide), oki (by decide), True.intro⟩ rfl⟩
  | 11, h1, h2 => cases h1; cases h2; exact ⟨_, rfl, cellO ⟨oki (by decide), oki (by decide), oki (by decide), oki (by decide), oki (by decide), oki (by decide), oki (by decide), okr 12 rfl rfl, okr 14 rfl rfl, True.intro⟩ rfl⟩
  | 12, h1, h2 => cases h1; cases h2; exact ⟨_, rfl, cellO ⟨okr 13 rfl rfl, oki (by decide), oki (by decide), oki (by decide), True.intro⟩ rfl⟩
  | 13, h1, h2 => cases h1; cases h2; exact ⟨_, rfl, cellI (by decide)⟩
  | 14, h1, h2 => cases h1; cases h2; exact ⟨_, rfl, cellO ⟨oki (by decide), oki (by decide), True.intro⟩ rfl⟩
  | q + 15, h1, h2 => exact absurd h1 (by simp)

set_option maxRecDepth 100000 in
theorem pip_tw (cy : Nat → ClassId) (q0 r1 r2 r3 r4 r5 r6 r7 r8 r9 : Nat) {i : Nat} (hi : i < 12) : vi_tw vK cy (fun _ => True) (([(q0, .inr (10, [.int (nI i), .null, .null, .int 98, .int 1, .int (-1), .int 0, .int 0, .int 0, .int 32, .int 0, .ref r1, .int 0, .int 0])), (r1, .inl (cy 7, 4, .inr (.inr (.inr (.inr (va_up (va_up (va_up (va_up (fun _ => none) 0 (some r2)) 1 (some r4)) 2 (some r6)) 3 (some r8))))))), (r2, .inr (12, [.ref r3, .int 0, .int 0, .int 0, .int 0, .int 0])), (r3, .inl (cy 0, 16, .inl (fun _ => 0))), (r4, .inr (12, [.ref r5, .int 0, .int 0, .int 0, .int 0, .int 0])), (r5, .inl (cy 0, 16, .inl (fun _ => 0))), (r6, .inr (12, [.ref r7, .int 0, .int 0, .int 0, .int 0, .int 0])), (r7, .inl (cy 0, 16, .inl (fun _ => 0))), (r8, .inr (12, [.ref r9, .int 0, .int 0, .int 0, .int 0, .int 0])), (r9, .inl (cy 0, 16, .inl (fun _ => 0)))] : va_W).map (fun q => q.1)) [7, 18, 8, 11, 8, 11, 8, 11, 8, 11] [(q0, .inr (10, [.int (nI i), .null, .null, .int 98, .int 1, .int (-1), .int 0, .int 0, .int 0, .int 32, .int 0, .ref r1, .int 0, .int 0])), (r1, .inl (cy 7, 4, .inr (.inr (.inr (.inr (va_up (va_up (va_up (va_up (fun _ => none) 0 (some r2)) 1 (some r4)) 2 (some r6)) 3 (some r8))))))), (r2, .inr (12, [.ref r3, .int 0, .int 0, .int 0, .int 0, .int 0])), (r3, .inl (cy 0, 16, .inl (fun _ => 0))), (r4, .inr (12, [.ref r5, .int 0, .int 0, .int 0, .int 0, .int 0])), (r5, .inl (cy 0, 16, .inl (fun _ => 0))), (r6, .inr (12, [.ref r7, .int 0, .int 0, .int 0, .int 0, .int 0])), (r7, .inl (cy 0, 16, .inl (fun _ => 0))), (r8, .inr (12, [.ref r9, .int 0, .int 0, .int 0, .int 0, .int 0])), (r9, .inl (cy 0, 16, .inl (fun _ => 0)))] := by
  refine ⟨rfl, rfl, fun q d e h1 h2 => ?_, True.intro⟩
  match q, h1, h2 with
  | 0, h1, h2 => cases h1; cases h2; exact ⟨_, rfl, cellO ⟨oki (okN hi), okn (by decide), okn (by decide), oki (by decide), oki (by decide), oki (by decide), oki (by decide), oki (by decide), oki (by decide), oki (by decide), oki (by decide), okr 1 rfl rfl, oki (by decide), oki (by decide), True.intro⟩ rfl⟩
  | 1, h1, h2 => cases h1; cases h2; exact ⟨_, rfl, cellR (fun j hj => match j, hj with | 0, _ => okr 2 rfl rfl | 1, _ => okr 4 rfl rfl | 2, _ => okr 6 rfl rfl | 3, _ => okr 8 rfl rfl | j + 4, hj => absurd hj (by omega))⟩
  | 2, h1, h2 => cases h1; cases h2; exact ⟨_, rfl, cellO ⟨okr 3 rfl rfl, oki (by decide), oki (by decide), oki (by decide), oki (by decide), oki (by decide), True.intro⟩ rfl⟩
  | 3, h1, h2 => cases h1; cases h2; exact ⟨_, rfl, cellI (by decide)⟩
  | 4, h1, h2 => cases h1; cases h2; exact ⟨_, rfl, cellO ⟨okr 5 rfl rfl, oki (by decide), oki (by decide), oki (by decide), oki (by decide), oki (by decide), True.intro⟩ rfl⟩
  | 5, h1, h2 => cases h1; cases h2; exact ⟨_, rfl, cellI (by decide)⟩
  | 6, h1, h2 => cases h1; cases h2; exact ⟨_, rfl, cellO ⟨okr 7 rfl rfl, oki (by decide), oki (by decide), oki (by decide), oki (by decide), oki (by decide), True.intro⟩ rfl⟩
  | 7, h1, h2 => cases h1; cases h2; exact ⟨_, rfl, cellI (by decide)⟩
  | 8, h1, h2 => cases h1; cases h2; exact ⟨_, rfl, cellO ⟨okr 9 rfl rfl, oki (by decide), oki (by decide), oki (by decide), oki (by decide), oki (by decide), True.intro⟩ rfl⟩
  | 9, h1, h2 => cases h1; cases h2; exact ⟨_, rfl, cellI (by decide)⟩
  | q + 10, h1, h2 => exact absurd h1 (by simp)

theorem kd_dev : ∀ d : Nat, ∀ k : VK, vK[d]? = some k → k.1 = 0 → k.2.1 = 6 → d = 4 := by
  intro d k h h0 h1
  have hd : d < 21 := (List.getElem?_eq_some_iff.mp h).1
  have key : ∀ d : Fin 21, ∀ k : VK, vK[d.val]? = some k → (k.1 == 0 && k.2.1 == 6) = true → d.val = 4 := by
    intro d k h
    match d, h with
    | ⟨0, _⟩, h => cases h; intro z; exact absurd z (by decide)
    | ⟨1, _⟩, h => cases h; intro z; exact absurd z (by decide)
    | ⟨2, _⟩, h => cases h; intro z; exact absurd z (by decide)
    | ⟨3, _⟩, h => cases h; intro z; exact absurd z (by decide)
    | ⟨4, _⟩, h => cases h; intro _; rfl
    | ⟨5, _⟩, h => cases h; intro z; exact absurd z (by decide)
    | ⟨6, _⟩, h => cases h; intro z; exact absurd z (by decide)
    | ⟨7, _⟩, h => cases h; intro z; exact absurd z (by decide)
    | ⟨8, _⟩, h => cases h; intro z; exact absurd z (by decide)
    | ⟨9, _⟩, h => cases h; intro z; exact absurd z (by decide)
    | ⟨10, _⟩, h => cases h; intro z; exact absurd z (by decide)
    | ⟨11, _⟩, h => cases h; intro z; exact absurd z (by decide)
    | ⟨12, _⟩, h => cases h; intro z; exact absurd z (by decide)
    | ⟨13, _⟩, h => cases h; intro z; exact absurd z (by decide)
    | ⟨14, _⟩, h => cases h; intro z; exact absurd z (by decide)
    | ⟨15, _⟩, h => cases h; intro z; exact absurd z (by decide)
    | ⟨16, _⟩, h => cases h; intro z; exact absurd z (by decide)
    | ⟨17, _⟩, h => cases h; intro z; exact absurd z (by decide)
    | ⟨18, _⟩, h => cases h; intro z; exact absurd z (by decide)
    | ⟨19, _⟩, h => cases h; intro z; exact absurd z (by decide)
    | ⟨20, _⟩, h => cases h; intro z; exact absurd z (by decide)
  exact key ⟨d, hd⟩ k h (by rw [h0, h1]; rfl)

theorem kd_pip : ∀ d : Nat, ∀ k : VK, vK[d]? = some k → k.1 = 0 → k.2.1 = 10 → d = 7 := by
  intro d k h h0 h1
  have hd : d < 21 := (List.getElem?_eq_some_iff.mp h).1
  have key : ∀ d : Fin 21, ∀ k : VK, vK[d.val]? = some k → (k.1 == 0 && k.2.1 == 10) = true → d.val = 7 := by
    intro d k h
    match d, h with
    | ⟨0, _⟩, h => cases h; intro z; exact absurd z (by decide)
    | ⟨1, _⟩, h => cases h; intro z; exact absurd z (by decide)
    | ⟨2, _⟩, h => cases h; intro z; exact absurd z (by decide)
    | ⟨3, _⟩, h => cases h; intro z; exact absurd z (by decide)
    | ⟨4, _⟩, h => cases h; intro z; exact absurd z (by decide)
    | ⟨5, _⟩, h => cases h; intro z; exact absurd z (by decide)
    | ⟨6, _⟩, h => cases h; intro z; exact absurd z (by decide)
    | ⟨7, _⟩, h => cases h; intro _; rfl
    | ⟨8, _⟩, h => cases h; intro z; exact absurd z (by decide)
    | ⟨9, _⟩, h => cases h; intro z; exact absurd z (by decide)
    | ⟨10, _⟩, h => cases h; intro z; exact absurd z (by decide)
    | ⟨11, _⟩, h => cases h; intro z; exact absurd z (by decide)
    | ⟨12, _⟩, h => cases h; intro z; exact absurd z (by decide)
    | ⟨13, _⟩, h => cases h; intro z; exact absurd z (by decide)
    | ⟨14, _⟩, h => cases h; intro z; exact absurd z (by decide)
    | ⟨15, _⟩, h => cases h; intro z; exact absurd z (by decide)
    | ⟨16, _⟩, h => cases h; intro z; exact absurd z (by decide)
    | ⟨17, _⟩, h => cases h; intro z; exact absurd z (by decide)
    | ⟨18, _⟩, h => cases h; intro z; exact absurd z (by decide)
    | ⟨19, _⟩, h => cases h; intro z; exact absurd z (by decide)
    | ⟨20, _⟩, h => cases h; intro z; exact absurd z (by decide)
  exact key ⟨d, hd⟩ k h (by rw [h0, h1]; rfl)

def hubT : List Nat := [0, 15, 12, 12, 17, 1, 10, 2, 10, 9, 12, 13, 11, 19, 14, 12, 12, 20]
set_option maxRecDepth 100000 in
theorem hub_cells (cy : Nat → ClassId) (h0 q1 q2 q3 q4 q5 q6 q7 q8 q9 q10 q11 q12 q13 q14 q15 q16 q17 : Nat) (f g : Nat → Option Nat) (ad2 τ2 : List Nat) (hf : ∀ j : Nat, j < 16 → vi_ok ([h0, q1, q2, q3, q4, q5, q6, q7, q8, q9, q10, q11, q12, q13, q14, q15, q16, q17] ++ ad2) ([0, 15, 12, 12, 17, 1, 10, 2, 10, 9, 12, 13, 11, 19, 14, 12, 12, 20] ++ τ2) (3, 4, 0) (va_rf (f j))) (hg : ∀ j : Nat, j < 12 → vi_ok ([h0, q1, q2, q3, q4, q5, q6, q7, q8, q9, q10, q11, q12, q13, q14, q15, q16, q17] ++ ad2) ([0, 15, 12, 12, 17, 1, 10, 2, 10, 9, 12, 13, 11, 19, 14, 12, 12, 20] ++ τ2) (3, 7, 0) (va_rf (g j))) : ∀ (q d : Nat) (e : Nat × va_E), ([0, 15, 12, 12, 17, 1, 10, 2, 10, 9, 12, 13, 11, 19, 14, 12, 12, 20] : List Nat)[q]? = some d → ([(h0, .inr (14, [.ref q1, .int 1, .ref q2, .ref q3, .int 0, .ref q4, .int 11, .int 0, .ref q5, .ref q7, .ref q9, .ref q13, .ref q17])), (q1, .inl (cy 4, 16, .inr (.inr (.inr (.inr (f)))))), (q2, .inl (cy 0, 8, .inl (fun _ => 0))), (q3, .inl (cy 0, 8, .inl (fun _ => 0))), (q4, .inl (cy 6, 12, .inr (.inr (.inr (.inr (g)))))), (q5, .inr (5, [.ref q6, .int 0, .int 0, .int 0])), (q6, .inl (cy 0, 32, .inl (fun _ => 0))), (q7, .inr (5, [.ref q8, .int 0, .int 0, .int 0])), (q8, .inl (cy 0, 32, .inl (fun _ => 0))), (q9, .inr (13, [.ref q10, .ref q11, .int 0, .ref q12, .int 0])), (q10, .inl (cy 0, 8, .inl (fun _ => 0))), (q11, .inl (cy 0, 128, .inl (fun _ => 0))), (q12, .inl (cy 0, 16, .inl (fun _ => 0))), (q13, .inr (8, [.ref q14, .ref q15, .ref q16, .int 0, .int 0, .int 0, .int 0, .int 0, .int (-1), .int 0])), (q14, .inl (cy 1, 8, .inl (fun _ => 0))), (q15, .inl (cy 0, 8, .inl (fun _ => 0))), (q16, .inl (cy 0, 8, .inl (fun _ => 0))), (q17, .inr (11, [.int 0, .int 0, .int 0]))] : va_W)[q]? = some e → ∃ k : VK, vK[d]? = some k ∧ vi_cell ([h0, q1, q2, q3, q4, q5, q6, q7, q8, q9, q10, q11, q12, q13, q14, q15, q16, q17] ++ ad2) ([0, 15, 12, 12, 17, 1, 10, 2, 10, 9, 12, 13, 11, 19, 14, 12, 12, 20] ++ τ2) cy k e.2 := by
  intro q d e h1 h2
  match q, h1, h2 with
  | 0, h1, h2 => cases h1; cases h2; exact ⟨_, rfl, cellO ⟨okr 1 rfl rfl, oki (by decide), okr 2 rfl rfl, okr 3 rfl rfl, oki (by decide), okr 4 rfl rfl, oki (by decide), oki (by decide), okr 5 rfl rfl, okr 7 rfl rfl, okr 9 rfl rfl, okr 13 rfl rfl, okr 17 rfl rfl, True.intro⟩ rfl⟩
  | 1, h1, h2 => cases h1; cases h2; exact ⟨_, rfl, cellR hf⟩
  | 2, h1, h2 => cases h1; cases h2; exact ⟨_, rfl, cellI (by decide)⟩
  | 3, h1, h2 => cases h1; cases h2; exact ⟨_, rfl, cellI (by decide)⟩
  | 4, h1, h2 => cases h1; cases h2; exact ⟨_, rfl, cellR hg⟩
  | 5, h1, h2 => cases h1; cases h2; exact ⟨_, rfl, cellO ⟨okr 6 rfl rfl, oki (by decide), oki (by decide), oki (by decide), True.intro⟩ rfl⟩
  | 6, h1, h2 => cases h1; cases h2; exact ⟨_, rfl, cellI (by decide)⟩
  | 7, h1, h2 => cases h1; cases h2; exact ⟨_, rfl, cellO ⟨okr 8 rfl rfl, oki (by decide), oki (by decide), oki (by decide), True.intro⟩ rfl⟩
  | 8, h1, h2 => cases h1; cases h2; exact ⟨_, rfl, cellI (by decide)⟩
  | 9, h1, h2 => cases h1; cases h2; exact ⟨_, rfl, cellO ⟨okr 10 rfl rfl, okr 11 rfl rfl, oki (by decide), okr 12 rfl rfl, oki (by decide), True.intro⟩ rfl⟩
  | 10, h1, h2 => cases h1; cases h2; exact ⟨_, rfl, cellI (by decide)⟩
  | 11, h1, h2 => cases h1; cases h2; exact ⟨_, rfl, cellI (by decide)⟩
  | 12, h1, h2 => cases h1; cases h2; exact ⟨_, rfl, cellI (by decide)⟩
  | 13, h1, h2 => cases h1; cases h2; exact ⟨_, rfl, cellO ⟨okr 14 rfl rfl, okr 15 rfl rfl, okr 16 rfl rfl, oki (by decide), oki (by decide), oki (by decide), oki (by decide), oki (by decide), oki (by decide), oki (by decide), True.intro⟩ rfl⟩
  | 14, h1, h2 => cases h1; cases h2; exact ⟨_, rfl, cellI (by decide)⟩
  | 15, h1, h2 => cases h1; cases h2; exact ⟨_, rfl, cellI (by decide)⟩
  | 16, h1, h2 => cases h1; cases h2; exact ⟨_, rfl, cellI (by decide)⟩
  | 17, h1, h2 => cases h1; cases h2; exact ⟨_, rfl, cellO ⟨oki (by decide), oki (by decide), oki (by decide), True.intro⟩ rfl⟩
  | q + 18, h1, h2 => exact absurd h1 (by simp)

theorem sg_hub {τ2 : List Nat} (h : ∀ d ∈ τ2, d ∉ vSG) : vi_s1 vSG ([0, 15, 12, 12, 17, 1, 10, 2, 10, 9, 12, 13, 11, 19, 14, 12, 12, 20] ++ τ2) := by
  have key : ∀ (q d : Nat), d ∈ vSG → (([0, 15, 12, 12, 17, 1, 10, 2, 10, 9, 12, 13, 11, 19, 14, 12, 12, 20] : List Nat) ++ τ2)[q]? = some d → q < 18 ∧ ([0, 15, 12, 12, 17, 1, 10, 2, 10, 9, 12, 13, 11, 19, 14, 12, 12, 20] : List Nat)[q]? = some d := by
    intro q d hd hq
    rcases Nat.lt_or_ge q 18 with z | z
    · rw [List.getElem?_append_left z] at hq
      exact ⟨z, hq⟩
    · rw [List.getElem?_append_right z] at hq
      exact absurd hd (h d (List.mem_of_getElem? hq))
  have dec : ∀ q : Fin 18, ∀ q2 : Fin 18, ([0, 15, 12, 12, 17, 1, 10, 2, 10, 9, 12, 13, 11, 19, 14, 12, 12, 20] : List Nat)[q.val]? = ([0, 15, 12, 12, 17, 1, 10, 2, 10, 9, 12, 13, 11, 19, 14, 12, 12, 20] : List Nat)[q2.val]? → (([0, 15, 12, 12, 17, 1, 10, 2, 10, 9, 12, 13, 11, 19, 14, 12, 12, 20] : List Nat).getD q.val 0) ∈ vSG → q.val = q2.val := by decide +kernel
  refine ⟨fun q q2 d hd h1 h2 => ?_, fun d hd => ?_⟩
  · obtain ⟨a1, a2⟩ := key q d hd h1
    obtain ⟨b1, b2⟩ := key q2 d hd h2
    exact dec ⟨q, a1⟩ ⟨q2, b1⟩ (by rw [a2, b2]) (by rw [List.getD_eq_getElem?_getD, a2]; exact hd)
  · have all : ∀ d ∈ vSG, ∃ q : Fin 18, ([0, 15, 12, 12, 17, 1, 10, 2, 10, 9, 12, 13, 11, 19, 14, 12, 12, 20] : List Nat)[q.val]? = some d := by decide +kernel
    obtain ⟨q, hq⟩ := all d hd
    exact ⟨q.val, by rw [List.getElem?_append_left (show q.val < ([0, 15, 12, 12, 17, 1, 10, 2, 10, 9, 12, 13, 11, 19, 14, 12, 12, 20] : List Nat).length from q.isLt)]; exact hq⟩
/-- what the law takes of the class's constructor -/
def HubT (cy : Nat → ClassId) (h0 : Nat) (w : va_W) : Prop := ∃ (ad τ : List Nat) (av : Nat) (fd : Nat → Option Nat), vi_tw vK cy (fun _ => True) ad τ w ∧ vi_s1 vSG τ ∧ τ[0]? = some 0 ∧ ad[0]? = some h0 ∧ CI cy ad τ 0 h0 av 1 fd w 1 0 ∧ CD 0 h0 w 0
set_option maxRecDepth 100000 in
theorem hub_T {A : Nat → Prop} (h0 q1 q2 q3 q4 q5 q6 q7 q8 q9 q10 q11 q12 q13 q14 q15 q16 q17 : Nat) {f g : Nat → Option Nat} {wd : va_W} {τd : List Nat} {Z : Nat → DevZ} {P : Nat → Nat × Nat} {k0 : Nat} (hD : va_D A (HubW cy h0 q1 q2 q3 q4 q5 q6 q7 q8 q9 q10 q11 q12 q13 q14 q15 q16 q17 f g ++ wd)) (hZ : ∀ k, k < 16 → f k = some (Z k).1 ∧ DevW cy k (Z k) wd) (hQ : ∀ k, k < 12 → g k = some (P k).1 ∧ ((P k).1, PipC k (P k).2) ∈ wd) (hk0 : (HubW cy h0 q1 q2 q3 q4 q5 q6 q7 q8 q9 q10 q11 q12 q13 q14 q15 q16 q17 f g ++ wd)[k0]? = some ((Z 0).1, DevC 0 (Z 0).2.1 (Z 0).2.2.1 0 0 117 (-1))) (hτ : ∀ d ∈ τd, d ∉ vSG) (hT : vi_tw vK cy (fun _ => True) (wd.map (fun q => q.1)) τd wd) :
    HubT cy h0 (((HubW cy h0 q1 q2 q3 q4 q5 q6 q7 q8 q9 q10 q11 q12 q13 q14 q15 q16 q17 f g ++ wd).set k0 ((Z 0).1, .inr (6, [.int (nI 0), .int 104, .int 4, .int 0, .int 1, .int 0, .int 0, .int 99, .null, .int 0, .int 0, .int 104, .int (-1), .int 0, .int (-1), .int 0, .int 0, .int 0, .ref (Z 0).2.1, .ref (Z 0).2.2.1]))).set 0 (h0, .inr (14, [.ref q1, .int 1, .ref q2, .ref q3, .int 0, .ref q4, .int 11, .int 0, .ref q5, .ref q7, .ref q9, .ref q13, .ref q17]))) := by
  have hl : ([0, 15, 12, 12, 17, 1, 10, 2, 10, 9, 12, 13, 11, 19, 14, 12, 12, 20] : List Nat).length = ([h0, q1, q2, q3, q4, q5, q6, q7, q8, q9, q10, q11, q12, q13, q14, q15, q16, q17] : List Nat).length := rfl
  have hf : ∀ j : Nat, j < 16 → vi_ok ([h0, q1, q2, q3, q4, q5, q6, q7, q8, q9, q10, q11, q12, q13, q14, q15, q16, q17] ++ wd.map (fun q => q.1)) ([0, 15, 12, 12, 17, 1, 10, 2, 10, 9, 12, 13, 11, 19, 14, 12, 12, 20] ++ τd) (3, 4, 0) (va_rf (f j)) := by
    intro j hj
    obtain ⟨e1, e2, -⟩ := hZ j hj
    obtain ⟨q, g1, g2, -⟩ := tag_of kd_dev hT e2
    rw [e1]
    obtain ⟨q1, a1, a2⟩ := emb_r (ad2 := wd.map (fun q => q.1)) (τ2 := τd) hl q _ _ g1 g2
    exact okr q1 a1 a2
  have hg : ∀ j : Nat, j < 12 → vi_ok ([h0, q1, q2, q3, q4, q5, q6, q7, q8, q9, q10, q11, q12, q13, q14, q15, q16, q17] ++ wd.map (fun q => q.1)) ([0, 15, 12, 12, 17, 1, 10, 2, 10, 9, 12, 13, 11, 19, 14, 12, 12, 20] ++ τd) (3, 7, 0) (va_rf (g j)) := by
    intro j hj
    obtain ⟨e1, e2⟩ := hQ j hj
    obtain ⟨q, g1, g2, -⟩ := tag_of kd_pip hT e2
    rw [e1]
    obtain ⟨q1, a1, a2⟩ := emb_r (ad2 := wd.map (fun q => q.1)) (τ2 := τd) hl q _ _ g1 g2
    exact okr q1 a1 a2
  obtain ⟨W1, eW⟩ : ∃ W1 : va_W, W1 = (HubW cy h0 q1 q2 q3 q4 q5 q6 q7 q8 q9 q10 q11 q12 q13 q14 q15 q16 q17 f g ++ wd).set 0 (h0, .inr (14, [.ref q1, .int 1, .ref q2, .ref q3, .int 0, .ref q4, .int 11, .int 0, .ref q5, .ref q7, .ref q9, .ref q13, .ref q17])) := ⟨_, rfl⟩
  have hW1 : vi_tw vK cy (fun _ => True) ([h0, q1, q2, q3, q4, q5, q6, q7, q8, q9, q10, q11, q12, q13, q14, q15, q16, q17] ++ wd.map (fun q => q.1)) ([0, 15, 12, 12, 17, 1, 10, 2, 10, 9, 12, 13, 11, 19, 14, 12, 12, 20] ++ τd) W1 := by
    rw [eW]
    exact tw_both (τ1 := [0, 15, 12, 12, 17, 1, 10, 2, 10, 9, 12, 13, 11, 19, 14, 12, 12, 20]) (ad1 := [h0, q1, q2, q3, q4, q5, q6, q7, q8, q9, q10, q11, q12, q13, q14, q15, q16, q17]) (w1 := [(h0, .inr (14, [.ref q1, .int 1, .ref q2, .ref q3, .int 0, .ref q4, .int 11, .int 0, .ref q5, .ref q7, .ref q9, .ref q13, .ref q17])), (q1, .inl (cy 4, 16, .inr (.inr (.inr (.inr (f)))))), (q2, .inl (cy 0, 8, .inl (fun _ => 0))), (q3, .inl (cy 0, 8, .inl (fun _ => 0))), (q4, .inl (cy 6, 12, .inr (.inr (.inr (.inr (g)))))), (q5, .inr (5, [.ref q6, .int 0, .int 0, .int 0])), (q6, .inl (cy 0, 32, .inl (fun _ => 0))), (q7, .inr (5, [.ref q8, .int 0, .int 0, .int 0])), (q8, .inl (cy 0, 32, .inl (fun _ => 0))), (q9, .inr (13, [.ref q10, .ref q11, .int 0, .ref q12, .int 0])), (q10, .inl (cy 0, 8, .inl (fun _ => 0))), (q11, .inl (cy 0, 128, .inl (fun _ => 0))), (q12, .inl (cy 0, 16, .inl (fun _ => 0))), (q13, .inr (8, [.ref q14, .ref q15, .ref q16, .int 0, .int 0, .int 0, .int 0, .int 0, .int (-1), .int 0])), (q14, .inl (cy 1, 8, .inl (fun _ => 0))), (q15, .inl (cy 0, 8, .inl (fun _ => 0))), (q16, .inl (cy 0, 8, .inl (fun _ => 0))), (q17, .inr (11, [.int 0, .int 0, .int 0]))]) hl rfl (hub_cells cy h0 q1 q2 q3 q4 q5 q6 q7 q8 q9 q10 q11 q12 q13 q14 q15 q16 q17 f g _ _ hf hg) hT
  have ne : ∀ i : Nat, i < 2 → k0 ≠ i := by
    intro i hi z
    rcases (show i = 0 ∨ i = 1 by omega) with rfl | rfl
    · subst z
      exact absurd (congrArg (fun x => my_cid x.2) (Option.some.inj hk0)) (by show ¬ (14 : Nat) = 6; decide)
    · subst z
      exact absurd (congrArg (fun x => my_cid x.2) (Option.some.inj hk0)) (by show ¬ (1000 + 16 : Nat) = 6; decide)
  have hk1 : W1[k0]? = some ((Z 0).1, DevC 0 (Z 0).2.1 (Z 0).2.2.1 0 0 117 (-1)) := by
    rw [eW, List.getElem?_set_ne (fun z => ne 0 (by decide) z.symm)]
    exact hk0
  have hm1 : ((Z 0).1, DevC 0 (Z 0).2.1 (Z 0).2.2.1 0 0 117 (-1)) ∈ W1 := List.mem_of_getElem? hk1
  have h18 : 18 ≤ k0 := by
    rcases Nat.lt_or_ge k0 18 with z | z
    · exfalso
      have hx := hk0
      rw [List.getElem?_append_left (show k0 < (HubW cy h0 q1 q2 q3 q4 q5 q6 q7 q8 q9 q10 q11 q12 q13 q14 q15 q16 q17 f g).length from z)] at hx
      have hc := congrArg (Option.map (fun x : Nat × va_E => my_cid x.2)) hx
      have all : ∀ j : Fin 18, Option.map (fun x : Nat × va_E => my_cid x.2) ((HubW cy h0 q1 q2 q3 q4 q5 q6 q7 q8 q9 q10 q11 q12 q13 q14 q15 q16 q17 f g)[j.val]?) ≠ some 6 := by
        intro j
        match j with
        | ⟨0, _⟩ => simp [my_cid]
        | ⟨1, _⟩ => simp [my_cid]
        | ⟨2, _⟩ => simp [my_cid]
        | ⟨3, _⟩ => simp [my_cid]
        | ⟨4, _⟩ => simp [my_cid]
        | ⟨5, _⟩ => simp [my_cid]
        | ⟨6, _⟩ => simp [my_cid]
        | ⟨7, _⟩ => simp [my_cid]
        | ⟨8, _⟩ => simp [my_cid]
        | ⟨9, _⟩ => simp [my_cid]
        | ⟨10, _⟩ => simp [my_cid]
        | ⟨11, _⟩ => simp [my_cid]
        | ⟨12, _⟩ => simp [my_cid]
        | ⟨13, _⟩ => simp [my_cid]
        | ⟨14, _⟩ => simp [my_cid]
        | ⟨15, _⟩ => simp [my_cid]
        | ⟨16, _⟩ => simp [my_cid]
        | ⟨17, _⟩ => simp [my_cid]
        | ⟨j + 18, h⟩ => exact absurd h (by omega)
      exact all ⟨k0, z⟩ hc
    · exact z
  have hdd : ∀ (i j : Nat) (p q : Nat × va_E), W1[i]? = some p → W1[j]? = some q → p.1 = q.1 → i = j := by
    have e9 : W1.map (fun q => q.1) = (HubW cy h0 q1 q2 q3 q4 q5 q6 q7 q8 q9 q10 q11 q12 q13 q14 q15 q16 q17 f g ++ wd).map (fun q => q.1) := by rw [eW]; rfl
    intro i j p q hi hj e
    have gi : ((HubW cy h0 q1 q2 q3 q4 q5 q6 q7 q8 q9 q10 q11 q12 q13 q14 q15 q16 q17 f g ++ wd).map (fun q => q.1))[i]? = some p.1 := by rw [← e9, List.getElem?_map, hi]; rfl
    have gj : ((HubW cy h0 q1 q2 q3 q4 q5 q6 q7 q8 q9 q10 q11 q12 q13 q14 q15 q16 q17 f g ++ wd).map (fun q => q.1))[j]? = some q.1 := by rw [← e9, List.getElem?_map, hj]; rfl
    rw [List.getElem?_map] at gi gj
    obtain ⟨p0, hp0, ep⟩ := Option.map_eq_some_iff.mp gi
    obtain ⟨q0, hq0, eq⟩ := Option.map_eq_some_iff.mp gj
    exact hD.1 i j p0 q0 hp0 hq0 (by rw [ep, eq]; exact e)
  obtain ⟨k4, g1, g2, g3⟩ := tag_of kd_dev hW1 hm1
  have e4 : k4 = k0 := hdd _ _ _ _ g3 hk1 rfl
  subst e4
  obtain ⟨kd, x1, x2⟩ := hW1.2.2.1 _ _ _ g1 hk1
  cases x1
  have x3 := cell_set (k := 2) (v := .int 4) x2 (fun a h => by cases h; exact oki (by decide))
  have x4 := cell_set (k := 4) (v := .int 1) x3 (fun a h => by cases h; exact oki (by decide))
  have x5 := cell_set (k := 7) (v := .int 99) x4 (fun a h => by cases h; exact oki (by decide))
  have x6 := cell_set (k := 10) (v := .int 0) x5 (fun a h => by cases h; exact oki (by decide))
  have hW := vi_tw_set (Z := fun _ => True) hW1 g1 hk1 rfl x6 True.intro
  rw [List.set_comm _ _ (ne 0 (by decide)), ← eW]
  have hh0 : (W1.set k4 ((Z 0).1, Sum.inr (6, (((([.int (nI 0), .int 104, .int 0, .int 0, .int 0, .int 0, .int 0, .int 117, .null, .int 0, .int (-1), .int 104, .int (-1), .int 0, .int (-1), .int 0, .int 0, .int 0, .ref (Z 0).2.1, .ref (Z 0).2.2.1] : List Value).set 2 (.int 4)).set 4 (.int 1)).set 7 (.int 99)).set 10 (.int 0))))[0]? = some (h0, .inr (14, [.ref q1, .int 1, .ref q2, .ref q3, .int 0, .ref q4, .int 11, .int 0, .ref q5, .ref q7, .ref q9, .ref q13, .ref q17])) := by
    rw [List.getElem?_set_ne (ne 0 (by decide)), eW]
    rfl
  refine ⟨_, _, q1, f, hW, sg_hub hτ, rfl, rfl, ⟨⟨[.ref q1, .int 1, .ref q2, .ref q3, .int 0, .ref q4, .int 11, .int 0, .ref q5, .ref q7, .ref q9, .ref q13, .ref q17], hh0, rfl, rfl, rfl⟩, ?_, fun j hj => ?_⟩, ⟨_, hh0, rfl⟩⟩
  · rw [List.getElem?_set_ne (ne 1 (by decide)), eW]
    rfl
  · obtain ⟨e1, e2, -⟩ := hZ j hj
    have hm : ((Z j).1, DevC j (Z j).2.1 (Z j).2.2.1 0 0 117 (-1)) ∈ W1 := by
      rw [eW]
      exact List.mem_cons_of_mem _ (List.mem_append_right (HubW cy h0 q1 q2 q3 q4 q5 q6 q7 q8 q9 q10 q11 q12 q13 q14 q15 q16 q17 f g).tail e2)
    obtain ⟨qd, y1, y2, y3⟩ := tag_of kd_dev hW1 hm
    by_cases c : qd = k4
    · subst c
      have ee := Option.some.inj (y3.symm.trans hk1)
      have e5 : nI j = nI 0 := by
        have := congrArg (fun x => my_f0 x.2) ee
        have : (Value.int (nI j)) = .int (nI 0) := this
        injection this
      refine ⟨(Z 0).1, qd, _, by rw [e1]; exact congrArg (fun x : Nat × va_E => some x.1) ee, List.getElem?_set_self (List.getElem?_eq_some_iff.mp hk1).1, g1, ?_⟩
      show some (Value.int (nI 0)) = some (.int (nI j))
      rw [e5]
    · exact ⟨(Z j).1, qd, _, e1, by rw [List.getElem?_set_ne (fun z => c z.symm)]; exact y3, y1, rfl⟩

end CTY
