section CTY
/-! the class's cells behind its constructor: each of its kind -/
variable {ad τ ad1 τ1 ad2 τ2 : List Nat} {cy : Nat → ClassId} {w1 w2 w : va_W}
def emb (ad τ ad1 τ1 : List Nat) : Prop := ∀ q d b : Nat, τ[q]? = some d → ad[q]? = some b → ∃ q1 : Nat, τ1[q1]? = some d ∧ ad1[q1]? = some b
theorem ok_emb (he : emb ad τ ad1 τ1) {a : VA} {v : Value} (h : vi_ok ad τ a v) : vi_ok ad1 τ1 a v := by
  obtain ⟨t, x, y⟩ := a
  match t, h with
  | 0, h => exact h
  | 1, h => exact h
  | 2, h => exact h
  | 3, h =>
    rcases h with h | ⟨q, b, h1, h2, h3⟩
    · exact Or.inl h
    · obtain ⟨q1, g1, g2⟩ := he q _ b h1 h2
      exact Or.inr ⟨q1, b, g1, g2, h3⟩
  | 4, h => exact h
  | 5, h => exact h
  | _ + 6, h => exact h
theorem cell_emb (he : emb ad τ ad1 τ1) {k : VK} {e : va_E} (h : vi_cell ad τ cy k e) : vi_cell ad1 τ1 cy k e := by
  obtain ⟨t, ci, n, els⟩ := k
  match t, h with
  | 0, ⟨vs, e, l, ok⟩ => exact ⟨vs, e, l, fun i a v h1 h2 => ok_emb he (ok i a v h1 h2)⟩
  | 1, h => exact h
  | _ + 2, ⟨f, e, ok⟩ => exact ⟨f, e, fun a h1 j hj => ok_emb he (ok a h1 j hj)⟩
theorem emb_l : emb ad1 τ1 (ad1 ++ ad2) (τ1 ++ τ2) := fun q d b h1 h2 => ⟨q, by rw [List.getElem?_append_left (List.getElem?_eq_some_iff.mp h1).1]; exact h1, by rw [List.getElem?_append_left (List.getElem?_eq_some_iff.mp h2).1]; exact h2⟩
theorem emb_r (hl : τ1.length = ad1.length) : emb ad2 τ2 (ad1 ++ ad2) (τ1 ++ τ2) := fun q d b h1 h2 => ⟨τ1.length + q, by rw [List.getElem?_append_right (by omega), Nat.add_sub_cancel_left]; exact h1, by rw [hl, List.getElem?_append_right (by omega), Nat.add_sub_cancel_left]; exact h2⟩
theorem tw_len (h : vi_tw vK cy (fun _ => True) ad τ w) : w.length = τ.length := by rw [h.2.1, ← h.1, List.length_map]
/-- two worlds, side by side: the cells of each of their kinds in the whole -/
theorem tw_both (hl : τ1.length = ad1.length) (hw : w1.map (fun q => q.1) = ad1) (h1 : ∀ (q d : Nat) (e : Nat × va_E), τ1[q]? = some d → w1[q]? = some e → ∃ k : VK, vK[d]? = some k ∧ vi_cell (ad1 ++ ad2) (τ1 ++ τ2) cy k e.2) (h2 : vi_tw vK cy (fun _ => True) ad2 τ2 w2) : vi_tw vK cy (fun _ => True) (ad1 ++ ad2) (τ1 ++ τ2) (w1 ++ w2) := by
  have hn : w1.length = τ1.length := by rw [hl, ← hw, List.length_map]
  refine ⟨by rw [List.map_append, hw, h2.1], by rw [List.length_append, List.length_append, hl, h2.2.1], fun q d e a1 a2 => ?_, True.intro⟩
  rcases Nat.lt_or_ge q τ1.length with z | z
  · rw [List.getElem?_append_left z] at a1
    rw [List.getElem?_append_left (by omega)] at a2
    exact h1 q d e a1 a2
  · rw [List.getElem?_append_right z] at a1
    rw [List.getElem?_append_right (by omega), hn] at a2
    obtain ⟨k, g1, g2⟩ := h2.2.2.1 _ d e a1 a2
    exact ⟨k, g1, cell_emb (emb_r hl) g2⟩
theorem tw_app (h1 : vi_tw vK cy (fun _ => True) ad1 τ1 w1) (h2 : vi_tw vK cy (fun _ => True) ad2 τ2 w2) : vi_tw vK cy (fun _ => True) (ad1 ++ ad2) (τ1 ++ τ2) (w1 ++ w2) := tw_both h1.2.1 h1.1 (fun q d e a1 a2 => by
  obtain ⟨k, g1, g2⟩ := h1.2.2.1 q d e a1 a2
  exact ⟨k, g1, cell_emb emb_l g2⟩) h2
theorem tw_nil : vi_tw vK cy (fun _ => True) [] [] [] := ⟨rfl, rfl, fun q d e h1 h2 => by simp at h1, True.intro⟩
theorem oki {lo hi : Int} {x : Int32} (h : lo ≤ x.toInt ∧ x.toInt ≤ hi) : vi_ok ad τ (1, lo, hi) (.int x) := ⟨x, rfl, h⟩
theorem okn {k n : Int} (h : n ≠ 0) : vi_ok ad τ (3, k, n) .null := Or.inl ⟨h, rfl⟩
theorem hokr {k n : Int} {b : Nat} (q : Nat) (h1 : τ[q]? = some k.toNat) (h2 : ad[q]? = some b) : vi_ok ad τ (3, k, n) (.ref b) := Or.inr ⟨q, b, h1, h2, rfl⟩
theorem okN {i N : Nat} {lo hi : Int} (hi1 : i < N) (h : lo = 0 ∧ hi = (N : Int) - 1 ∧ N < 2147483647 := by decide) : lo ≤ (nI i).toInt ∧ (nI i).toInt ≤ hi := by
  rw [nI_toInt (by omega)]
  omega
theorem cellO {ci x : Nat} {as : List VA} {vs : List Value} (h : vi_tys ad τ as vs) (hl : vs.length = as.length) : vi_cell ad τ cy (0, ci, x, as) (.inr (ci, vs)) := ⟨vs, rfl, hl, fun i a v h1 h2 => vi_tys_ok h i a v h1 h2⟩
theorem cellI {ty N : Nat} {lo hi : Int} (h : lo ≤ (0 : Int32).toInt ∧ (0 : Int32).toInt ≤ hi) : vi_cell ad τ cy (1, ty, N, [(1, lo, hi)]) (.inl (cy ty, N, .inl (fun _ => 0))) := ⟨fun _ => 0, rfl, fun a h1 => by cases h1; exact ⟨rfl, fun j _ => h⟩⟩
theorem cellR {ty N : Nat} {a : VA} {f : Nat → Option Nat} (h : ∀ j : Nat, j < N → vi_ok ad τ a (va_rf (f j))) : vi_cell ad τ cy (2, ty, N, [a]) (.inl (cy ty, N, .inr (.inr (.inr (.inr f))))) := ⟨f, rfl, fun b h1 j hj => by cases h1; exact h j hj⟩
theorem cell_set {ci x k : Nat} {as : List VA} {vs : List Value} {v : Value} (h : vi_cell ad τ cy (0, ci, x, as) (.inr (ci, vs))) (hv : ∀ a : VA, as[k]? = some a → vi_ok ad τ a v) : vi_cell ad τ cy (0, ci, x, as) (.inr (ci, vs.set k v)) := by
  obtain ⟨vs2, e, l, ok⟩ := h
  have e2 : vs = vs2 := by
    injection e with e3
    exact (Prod.mk.inj e3).2
  subst e2
  refine ⟨_, rfl, by rw [List.length_set]; exact l, fun i a y h1 h2 => ?_⟩
  by_cases c : i = k
  · subst c
    have hlt := (List.getElem?_eq_some_iff.mp h2).1
    rw [List.length_set] at hlt
    rw [List.getElem?_set_self hlt] at h2
    cases h2
    exact hv a h1
  · rw [List.getElem?_set_ne (fun z => c z.symm)] at h2
    exact ok i a y h1 h2
/-- the kind of a cell of a class that has one kind -/
theorem tag_of {ci d0 a : Nat} {fs : List Value} (hd : ∀ d : Nat, ∀ k : VK, vK[d]? = some k → k.1 = 0 → k.2.1 = ci → d = d0) (h : vi_tw vK cy (fun _ => True) ad τ w) (hm : (a, .inr (ci, fs)) ∈ w) : ∃ q : Nat, τ[q]? = some d0 ∧ ad[q]? = some a ∧ w[q]? = some (a, .inr (ci, fs)) := by
  obtain ⟨q, hq⟩ := List.mem_iff_getElem?.mp hm
  have hlt := (List.getElem?_eq_some_iff.mp hq).1
  rw [tw_len h] at hlt
  have ht : τ[q]? = some τ[q] := List.getElem?_eq_getElem hlt
  obtain ⟨k, g1, g2⟩ := h.2.2.1 q _ _ ht hq
  have g2 : vi_cell ad τ cy k (.inr (ci, fs)) := g2
  obtain ⟨t, c2, n, els⟩ := k
  have hk : t = 0 ∧ c2 = ci := by
    match t, g2 with
    | 0, ⟨vs, e, _⟩ =>
      have e : (Sum.inr (ci, fs) : va_E) = .inr (c2, vs) := e
      injection e with e2
      exact ⟨rfl, (Prod.mk.inj e2).1.symm⟩
    | 1, ⟨f, e, _⟩ => cases e
    | _ + 2, ⟨f, e, _⟩ => cases e
  have := hd _ _ g1 hk.1 hk.2
  rw [this] at ht
  exact ⟨q, ht, by rw [← h.1, List.getElem?_map, hq]; rfl, hq⟩

set_option maxRecDepth 100000 in
theorem dev_tw (cy : Nat → ClassId) (q0 r1 r2 r3 r4 r5 r6 r7 r8 r9 r10 r11 r12 r13 r14 : Nat) {i : Nat} (hi : i < 16) : vi_tw vK cy (fun _ => True) (([(q0, .inr (6, [.int (nI i), .int 104, .int 0, .int 0, .int 0, .int 0, .int 0, .int 117, .null, .int 0, .int (-1), .int 104, .int (-1), .int 0, .int (-1), .int 0, .int 0, .int 0, .ref r1, .ref r2])), (r1, .inr (9, [.int 32, .int 0])), (r2, .inl (cy 5, 3, .inr (.inr (.inr (.inr (va_up (va_up (va_up (fun _ => none) 0 (some r3)) 1 (some r7)) 2 (some r11))))))), (r3, .inr (7, [.int 0, .int 0, .int 0, .int 0, .int 0, .int 0, .int 0, .ref r4, .ref r6])), (r4, .inr (5, [.ref r5, .int 0, .int 0, .int 0])), (r5, .inl (cy 0, 32, .inl (fun _ => 0))), (r6, .inr (9, [.int 32, .int 0])), (r7, .inr (7, [.int 0, .int 0, .int 0, .int 0, .int 0, .int 0, .int 0, .ref r8, .ref r10])), (r8, .inr (5, [.ref r9, .int 0, .int 0, .int 0])), (r9, .inl (cy 0, 32, .inl (fun _ => 0))), (r10, .inr (9, [.int 32, .int 0])), (r11, .inr (7, [.int 0, .int 0, .int 0, .int 0, .int 0, .int 0, .int 0, .ref r12, .ref r14])), (r12, .inr (5, [.ref r13, .int 0, .int 0, .int 0])), (r13, .inl (cy 0, 32, .inl (fun _ => 0))), (r14, .inr (9, [.int 32, .int 0]))] : va_W).map (fun q => q.1)) [4, 6, 16, 5, 3, 10, 6, 5, 3, 10, 6, 5, 3, 10, 6] [(q0, .inr (6, [.int (nI i), .int 104, .int 0, .int 0, .int 0, .int 0, .int 0, .int 117, .null, .int 0, .int (-1), .int 104, .int (-1), .int 0, .int (-1), .int 0, .int 0, .int 0, .ref r1, .ref r2])), (r1, .inr (9, [.int 32, .int 0])), (r2, .inl (cy 5, 3, .inr (.inr (.inr (.inr (va_up (va_up (va_up (fun _ => none) 0 (some r3)) 1 (some r7)) 2 (some r11))))))), (r3, .inr (7, [.int 0, .int 0, .int 0, .int 0, .int 0, .int 0, .int 0, .ref r4, .ref r6])), (r4, .inr (5, [.ref r5, .int 0, .int 0, .int 0])), (r5, .inl (cy 0, 32, .inl (fun _ => 0))), (r6, .inr (9, [.int 32, .int 0])), (r7, .inr (7, [.int 0, .int 0, .int 0, .int 0, .int 0, .int 0, .int 0, .ref r8, .ref r10])), (r8, .inr (5, [.ref r9, .int 0, .int 0, .int 0])), (r9, .inl (cy 0, 32, .inl (fun _ => 0))), (r10, .inr (9, [.int 32, .int 0])), (r11, .inr (7, [.int 0, .int 0, .int 0, .int 0, .int 0, .int 0, .int 0, .ref r12, .ref r14])), (r12, .inr (5, [.ref r13, .int 0, .int 0, .int 0])), (r13, .inl (cy 0, 32, .inl (fun _ => 0))), (r14, .inr (9, [.int 32, .int 0]))] := by
  refine ⟨rfl, rfl, fun q d e h1 h2 => ?_, True.intro⟩
  match q, h1, h2 with
  | 0, h1, h2 => cases h1; cases h2; exact ⟨_, rfl, cellO ⟨oki (okN hi), oki (by decide), oki (by decide), oki (by decide), oki (by decide), oki (by decide), oki (by decide), oki (by decide), okn (by decide), oki (by decide), oki (by decide), oki (by decide), oki (by decide), oki (by decide), oki (by decide), oki (by decide), oki (by decide), oki (by decide), hokr 1 rfl rfl, hokr 2 rfl rfl, True.intro⟩ rfl⟩
  | 1, h1, h2 => cases h1; cases h2; exact ⟨_, rfl, cellO ⟨oki (by decide), oki (by decide), True.intro⟩ rfl⟩
  | 2, h1, h2 => cases h1; cases h2; exact ⟨_, rfl, cellR (fun j hj => match j, hj with | 0, _ => hokr 3 rfl rfl | 1, _ => hokr 7 rfl rfl | 2, _ => hokr 11 rfl rfl | j + 3, hj => absurd hj (by omega))⟩
  | 3, h1, h2 => cases h1; cases h2; exact ⟨_, rfl, cellO ⟨oki (by decide), oki (by decide), oki (by decide), oki (by decide), oki (by decide), oki (by decide), oki (by decide), hokr 4 rfl rfl, hokr 6 rfl rfl, True.intro⟩ rfl⟩
  | 4, h1, h2 => cases h1; cases h2; exact ⟨_, rfl, cellO ⟨hokr 5 rfl rfl, oki (by decide), oki (by decide), oki (by decide), True.intro⟩ rfl⟩
  | 5, h1, h2 => cases h1; cases h2; exact ⟨_, rfl, cellI (by decide)⟩
  | 6, h1, h2 => cases h1; cases h2; exact ⟨_, rfl, cellO ⟨oki (by decide), oki (by decide), True.intro⟩ rfl⟩
  | 7, h1, h2 => cases h1; cases h2; exact ⟨_, rfl, cellO ⟨oki (by decide), oki (by decide), oki (by decide), oki (by decide), oki (by decide), oki (by decide), oki (by decide), hokr 8 rfl rfl, hokr 10 rfl rfl, True.intro⟩ rfl⟩
  | 8, h1, h2 => cases h1; cases h2; exact ⟨_, rfl, cellO ⟨hokr 9 rfl rfl, oki (by decide), oki (by decide), oki (by decide), True.intro⟩ rfl⟩
  | 9, h1, h2 => cases h1; cases h2; exact ⟨_, rfl, cellI (by decide)⟩
  | 10, h1, h2 => cases h1; cases h2; exact ⟨_, rfl, cellO ⟨oki (by decide), oki (by decide), True.intro⟩ rfl⟩
  | 11, h1, h2 => cases h1; cases h2; exact ⟨_, rfl, cellO ⟨oki (by decide), oki (by decide), oki (by decide), oki (by decide), oki (by decide), oki (by decide), oki (by decide), hokr 12 rfl rfl, hokr 14 rfl rfl, True.intro⟩ rfl⟩
  | 12, h1, h2 => cases h1; cases h2; exact ⟨_, rfl, cellO ⟨hokr 13 rfl rfl, oki (by decide), oki (by decide), oki (by decide), True.intro⟩ rfl⟩
  | 13, h1, h2 => cases h1; cases h2; exact ⟨_, rfl, cellI (by decide)⟩
  | 14, h1, h2 => cases h1; cases h2; exact ⟨_, rfl, cellO ⟨oki (by decide), oki (by decide), True.intro⟩ rfl⟩
  | q + 15, h1, h2 => exact absurd h1 (by simp)

set_option maxRecDepth 100000 in
theorem pip_tw (cy : Nat → ClassId) (q0 r1 r2 r3 r4 r5 r6 r7 r8 r9 : Nat) {i : Nat} (hi : i < 12) : vi_tw vK cy (fun _ => True) (([(q0, .inr (10, [.int (nI i), .null, .null, .int 98, .int 1, .int (-1), .int 0, .int 0, .int 0, .int 32, .int 0, .ref r1, .int 0, .int 0])), (r1, .inl (cy 7, 4, .inr (.inr (.inr (.inr (va_up (va_up (va_up (va_up (fun _ => none) 0 (some r2)) 1 (some r4)) 2 (some r6)) 3 (some r8))))))), (r2, .inr (12, [.ref r3, .int 0, .int 0, .int 0, .int 0, .int 0])), (r3, .inl (cy 0, 16, .inl (fun _ => 0))), (r4, .inr (12, [.ref r5, .int 0, .int 0, .int 0, .int 0, .int 0])), (r5, .inl (cy 0, 16, .inl (fun _ => 0))), (r6, .inr (12, [.ref r7, .int 0, .int 0, .int 0, .int 0, .int 0])), (r7, .inl (cy 0, 16, .inl (fun _ => 0))), (r8, .inr (12, [.ref r9, .int 0, .int 0, .int 0, .int 0, .int 0])), (r9, .inl (cy 0, 16, .inl (fun _ => 0)))] : va_W).map (fun q => q.1)) [7, 18, 8, 11, 8, 11, 8, 11, 8, 11] [(q0, .inr (10, [.int (nI i), .null, .null, .int 98, .int 1, .int (-1), .int 0, .int 0, .int 0, .int 32, .int 0, .ref r1, .int 0, .int 0])), (r1, .inl (cy 7, 4, .inr (.inr (.inr (.inr (va_up (va_up (va_up (va_up (fun _ => none) 0 (some r2)) 1 (some r4)) 2 (some r6)) 3 (some r8))))))), (r2, .inr (12, [.ref r3, .int 0, .int 0, .int 0, .int 0, .int 0])), (r3, .inl (cy 0, 16, .inl (fun _ => 0))), (r4, .inr (12, [.ref r5, .int 0, .int 0, .int 0, .int 0, .int 0])), (r5, .inl (cy 0, 16, .inl (fun _ => 0))), (r6, .inr (12, [.ref r7, .int 0, .int 0, .int 0, .int 0, .int 0])), (r7, .inl (cy 0, 16, .inl (fun _ => 0))), (r8, .inr (12, [.ref r9, .int 0, .int 0, .int 0, .int 0, .int 0])), (r9, .inl (cy 0, 16, .inl (fun _ => 0)))] := by
  refine ⟨rfl, rfl, fun q d e h1 h2 => ?_, True.intro⟩
  match q, h1, h2 with
  | 0, h1, h2 => cases h1; cases h2; exact ⟨_, rfl, cellO ⟨oki (okN hi), okn (by decide), okn (by decide), oki (by decide), oki (by decide), oki (by decide), oki (by decide), oki (by decide), oki (by decide), oki (by decide), oki (by decide), hokr 1 rfl rfl, oki (by decide), oki (by decide), True.intro⟩ rfl⟩
  | 1, h1, h2 => cases h1; cases h2; exact ⟨_, rfl, cellR (fun j hj => match j, hj with | 0, _ => hokr 2 rfl rfl | 1, _ => hokr 4 rfl rfl | 2, _ => hokr 6 rfl rfl | 3, _ => hokr 8 rfl rfl | j + 4, hj => absurd hj (by omega))⟩
  | 2, h1, h2 => cases h1; cases h2; exact ⟨_, rfl, cellO ⟨hokr 3 rfl rfl, oki (by decide), oki (by decide), oki (by decide), oki (by decide), oki (by decide), True.intro⟩ rfl⟩
  | 3, h1, h2 => cases h1; cases h2; exact ⟨_, rfl, cellI (by decide)⟩
  | 4, h1, h2 => cases h1; cases h2; exact ⟨_, rfl, cellO ⟨hokr 5 rfl rfl, oki (by decide), oki (by decide), oki (by decide), oki (by decide), oki (by decide), True.intro⟩ rfl⟩
  | 5, h1, h2 => cases h1; cases h2; exact ⟨_, rfl, cellI (by decide)⟩
  | 6, h1, h2 => cases h1; cases h2; exact ⟨_, rfl, cellO ⟨hokr 7 rfl rfl, oki (by decide), oki (by decide), oki (by decide), oki (by decide), oki (by decide), True.intro⟩ rfl⟩
  | 7, h1, h2 => cases h1; cases h2; exact ⟨_, rfl, cellI (by decide)⟩
  | 8, h1, h2 => cases h1; cases h2; exact ⟨_, rfl, cellO ⟨hokr 9 rfl rfl, oki (by decide), oki (by decide), oki (by decide), oki (by decide), oki (by decide), True.intro⟩ rfl⟩
  | 9, h1, h2 => cases h1; cases h2; exact ⟨_, rfl, cellI (by decide)⟩
  | q + 10, h1, h2 => exact absurd h1 (by simp)

theorem kd_dev : ∀ d : Nat, ∀ k : VK, vK[d]? = some k → k.1 = 0 → k.2.1 = 6 → d = 4 := by
  intro d k h h0 h1
  have hd : d < 22 := (List.getElem?_eq_some_iff.mp h).1
  have key : ∀ d : Fin 22, ∀ k : VK, vK[d.val]? = some k → (k.1 == 0 && k.2.1 == 6) = true → d.val = 4 := by
    intro d k h
    match d, h with
    | ⟨0, _⟩, h => cases h; intro z; exact absurd z (by decide)
    | ⟨1, _⟩, h => cases h; intro z; exact absurd z (by decide)
    | ⟨2, _⟩, h => cases h; intro z; exact absurd z (by decide)
    | ⟨3, _⟩, h => cases h; intro z; exact absurd z (by decide)
    | ⟨4, _⟩, h => cases h; intro _; rfl
    | ⟨5, _⟩, h => cases h; intro z; exact absurd z (by decide)
    | ⟨6, _⟩, h => cases h; intro z; exact absurd z (by decide)
    | ⟨7, _⟩, h => cases h; intro z; exact absurd z (by decide)
    | ⟨8, _⟩, h => cases h; intro z; exact absurd z (by decide)
    | ⟨9, _⟩, h => cases h; intro z; exact absurd z (by decide)
    | ⟨10, _⟩, h => cases h; intro z; exact absurd z (by decide)
    | ⟨11, _⟩, h => cases h; intro z; exact absurd z (by decide)
    | ⟨12, _⟩, h => cases h; intro z; exact absurd z (by decide)
    | ⟨13, _⟩, h => cases h; intro z; exact absurd z (by decide)
    | ⟨14, _⟩, h => cases h; intro z; exact absurd z (by decide)
    | ⟨15, _⟩, h => cases h; intro z; exact absurd z (by decide)
    | ⟨16, _⟩, h => cases h; intro z; exact absurd z (by decide)
    | ⟨17, _⟩, h => cases h; intro z; exact absurd z (by decide)
    | ⟨18, _⟩, h => cases h; intro z; exact absurd z (by decide)
    | ⟨19, _⟩, h => cases h; intro z; exact absurd z (by decide)
    | ⟨20, _⟩, h => cases h; intro z; exact absurd z (by decide)
    | ⟨21, _⟩, h => cases h; intro z; exact absurd z (by decide)
  exact key ⟨d, hd⟩ k h (by rw [h0, h1]; rfl)

theorem kd_pip : ∀ d : Nat, ∀ k : VK, vK[d]? = some k → k.1 = 0 → k.2.1 = 10 → d = 7 := by
  intro d k h h0 h1
  have hd : d < 22 := (List.getElem?_eq_some_iff.mp h).1
  have key : ∀ d : Fin 22, ∀ k : VK, vK[d.val]? = some k → (k.1 == 0 && k.2.1 == 10) = true → d.val = 7 := by
    intro d k h
    match d, h with
    | ⟨0, _⟩, h => cases h; intro z; exact absurd z (by decide)
    | ⟨1, _⟩, h => cases h; intro z; exact absurd z (by decide)
    | ⟨2, _⟩, h => cases h; intro z; exact absurd z (by decide)
    | ⟨3, _⟩, h => cases h; intro z; exact absurd z (by decide)
    | ⟨4, _⟩, h => cases h; intro z; exact absurd z (by decide)
    | ⟨5, _⟩, h => cases h; intro z; exact absurd z (by decide)
    | ⟨6, _⟩, h => cases h; intro z; exact absurd z (by decide)
    | ⟨7, _⟩, h => cases h; intro _; rfl
    | ⟨8, _⟩, h => cases h; intro z; exact absurd z (by decide)
    | ⟨9, _⟩, h => cases h; intro z; exact absurd z (by decide)
    | ⟨10, _⟩, h => cases h; intro z; exact absurd z (by decide)
    | ⟨11, _⟩, h => cases h; intro z; exact absurd z (by decide)
    | ⟨12, _⟩, h => cases h; intro z; exact absurd z (by decide)
    | ⟨13, _⟩, h => cases h; intro z; exact absurd z (by decide)
    | ⟨14, _⟩, h => cases h; intro z; exact absurd z (by decide)
    | ⟨15, _⟩, h => cases h; intro z; exact absurd z (by decide)
    | ⟨16, _⟩, h => cases h; intro z; exact absurd z (by decide)
    | ⟨17, _⟩, h => cases h; intro z; exact absurd z (by decide)
    | ⟨18, _⟩, h => cases h; intro z; exact absurd z (by decide)
    | ⟨19, _⟩, h => cases h; intro z; exact absurd z (by decide)
    | ⟨20, _⟩, h => cases h; intro z; exact absurd z (by decide)
    | ⟨21, _⟩, h => cases h; intro z; exact absurd z (by decide)
  exact key ⟨d, hd⟩ k h (by rw [h0, h1]; rfl)

def hubT : List Nat := [0, 15, 12, 12, 17, 1, 10, 2, 10, 9, 21, 13, 11, 19, 14, 12, 12, 20]
set_option maxRecDepth 100000 in
theorem hub_cells (cy : Nat → ClassId) (h0 q1 q2 q3 q4 q5 q6 q7 q8 q9 q10 q11 q12 q13 q14 q15 q16 q17 : Nat) (f g : Nat → Option Nat) (ad2 τ2 : List Nat) (hf : ∀ j : Nat, j < 16 → vi_ok ([h0, q1, q2, q3, q4, q5, q6, q7, q8, q9, q10, q11, q12, q13, q14, q15, q16, q17] ++ ad2) ([0, 15, 12, 12, 17, 1, 10, 2, 10, 9, 21, 13, 11, 19, 14, 12, 12, 20] ++ τ2) (3, 4, 0) (va_rf (f j))) (hg : ∀ j : Nat, j < 12 → vi_ok ([h0, q1, q2, q3, q4, q5, q6, q7, q8, q9, q10, q11, q12, q13, q14, q15, q16, q17] ++ ad2) ([0, 15, 12, 12, 17, 1, 10, 2, 10, 9, 21, 13, 11, 19, 14, 12, 12, 20] ++ τ2) (3, 7, 0) (va_rf (g j))) : ∀ (q d : Nat) (e : Nat × va_E), ([0, 15, 12, 12, 17, 1, 10, 2, 10, 9, 21, 13, 11, 19, 14, 12, 12, 20] : List Nat)[q]? = some d → ([(h0, .inr (14, [.ref q1, .int 1, .ref q2, .ref q3, .int 0, .ref q4, .int 11, .int 0, .ref q5, .ref q7, .ref q9, .ref q13, .ref q17])), (q1, .inl (cy 4, 16, .inr (.inr (.inr (.inr (f)))))), (q2, .inl (cy 0, 8, .inl (fun _ => 0))), (q3, .inl (cy 0, 8, .inl (fun _ => 0))), (q4, .inl (cy 6, 12, .inr (.inr (.inr (.inr (g)))))), (q5, .inr (5, [.ref q6, .int 0, .int 0, .int 0])), (q6, .inl (cy 0, 32, .inl (fun _ => 0))), (q7, .inr (5, [.ref q8, .int 0, .int 0, .int 0])), (q8, .inl (cy 0, 32, .inl (fun _ => 0))), (q9, .inr (13, [.ref q10, .ref q11, .int 0, .ref q12, .int 0])), (q10, .inl (cy 0, 8, .inl (fun _ => 0))), (q11, .inl (cy 0, 128, .inl (fun _ => 0))), (q12, .inl (cy 0, 16, .inl (fun _ => 0))), (q13, .inr (8, [.ref q14, .ref q15, .ref q16, .int 0, .int 0, .int 0, .int 0, .int 0, .int (-1), .int 0])), (q14, .inl (cy 1, 8, .inl (fun _ => 0))), (q15, .inl (cy 0, 8, .inl (fun _ => 0))), (q16, .inl (cy 0, 8, .inl (fun _ => 0))), (q17, .inr (11, [.int 0, .int 0, .int 0]))] : va_W)[q]? = some e → ∃ k : VK, vK[d]? = some k ∧ vi_cell ([h0, q1, q2, q3, q4, q5, q6, q7, q8, q9, q10, q11, q12, q13, q14, q15, q16, q17] ++ ad2) ([0, 15, 12, 12, 17, 1, 10, 2, 10, 9, 21, 13, 11, 19, 14, 12, 12, 20] ++ τ2) cy k e.2 := by
  intro q d e h1 h2
  match q, h1, h2 with
  | 0, h1, h2 => cases h1; cases h2; exact ⟨_, rfl, cellO ⟨hokr 1 rfl rfl, oki (by decide), hokr 2 rfl rfl, hokr 3 rfl rfl, oki (by decide), hokr 4 rfl rfl, oki (by decide), oki (by decide), hokr 5 rfl rfl, hokr 7 rfl rfl, hokr 9 rfl rfl, hokr 13 rfl rfl, hokr 17 rfl rfl, True.intro⟩ rfl⟩
  | 1, h1, h2 => cases h1; cases h2; exact ⟨_, rfl, cellR hf⟩
  | 2, h1, h2 => cases h1; cases h2; exact ⟨_, rfl, cellI (by decide)⟩
  | 3, h1, h2 => cases h1; cases h2; exact ⟨_, rfl, cellI (by decide)⟩
  | 4, h1, h2 => cases h1; cases h2; exact ⟨_, rfl, cellR hg⟩
  | 5, h1, h2 => cases h1; cases h2; exact ⟨_, rfl, cellO ⟨hokr 6 rfl rfl, oki (by decide), oki (by decide), oki (by decide), True.intro⟩ rfl⟩
  | 6, h1, h2 => cases h1; cases h2; exact ⟨_, rfl, cellI (by decide)⟩
  | 7, h1, h2 => cases h1; cases h2; exact ⟨_, rfl, cellO ⟨hokr 8 rfl rfl, oki (by decide), oki (by decide), oki (by decide), True.intro⟩ rfl⟩
  | 8, h1, h2 => cases h1; cases h2; exact ⟨_, rfl, cellI (by decide)⟩
  | 9, h1, h2 => cases h1; cases h2; exact ⟨_, rfl, cellO ⟨hokr 10 rfl rfl, hokr 11 rfl rfl, oki (by decide), hokr 12 rfl rfl, oki (by decide), True.intro⟩ rfl⟩
  | 10, h1, h2 => cases h1; cases h2; exact ⟨_, rfl, cellI (by decide)⟩
  | 11, h1, h2 => cases h1; cases h2; exact ⟨_, rfl, cellI (by decide)⟩
  | 12, h1, h2 => cases h1; cases h2; exact ⟨_, rfl, cellI (by decide)⟩
  | 13, h1, h2 => cases h1; cases h2; exact ⟨_, rfl, cellO ⟨hokr 14 rfl rfl, hokr 15 rfl rfl, hokr 16 rfl rfl, oki (by decide), oki (by decide), oki (by decide), oki (by decide), oki (by decide), oki (by decide), oki (by decide), True.intro⟩ rfl⟩
  | 14, h1, h2 => cases h1; cases h2; exact ⟨_, rfl, cellI (by decide)⟩
  | 15, h1, h2 => cases h1; cases h2; exact ⟨_, rfl, cellI (by decide)⟩
  | 16, h1, h2 => cases h1; cases h2; exact ⟨_, rfl, cellI (by decide)⟩
  | 17, h1, h2 => cases h1; cases h2; exact ⟨_, rfl, cellO ⟨oki (by decide), oki (by decide), oki (by decide), True.intro⟩ rfl⟩
  | q + 18, h1, h2 => exact absurd h1 (by simp)

theorem sg_hub {τ2 : List Nat} (h : ∀ d ∈ τ2, d ∉ vSG) : vi_s1 vSG ([0, 15, 12, 12, 17, 1, 10, 2, 10, 9, 21, 13, 11, 19, 14, 12, 12, 20] ++ τ2) := by
  have key : ∀ (q d : Nat), d ∈ vSG → (([0, 15, 12, 12, 17, 1, 10, 2, 10, 9, 21, 13, 11, 19, 14, 12, 12, 20] : List Nat) ++ τ2)[q]? = some d → q < 18 ∧ ([0, 15, 12, 12, 17, 1, 10, 2, 10, 9, 21, 13, 11, 19, 14, 12, 12, 20] : List Nat)[q]? = some d := by
    intro q d hd hq
    rcases Nat.lt_or_ge q 18 with z | z
    · rw [List.getElem?_append_left z] at hq
      exact ⟨z, hq⟩
    · rw [List.getElem?_append_right z] at hq
      exact absurd hd (h d (List.mem_of_getElem? hq))
  have dec : ∀ q : Fin 18, ∀ q2 : Fin 18, ([0, 15, 12, 12, 17, 1, 10, 2, 10, 9, 21, 13, 11, 19, 14, 12, 12, 20] : List Nat)[q.val]? = ([0, 15, 12, 12, 17, 1, 10, 2, 10, 9, 21, 13, 11, 19, 14, 12, 12, 20] : List Nat)[q2.val]? → (([0, 15, 12, 12, 17, 1, 10, 2, 10, 9, 21, 13, 11, 19, 14, 12, 12, 20] : List Nat).getD q.val 0) ∈ vSG → q.val = q2.val := by decide +kernel
  refine ⟨fun q q2 d hd h1 h2 => ?_, fun d hd => ?_⟩
  · obtain ⟨a1, a2⟩ := key q d hd h1
    obtain ⟨b1, b2⟩ := key q2 d hd h2
    exact dec ⟨q, a1⟩ ⟨q2, b1⟩ (by rw [a2, b2]) (by rw [List.getD_eq_getElem?_getD, a2]; exact hd)
  · have all : ∀ d ∈ vSG, ∃ q : Fin 18, ([0, 15, 12, 12, 17, 1, 10, 2, 10, 9, 21, 13, 11, 19, 14, 12, 12, 20] : List Nat)[q.val]? = some d := by decide +kernel
    obtain ⟨q, hq⟩ := all d hd
    exact ⟨q.val, by rw [List.getElem?_append_left (show q.val < ([0, 15, 12, 12, 17, 1, 10, 2, 10, 9, 21, 13, 11, 19, 14, 12, 12, 20] : List Nat).length from q.isLt)]; exact hq⟩
/-! the blocks of cells, one after the other -/
def catL {α : Type} (b : Nat → List α) : Nat → List α
  | 0 => []
  | n + 1 => catL b n ++ b n
theorem catL_len {α : Type} {b : Nat → List α} {m : Nat} (h : ∀ k, (b k).length = m) : ∀ n, (catL b n).length = m * n
  | 0 => rfl
  | n + 1 => by
    show (catL b n ++ b n).length = m * (n + 1)
    rw [List.length_append, catL_len h n, h, Nat.mul_add, Nat.mul_one]
theorem catL_at {α : Type} {b : Nat → List α} {m i j : Nat} (h : ∀ k, (b k).length = m) (hj : j < m) : ∀ n, i < n → (catL b n)[m * i + j]? = (b i)[j]?
  | 0, hi => absurd hi (Nat.not_lt_zero i)
  | n + 1, hi => by
    show (catL b n ++ b n)[m * i + j]? = (b i)[j]?
    have hl := catL_len h n
    by_cases c : i = n
    · subst c
      rw [List.getElem?_append_right (by omega), hl, show m * i + j - m * i = j by omega]
    · have hlt : m * i + m ≤ m * n := by
        have := Nat.mul_le_mul_left m (show i + 1 ≤ n by omega)
        rw [Nat.mul_add, Nat.mul_one] at this
        exact this
      rw [List.getElem?_append_left (by omega)]
      exact catL_at h hj n (by omega)
theorem catL_eq {α : Type} {b b2 : Nat → List α} : ∀ n, (∀ k, k < n → b k = b2 k) → catL b n = catL b2 n
  | 0, _ => rfl
  | n + 1, h => by
    show catL b n ++ b n = catL b2 n ++ b2 n
    rw [catL_eq n (fun k hk => h k (by omega)), h n (by omega)]
def devB (cy : Nat → ClassId) (i : Nat) (a : Nat → Nat) : va_W := [((a 0), .inr (6, [.int (nI i), .int 104, .int 0, .int 0, .int 0, .int 0, .int 0, .int 117, .null, .int 0, .int (-1), .int 104, .int (-1), .int 0, .int (-1), .int 0, .int 0, .int 0, .ref (a 1), .ref (a 2)])), ((a 1), .inr (9, [.int 32, .int 0])), ((a 2), .inl (cy 5, 3, .inr (.inr (.inr (.inr (va_up (va_up (va_up (fun _ => none) 0 (some (a 3))) 1 (some (a 7))) 2 (some (a 11)))))))), ((a 3), .inr (7, [.int 0, .int 0, .int 0, .int 0, .int 0, .int 0, .int 0, .ref (a 4), .ref (a 6)])), ((a 4), .inr (5, [.ref (a 5), .int 0, .int 0, .int 0])), ((a 5), .inl (cy 0, 32, .inl (fun _ => 0))), ((a 6), .inr (9, [.int 32, .int 0])), ((a 7), .inr (7, [.int 0, .int 0, .int 0, .int 0, .int 0, .int 0, .int 0, .ref (a 8), .ref (a 10)])), ((a 8), .inr (5, [.ref (a 9), .int 0, .int 0, .int 0])), ((a 9), .inl (cy 0, 32, .inl (fun _ => 0))), ((a 10), .inr (9, [.int 32, .int 0])), ((a 11), .inr (7, [.int 0, .int 0, .int 0, .int 0, .int 0, .int 0, .int 0, .ref (a 12), .ref (a 14)])), ((a 12), .inr (5, [.ref (a 13), .int 0, .int 0, .int 0])), ((a 13), .inl (cy 0, 32, .inl (fun _ => 0))), ((a 14), .inr (9, [.int 32, .int 0]))]
def pipB (cy : Nat → ClassId) (i : Nat) (a : Nat → Nat) : va_W := [((a 0), .inr (10, [.int (nI i), .null, .null, .int 98, .int 1, .int (-1), .int 0, .int 0, .int 0, .int 32, .int 0, .ref (a 1), .int 0, .int 0])), ((a 1), .inl (cy 7, 4, .inr (.inr (.inr (.inr (va_up (va_up (va_up (va_up (fun _ => none) 0 (some (a 2))) 1 (some (a 4))) 2 (some (a 6))) 3 (some (a 8)))))))), ((a 2), .inr (12, [.ref (a 3), .int 0, .int 0, .int 0, .int 0, .int 0])), ((a 3), .inl (cy 0, 16, .inl (fun _ => 0))), ((a 4), .inr (12, [.ref (a 5), .int 0, .int 0, .int 0, .int 0, .int 0])), ((a 5), .inl (cy 0, 16, .inl (fun _ => 0))), ((a 6), .inr (12, [.ref (a 7), .int 0, .int 0, .int 0, .int 0, .int 0])), ((a 7), .inl (cy 0, 16, .inl (fun _ => 0))), ((a 8), .inr (12, [.ref (a 9), .int 0, .int 0, .int 0, .int 0, .int 0])), ((a 9), .inl (cy 0, 16, .inl (fun _ => 0)))]
def devT : List Nat := [4, 6, 16, 5, 3, 10, 6, 5, 3, 10, 6, 5, 3, 10, 6]
def pipT : List Nat := [7, 18, 8, 11, 8, 11, 8, 11, 8, 11]
theorem devB_len {cy : Nat → ClassId} {i : Nat} {a : Nat → Nat} : (devB cy i a).length = 15 := rfl
theorem pipB_len {cy : Nat → ClassId} {i : Nat} {a : Nat → Nat} : (pipB cy i a).length = 10 := rfl
/-- i devices are made -/
def BD (cy : Nat → ClassId) (f : Nat → Option Nat) (i : Nat) (wd : va_W) (τd : List Nat) : Prop := ∃ A : Nat → Nat → Nat, wd = catL (fun k => devB cy k (A k)) i ∧ τd = catL (fun _ => devT) i ∧ ∀ k, k < i → f k = some (A k 0)
/-- all devices, and i pipes -/
def BP (cy : Nat → ClassId) (f g : Nat → Option Nat) (i : Nat) (wd : va_W) (τd : List Nat) : Prop := ∃ A B : Nat → Nat → Nat, wd = catL (fun k => devB cy k (A k)) 16 ++ catL (fun k => pipB cy k (B k)) i ∧ τd = catL (fun _ => devT) 16 ++ catL (fun _ => pipT) i ∧ (∀ k, k < 16 → f k = some (A k 0)) ∧ ∀ k, k < i → g k = some (B k 0)
theorem BD_0 {cy : Nat → ClassId} {f : Nat → Option Nat} : BD cy f 0 [] [] := ⟨fun _ _ => 0, rfl, rfl, fun k hk => absurd hk (Nat.not_lt_zero k)⟩
theorem BD_st {cy : Nat → ClassId} {f : Nat → Option Nat} {i : Nat} {wd wd2 : va_W} {τd : List Nat} {a : Nat → Nat} (h : BD cy f i wd τd) (e : wd2 = wd ++ devB cy i a) : BD cy (va_up f i (some (a 0))) (i + 1) wd2 (τd ++ devT) := by
  obtain ⟨A, h1, h2, h3⟩ := h
  refine ⟨fun k => if k = i then a else A k, ?_, ?_, fun k hk => ?_⟩
  · rw [e, h1]
    show catL (fun k => devB cy k (A k)) i ++ devB cy i a = catL (fun k => devB cy k (if k = i then a else A k)) i ++ devB cy i (if i = i then a else A i)
    rw [if_pos rfl, catL_eq (b := fun k => devB cy k (A k)) (b2 := fun k => devB cy k (if k = i then a else A k)) i (fun k hk => by show devB cy k (A k) = devB cy k (if k = i then a else A k); rw [if_neg (by omega)])]
  · rw [h2]
    rfl
  · by_cases c : k = i
    · subst c
      rw [va_up_self]
      show some (a 0) = some ((if k = k then a else A k) 0)
      rw [if_pos rfl]
    · rw [va_up_ne _ _ c]
      show f k = some ((if k = i then a else A k) 0)
      rw [if_neg c]
      exact h3 k (by omega)
theorem BP_0 {cy : Nat → ClassId} {f g : Nat → Option Nat} {wd : va_W} {τd : List Nat} (h : BD cy f 16 wd τd) : BP cy f g 0 wd τd := by
  obtain ⟨A, h1, h2, h3⟩ := h
  exact ⟨A, fun _ _ => 0, by rw [h1]; exact (List.append_nil _).symm, by rw [h2]; exact (List.append_nil _).symm, h3, fun k hk => absurd hk (Nat.not_lt_zero k)⟩
theorem BP_st {cy : Nat → ClassId} {f g : Nat → Option Nat} {i : Nat} {wd wd2 : va_W} {τd : List Nat} {a : Nat → Nat} (h : BP cy f g i wd τd) (e : wd2 = wd ++ pipB cy i a) : BP cy f (va_up g i (some (a 0))) (i + 1) wd2 (τd ++ pipT) := by
  obtain ⟨A, B, h1, h2, h3, h4⟩ := h
  refine ⟨A, fun k => if k = i then a else B k, ?_, ?_, h3, fun k hk => ?_⟩
  · rw [e, h1, List.append_assoc]
    show _ ++ (catL (fun k => pipB cy k (B k)) i ++ pipB cy i a) = _ ++ (catL (fun k => pipB cy k (if k = i then a else B k)) i ++ pipB cy i (if i = i then a else B i))
    rw [if_pos rfl, catL_eq (b := fun k => pipB cy k (B k)) (b2 := fun k => pipB cy k (if k = i then a else B k)) i (fun k hk => by show pipB cy k (B k) = pipB cy k (if k = i then a else B k); rw [if_neg (by omega)])]
  · rw [h2, List.append_assoc]
    rfl
  · by_cases c : k = i
    · subst c
      rw [va_up_self]
      show some (a 0) = some ((if k = k then a else B k) 0)
      rw [if_pos rfl]
    · rw [va_up_ne _ _ c]
      show g k = some ((if k = i then a else B k) 0)
      rw [if_neg c]
      exact h4 k (by omega)
/-! a state's cells, out of a world -/
section
variable {Z : va_W → Prop} {q d a : Nat}
theorem wo_T (hn : ad.Nodup) (ha : ad[q]? = some a) (hd : τ[q]? = some d) : sgT (wS ad τ w) a = vTag d ∧ sgN (wS ad τ w) a = vLen d := wT_at hn ha hd
theorem wo_I {ci k : Nat} {vs : List Value} {x : Int32} (hn : ad.Nodup) (ha : ad[q]? = some a) (hw : w[q]? = some (a, .inr (ci, vs))) (hv : vs[k]? = some (.int x)) : sgI (wS ad τ w) a k = x := by
  show wI ad w a k = x
  unfold wI
  rw [aIx_at hn ha, hw]
  show (match vs[k]? with | some (.int x) => x | _ => 0) = x
  rw [hv]
theorem wo_R {ci k b : Nat} {vs : List Value} (hn : ad.Nodup) (ha : ad[q]? = some a) (hw : w[q]? = some (a, .inr (ci, vs))) (hv : vs[k]? = some (.ref b)) : sgR (wS ad τ w) a k = some b := by
  show wR ad w a k = some b
  unfold wR
  rw [aIx_at hn ha, hw]
  show (match vs[k]? with | some (.ref b) => some b | _ => none) = some b
  rw [hv]
theorem wo_n {ci k : Nat} {vs : List Value} (hn : ad.Nodup) (ha : ad[q]? = some a) (hw : w[q]? = some (a, .inr (ci, vs))) (hv : vs[k]? = some .null) : sgR (wS ad τ w) a k = none := by
  show wR ad w a k = none
  unfold wR
  rw [aIx_at hn ha, hw]
  show (match vs[k]? with | some (.ref b) => some b | _ => none) = none
  rw [hv]
theorem wo_A {c : ClassId} {N k : Nat} {f : Nat → Option Nat} (hn : ad.Nodup) (ha : ad[q]? = some a) (hw : w[q]? = some (a, .inl (c, N, .inr (.inr (.inr (.inr f)))))) : sgR (wS ad τ w) a k = f k := by
  show wR ad w a k = f k
  unfold wR
  rw [aIx_at hn ha, hw]
theorem wo_J {c : ClassId} {N k : Nat} (hn : ad.Nodup) (ha : ad[q]? = some a) (hw : w[q]? = some (a, .inl (c, N, .inl (fun _ => 0)))) : sgI (wS ad τ w) a k = 0 := by
  show wI ad w a k = 0
  unfold wI
  rw [aIx_at hn ha, hw]
  show (if k < N then (0 : Int32) else 0) = 0
  split <;> rfl
end
theorem nodup_of {α : Type} : ∀ {l : List α}, (∀ (i j : Nat) (x : α), l[i]? = some x → l[j]? = some x → i = j) → l.Nodup
  | [], _ => List.nodup_nil
  | a :: l, h => List.nodup_cons.mpr ⟨fun hm => by
    obtain ⟨j, hj⟩ := List.mem_iff_getElem?.mp hm
    have := h 0 (j + 1) a rfl hj
    omega, nodup_of (fun i j x hi hj => by
    have := h (i + 1) (j + 1) x hi hj
    omega)⟩
def hostC (a b : Nat) : va_E := .inr (6, [.int (nI 0), .int 104, .int 4, .int 0, .int 1, .int 0, .int 0, .int 99, .null, .int 0, .int 0, .int 104, .int (-1), .int 0, .int (-1), .int 0, .int 0, .int 0, .ref a, .ref b])
def Y0 (h0 q1 q2 q3 q4 q5 q6 q7 q8 q9 q10 q11 q12 q13 q14 q15 q16 q17 : Nat) (A B : Nat → Nat → Nat) : CY := fun t i k => match t with
  | 0 => h0
  | 1 => q1
  | 2 => A i 0
  | 3 => A i 2
  | 4 => A i (3 + 4 * k)
  | 5 => A i (4 + 4 * k)
  | 6 => q4
  | 7 => B i 0
  | 8 => B i 1
  | 9 => B i (2 + 2 * k)
  | 10 => q9
  | 11 => q10
  | 12 => q11
  | 13 => q5
  | 14 => q7
  | _ => 0
def hubB (cy : Nat → ClassId) (h0 q1 q2 q3 q4 q5 q6 q7 q8 q9 q10 q11 q12 q13 q14 q15 q16 q17 : Nat) (f g : Nat → Option Nat) : va_W := [(h0, .inr (14, [.ref q1, .int 1, .ref q2, .ref q3, .int 0, .ref q4, .int 11, .int 0, .ref q5, .ref q7, .ref q9, .ref q13, .ref q17])), (q1, .inl (cy 4, 16, .inr (.inr (.inr (.inr (f)))))), (q2, .inl (cy 0, 8, .inl (fun _ => 0))), (q3, .inl (cy 0, 8, .inl (fun _ => 0))), (q4, .inl (cy 6, 12, .inr (.inr (.inr (.inr (g)))))), (q5, .inr (5, [.ref q6, .int 0, .int 0, .int 0])), (q6, .inl (cy 0, 32, .inl (fun _ => 0))), (q7, .inr (5, [.ref q8, .int 0, .int 0, .int 0])), (q8, .inl (cy 0, 32, .inl (fun _ => 0))), (q9, .inr (13, [.ref q10, .ref q11, .int 0, .ref q12, .int 0])), (q10, .inl (cy 0, 8, .inl (fun _ => 0))), (q11, .inl (cy 0, 128, .inl (fun _ => 0))), (q12, .inl (cy 0, 16, .inl (fun _ => 0))), (q13, .inr (8, [.ref q14, .ref q15, .ref q16, .int 0, .int 0, .int 0, .int 0, .int 0, .int (-1), .int 0])), (q14, .inl (cy 1, 8, .inl (fun _ => 0))), (q15, .inl (cy 0, 8, .inl (fun _ => 0))), (q16, .inl (cy 0, 8, .inl (fun _ => 0))), (q17, .inr (11, [.int 0, .int 0, .int 0]))]
set_option maxRecDepth 100000 in
set_option maxHeartbeats 2000000 in
/-- the law's invariant, behind the constructor -/
theorem hub_SI (cy : Nat → ClassId) (h0 q1 q2 q3 q4 q5 q6 q7 q8 q9 q10 q11 q12 q13 q14 q15 q16 q17 : Nat) {f g : Nat → Option Nat} {A B : Nat → Nat → Nat} (hf : ∀ k, k < 16 → f k = some (A k 0)) (hg : ∀ k, k < 12 → g k = some (B k 0)) {W9 : va_W} (eW : W9 = (hubB cy h0 q1 q2 q3 q4 q5 q6 q7 q8 q9 q10 q11 q12 q13 q14 q15 q16 q17 f g ++ (catL (fun k => devB cy k (A k)) 16 ++ catL (fun k => pipB cy k (B k)) 12)).set 18 (A 0 0, hostC (A 0 1) (A 0 2))) (hτ9 : τ = ([0, 15, 12, 12, 17, 1, 10, 2, 10, 9, 21, 13, 11, 19, 14, 12, 12, 20] : List Nat) ++ (catL (fun _ => devT) 16 ++ catL (fun _ => pipT) 12)) (hW : vi_tw vK cy (fun _ => True) ad τ W9) (hn : ad.Nodup) : ∃ Y : CY, h0 = yX Y ∧ VL cy ad τ Y (wS ad τ W9) ∧ SI Y (wS ad τ W9) 0 := by
  have lD : (catL (fun k => devB cy k (A k)) 16).length = 240 := catL_len (m := 15) (fun _ => rfl) 16
  have lDT : (catL (fun _ => devT) 16).length = 240 := catL_len (m := 15) (fun _ => rfl) 16
  have cD : ∀ i j, i < 16 → j < 15 → ¬ 15 * i + j = 0 → W9[18 + (15 * i + j)]? = (devB cy i (A i))[j]? := fun i j hi hj h9 => by
    rw [eW, List.getElem?_set_ne (by omega), List.getElem?_append_right (show 18 ≤ 18 + (15 * i + j) by omega), show 18 + (15 * i + j) - (hubB cy h0 q1 q2 q3 q4 q5 q6 q7 q8 q9 q10 q11 q12 q13 q14 q15 q16 q17 f g).length = 15 * i + j from Nat.add_sub_cancel_left _ _, List.getElem?_append_left (by rw [lD]; omega)]
    exact catL_at (b := fun k => devB cy k (A k)) (m := 15) (fun _ => rfl) hj 16 hi
  have cP : ∀ i j, i < 12 → j < 10 → W9[258 + (10 * i + j)]? = (pipB cy i (B i))[j]? := fun i j hi hj => by
    rw [eW, List.getElem?_set_ne (by omega), List.getElem?_append_right (show 18 ≤ 258 + (10 * i + j) by omega), show 258 + (10 * i + j) - (hubB cy h0 q1 q2 q3 q4 q5 q6 q7 q8 q9 q10 q11 q12 q13 q14 q15 q16 q17 f g).length = 240 + (10 * i + j) from by show 258 + (10 * i + j) - 18 = _; omega, List.getElem?_append_right (by rw [lD]; omega), lD, Nat.add_sub_cancel_left]
    exact catL_at (b := fun k => pipB cy k (B k)) (m := 10) (fun _ => rfl) hj 12 hi
  have cHo : W9[18]? = some (A 0 0, hostC (A 0 1) (A 0 2)) := by
    rw [eW]
    exact List.getElem?_set_self (by rw [List.length_append, List.length_append, lD]; show 18 < 18 + _; omega)
  have c0 : ∀ q, q < 18 → W9[q]? = (hubB cy h0 q1 q2 q3 q4 q5 q6 q7 q8 q9 q10 q11 q12 q13 q14 q15 q16 q17 f g)[q]? := fun q hq => by
    rw [eW, List.getElem?_set_ne (by omega), List.getElem?_append_left (show q < 18 from hq)]
  have tD : ∀ i j, i < 16 → j < 15 → τ[18 + (15 * i + j)]? = devT[j]? := fun i j hi hj => by
    rw [hτ9, List.getElem?_append_right (show 18 ≤ 18 + (15 * i + j) by omega), show 18 + (15 * i + j) - List.length ([0, 15, 12, 12, 17, 1, 10, 2, 10, 9, 21, 13, 11, 19, 14, 12, 12, 20] : List Nat) = 15 * i + j from Nat.add_sub_cancel_left _ _, List.getElem?_append_left (by rw [lDT]; omega)]
    exact catL_at (b := fun _ => devT) (m := 15) (fun _ => rfl) hj 16 hi
  have tP : ∀ i j, i < 12 → j < 10 → τ[258 + (10 * i + j)]? = pipT[j]? := fun i j hi hj => by
    rw [hτ9, List.getElem?_append_right (show 18 ≤ 258 + (10 * i + j) by omega), show 258 + (10 * i + j) - List.length ([0, 15, 12, 12, 17, 1, 10, 2, 10, 9, 21, 13, 11, 19, 14, 12, 12, 20] : List Nat) = 240 + (10 * i + j) from by show 258 + (10 * i + j) - 18 = _; omega, List.getElem?_append_right (by rw [lDT]; omega), lDT, Nat.add_sub_cancel_left]
    exact catL_at (b := fun _ => pipT) (m := 10) (fun _ => rfl) hj 12 hi
  have t0 : ∀ q, q < 18 → τ[q]? = ([0, 15, 12, 12, 17, 1, 10, 2, 10, 9, 21, 13, 11, 19, 14, 12, 12, 20] : List Nat)[q]? := fun q hq => by rw [hτ9, List.getElem?_append_left (show q < 18 from hq)]
  have aq : ∀ {q : Nat} {e : Nat × va_E}, W9[q]? = some e → ad[q]? = some e.1 := fun {q e} h => by rw [← hW.1, List.getElem?_map, h]; rfl
  have inj : ∀ {q q2 : Nat} {a : Nat}, ad[q]? = some a → ad[q2]? = some a → q = q2 := fun {q q2 a} h1 h2 => (List.getElem?_inj (List.getElem?_eq_some_iff.mp h1).1 hn).mp (h1.trans h2.symm)
  have aD : ∀ i j, i < 16 → j < 15 → ad[18 + (15 * i + j)]? = some (A i j) := fun i j hi hj => by
    by_cases z : 15 * i + j = 0
    · obtain ⟨rfl, rfl⟩ : i = 0 ∧ j = 0 := by omega
      exact aq cHo
    · have h := cD i j hi hj z
      match j, hj, h with
      | 0, _, h => exact aq h
      | 1, _, h => exact aq h
      | 2, _, h => exact aq h
      | 3, _, h => exact aq h
      | 4, _, h => exact aq h
      | 5, _, h => exact aq h
      | 6, _, h => exact aq h
      | 7, _, h => exact aq h
      | 8, _, h => exact aq h
      | 9, _, h => exact aq h
      | 10, _, h => exact aq h
      | 11, _, h => exact aq h
      | 12, _, h => exact aq h
      | 13, _, h => exact aq h
      | 14, _, h => exact aq h
      | j + 15, hj, _ => exact absurd hj (by omega)
  have aP : ∀ i j, i < 12 → j < 10 → ad[258 + (10 * i + j)]? = some (B i j) := fun i j hi hj => by
    have h := cP i j hi hj
    match j, hj, h with
    | 0, _, h => exact aq h
    | 1, _, h => exact aq h
    | 2, _, h => exact aq h
    | 3, _, h => exact aq h
    | 4, _, h => exact aq h
    | 5, _, h => exact aq h
    | 6, _, h => exact aq h
    | 7, _, h => exact aq h
    | 8, _, h => exact aq h
    | 9, _, h => exact aq h
    | j + 10, hj, _ => exact absurd hj (by omega)
  have iD : ∀ {i j i2 j2 : Nat}, i < 16 → j < 15 → i2 < 16 → j2 < 15 → A i j = A i2 j2 → i = i2 ∧ j = j2 := fun {i j i2 j2} h1 h2 h3 h4 h5 => by
    have q := inj (aD i j h1 h2) (by rw [h5]; exact aD i2 j2 h3 h4)
    omega
  have iP : ∀ {i j i2 j2 : Nat}, i < 12 → j < 10 → i2 < 12 → j2 < 10 → B i j = B i2 j2 → i = i2 ∧ j = j2 := fun {i j i2 j2} h1 h2 h3 h4 h5 => by
    have q := inj (aP i j h1 h2) (by rw [h5]; exact aP i2 j2 h3 h4)
    omega
  have eN : ∀ i, i < 16 → (nI i).toInt = i := fun i hi => nI_toInt (by omega)
  have TD : ∀ i j d, i < 16 → j < 15 → devT[j]? = some d → sgT (wS ad τ W9) (A i j) = vTag d ∧ sgN (wS ad τ W9) (A i j) = vLen d := fun i j d hi hj h => wo_T hn (aD i j hi hj) ((tD i j hi hj).trans h)
  have TP9 : ∀ i j d, i < 12 → j < 10 → pipT[j]? = some d → sgT (wS ad τ W9) (B i j) = vTag d ∧ sgN (wS ad τ W9) (B i j) = vLen d := fun i j d hi hj h => wo_T hn (aP i j hi hj) ((tP i j hi hj).trans h)
  have T0 : ∀ {q a d : Nat} {e : va_E}, q < 18 → (hubB cy h0 q1 q2 q3 q4 q5 q6 q7 q8 q9 q10 q11 q12 q13 q14 q15 q16 q17 f g)[q]? = some (a, e) → ([0, 15, 12, 12, 17, 1, 10, 2, 10, 9, 21, 13, 11, 19, 14, 12, 12, 20] : List Nat)[q]? = some d → sgT (wS ad τ W9) a = vTag d ∧ sgN (wS ad τ W9) a = vLen d := fun {q a d e} hq h1 h2 => wo_T hn (aq ((c0 q hq).trans h1)) ((t0 q hq).trans h2)
  -- a device's cell
  have dv : ∀ i, i < 16 → ∃ st : Int32, ∃ dp : Int32, W9[18 + (15 * i + 0)]? = some (A i 0, .inr (6, [.int (nI i), .int 104, .int (if i = 0 then 4 else 0), .int 0, .int (if i = 0 then 1 else 0), .int 0, .int 0, .int st, .null, .int 0, .int dp, .int 104, .int (-1), .int 0, .int (-1), .int 0, .int 0, .int 0, .ref (A i 1), .ref (A i 2)])) ∧ (i = 0 → st = 99 ∧ dp = 0) ∧ (i ≠ 0 → st = 117) := fun i hi => by
    by_cases z : i = 0
    · subst z
      exact ⟨99, 0, cHo, fun _ => ⟨rfl, rfl⟩, fun h => absurd rfl h⟩
    · refine ⟨117, -1, ?_, fun h => absurd h z, fun _ => rfl⟩
      rw [if_neg z, if_neg z]
      exact cD i 0 hi (by decide) (by omega)
  have ep : ∀ i k, i < 16 → k < 3 → W9[18 + (15 * i + (3 + 4 * k))]? = some (A i (3 + 4 * k), .inr (7, [.int 0, .int 0, .int 0, .int 0, .int 0, .int 0, .int 0, .ref (A i (4 + 4 * k)), .ref (A i (6 + 4 * k))])) ∧ W9[18 + (15 * i + (4 + 4 * k))]? = some (A i (4 + 4 * k), .inr (5, [.ref (A i (5 + 4 * k)), .int 0, .int 0, .int 0])) := fun i k hi hk => by
    have h1 := cD i (3 + 4 * k) hi (by omega) (by omega)
    have h2 := cD i (4 + 4 * k) hi (by omega) (by omega)
    match k, hk, h1, h2 with
    | 0, _, h1, h2 => exact ⟨h1, h2⟩
    | 1, _, h1, h2 => exact ⟨h1, h2⟩
    | 2, _, h1, h2 => exact ⟨h1, h2⟩
    | k + 3, hk, _, _ => exact absurd hk (by omega)
  have eA : ∀ i, i < 16 → W9[18 + (15 * i + 2)]? = some (A i 2, .inl (cy 5, 3, .inr (.inr (.inr (.inr (va_up (va_up (va_up (fun _ => none) 0 (some (A i 3))) 1 (some (A i 7))) 2 (some (A i 11)))))))) := fun i hi => cD i 2 hi (by decide) (by omega)
  have pc : ∀ i, i < 12 → W9[258 + (10 * i + 0)]? = some (B i 0, .inr (10, [.int (nI i), .null, .null, .int 98, .int 1, .int (-1), .int 0, .int 0, .int 0, .int 32, .int 0, .ref (B i 1), .int 0, .int 0])) := fun i hi => cP i 0 hi (by decide)
  have pA : ∀ i, i < 12 → W9[258 + (10 * i + 1)]? = some (B i 1, .inl (cy 7, 4, .inr (.inr (.inr (.inr (va_up (va_up (va_up (va_up (fun _ => none) 0 (some (B i 2))) 1 (some (B i 4))) 2 (some (B i 6))) 3 (some (B i 8)))))))) := fun i hi => cP i 1 hi (by decide)
  have hub : W9[0]? = some (h0, .inr (14, [.ref q1, .int 1, .ref q2, .ref q3, .int 0, .ref q4, .int 11, .int 0, .ref q5, .ref q7, .ref q9, .ref q13, .ref q17])) := c0 0 (by decide)
  have un : W9[9]? = some (q9, .inr (13, [.ref q10, .ref q11, .int 0, .ref q12, .int 0])) := c0 9 (by decide)
  have a5 : ad[5]? = some q5 := aq (c0 5 (by decide))
  have a7 : ad[7]? = some q7 := aq (c0 7 (by decide))
  have a10 : ad[10]? = some q10 := aq (c0 10 (by decide))
  have a11 : ad[11]? = some q11 := aq (c0 11 (by decide))
  have LYY : LY (Y0 h0 q1 q2 q3 q4 q5 q6 q7 q8 q9 q10 q11 q12 q13 q14 q15 q16 q17 A B) (wS ad τ W9) := by
    refine ⟨⟨(T0 (q := 0) (by decide) rfl rfl).1, wo_R hn (aq hub) hub rfl, wo_R hn (aq hub) hub rfl, wo_R hn (aq hub) hub rfl, wo_R hn (aq hub) hub rfl, wo_R hn (aq hub) hub rfl⟩, ⟨(T0 (q := 1) (by decide) rfl rfl).1, (T0 (q := 1) (by decide) rfl rfl).2, fun i hi => ?_⟩, fun i hi => ?_, fun i hi => ?_, fun i k hi hk => ?_, ⟨(T0 (q := 4) (by decide) rfl rfl).1, (T0 (q := 4) (by decide) rfl rfl).2, fun j hj => ?_⟩, fun j hj => ?_, fun j hj => ?_, ⟨(T0 (q := 9) (by decide) rfl rfl).1, wo_R hn (aq un) un rfl, wo_R hn (aq un) un rfl⟩, ⟨(T0 (q := 10) (by decide) rfl rfl).1, (T0 (q := 10) (by decide) rfl rfl).2, (T0 (q := 11) (by decide) rfl rfl).1, (T0 (q := 11) (by decide) rfl rfl).2⟩, fun i j hi hj h => (iD hi (by decide) hj (by decide) h).1, fun i k j n hi hk hj hn9 h => ?_, fun i k j n hi hk hj hn9 h => ?_, fun i j hi hj h => (iP hi (by decide) hj (by decide) h).1, fun i k j n hi hk hj hn9 h => ?_, fun i k hi hk => ⟨fun z => ?_, fun z => ?_⟩, fun z => ?_⟩
    · have h1 : W9[1]? = some (q1, .inl (cy 4, 16, .inr (.inr (.inr (.inr f))))) := c0 1 (by decide)
      exact (wo_A hn (aq h1) h1).trans (hf i hi)
    · obtain ⟨st, dp, h1, -, -⟩ := dv i hi
      exact ⟨(TD i 0 4 hi (by decide) rfl).1, by rw [show sgI (wS ad τ W9) (yd (Y0 h0 q1 q2 q3 q4 q5 q6 q7 q8 q9 q10 q11 q12 q13 q14 q15 q16 q17 A B) i) 0 = nI i from wo_I hn (aq h1) h1 rfl]; exact eN i hi, wo_R hn (aq h1) h1 rfl⟩
    · refine ⟨(TD i 2 16 hi (by decide) rfl).1, (TD i 2 16 hi (by decide) rfl).2, fun k hk => ?_⟩
      rw [show sgR (wS ad τ W9) (yEA (Y0 h0 q1 q2 q3 q4 q5 q6 q7 q8 q9 q10 q11 q12 q13 q14 q15 q16 q17 A B) i) k = _ from wo_A hn (aq (eA i hi)) (eA i hi)]
      match k, hk with
      | 0, _ => rfl
      | 1, _ => rfl
      | 2, _ => rfl
      | k + 3, hk => exact absurd hk (by omega)
    · obtain ⟨h1, h2⟩ := ep i k hi hk
      have t1 : devT[3 + 4 * k]? = some 5 ∧ devT[4 + 4 * k]? = some 3 := by
        match k, hk with
        | 0, _ => exact ⟨rfl, rfl⟩
        | 1, _ => exact ⟨rfl, rfl⟩
        | 2, _ => exact ⟨rfl, rfl⟩
        | k + 3, hk => exact absurd hk (by omega)
      exact ⟨(TD i (3 + 4 * k) 5 hi (by omega) t1.1).1, wo_R hn (aq h1) h1 rfl, (TD i (4 + 4 * k) 3 hi (by omega) t1.2).1⟩
    · have h1 : W9[4]? = some (q4, .inl (cy 6, 12, .inr (.inr (.inr (.inr g))))) := c0 4 (by decide)
      exact (wo_A hn (aq h1) h1).trans (hg j hj)
    · have h1 := pc j hj
      exact ⟨(TP9 j 0 7 hj (by decide) rfl).1, by rw [show sgI (wS ad τ W9) (yp (Y0 h0 q1 q2 q3 q4 q5 q6 q7 q8 q9 q10 q11 q12 q13 q14 q15 q16 q17 A B) j) 0 = nI j from wo_I hn (aq h1) h1 rfl]; exact eN j (by omega), wo_R hn (aq h1) h1 rfl⟩
    · refine ⟨(TP9 j 1 18 hj (by decide) rfl).1, (TP9 j 1 18 hj (by decide) rfl).2, fun r hr => ?_⟩
      rw [show sgR (wS ad τ W9) (yTA (Y0 h0 q1 q2 q3 q4 q5 q6 q7 q8 q9 q10 q11 q12 q13 q14 q15 q16 q17 A B) j) r = _ from wo_A hn (aq (pA j hj)) (pA j hj)]
      match r, hr with
      | 0, _ => exact ⟨rfl, (TP9 j 2 8 hj (by decide) rfl).1⟩
      | 1, _ => exact ⟨rfl, (TP9 j 4 8 hj (by decide) rfl).1⟩
      | 2, _ => exact ⟨rfl, (TP9 j 6 8 hj (by decide) rfl).1⟩
      | 3, _ => exact ⟨rfl, (TP9 j 8 8 hj (by decide) rfl).1⟩
      | r + 4, hr => exact absurd hr (by omega)
    · have q := iD hi (show 3 + 4 * k < 15 by omega) hj (show 3 + 4 * n < 15 by omega) h
      omega
    · have q := iD hi (show 4 + 4 * k < 15 by omega) hj (show 4 + 4 * n < 15 by omega) h
      omega
    · have q := iP hi (show 2 + 2 * k < 10 by omega) hj (show 2 + 2 * n < 10 by omega) h
      omega
    · have q := inj (aD i (4 + 4 * k) hi (by omega)) (show ad[5]? = some (A i (4 + 4 * k)) from a5.trans (congrArg some (show q5 = A i (4 + 4 * k) from z.symm)))
      omega
    · have q := inj (aD i (4 + 4 * k) hi (by omega)) (show ad[7]? = some (A i (4 + 4 * k)) from a7.trans (congrArg some (show q7 = A i (4 + 4 * k) from z.symm)))
      omega
    · have q := inj a10 (show ad[11]? = some q10 from a11.trans (congrArg some (show q11 = q10 from z.symm)))
      exact absurd q (by decide)
  have hVT := VT_of (cy := cy) hW hn
  have e0 : (0 : Int32).toInt = 0 := rfl
  have st : ∀ i, i < 16 → (i = 0 → sgI (wS ad τ W9) (A i 0) 7 = 99 ∧ sgI (wS ad τ W9) (A i 0) 10 = 0) ∧ (i ≠ 0 → sgI (wS ad τ W9) (A i 0) 7 = 117) ∧ sgR (wS ad τ W9) (A i 0) 8 = none ∧ sgI (wS ad τ W9) (A i 0) 13 = 0 := fun i hi => by
    obtain ⟨s9, dp, h1, h2, h3⟩ := dv i hi
    have e7 : sgI (wS ad τ W9) (A i 0) 7 = s9 := wo_I hn (aq h1) h1 rfl
    have e10 : sgI (wS ad τ W9) (A i 0) 10 = dp := wo_I hn (aq h1) h1 rfl
    exact ⟨fun z => ⟨e7.trans (h2 z).1, e10.trans (h2 z).2⟩, fun z => e7.trans (h3 z), wo_n hn (aq h1) h1 rfl, wo_I hn (aq h1) h1 rfl⟩
  have i0 : ∀ i, i < 16 → ¬ sgI (wS ad τ W9) (A i 0) 7 = 117 → i = 0 := fun i hi h => Classical.byContradiction fun z => h ((st i hi).2.1 z)
  have pn : ∀ j, j < 12 → sgR (wS ad τ W9) (B j 0) 1 = none ∧ sgR (wS ad τ W9) (B j 0) 2 = none ∧ sgI (wS ad τ W9) (B j 0) 13 = 0 := fun j hj => ⟨wo_n hn (aq (pc j hj)) (pc j hj) rfl, wo_n hn (aq (pc j hj)) (pc j hj) rfl, wo_I hn (aq (pc j hj)) (pc j hj) rfl⟩
  have z12 : ∀ u : Nat → Int, (∀ j, j < 12 → u j = 0) → sumTo u 12 = 0 := fun u h => (sumTo_eq (g := fun _ => 0) h).trans rfl
  refine ⟨Y0 h0 q1 q2 q3 q4 q5 q6 q7 q8 q9 q10 q11 q12 q13 q14 q15 q16 q17 A B, rfl, ⟨hVT, LYY⟩, ⟨fun i hi h9 hs => absurd (i0 i hi hs) h9, fun i hi _ => (st i hi).2.2.1, ⟨fun z => ?_, (st 0 (by decide)).2.2.1, ?_⟩, fun i hi hs => ?_, fun i hi hs => ?_, fun i hi _ => (st i hi).2.2.2, fun i j hi _ hs => absurd ((st i hi).2.2.2) hs⟩, fun j hj => Or.inl (pn j hj), ⟨fun f f0 f1 => ?_, fun f g f0 f1 g0 g1 => ?_⟩, fun j hj e he => ?_, fun i k hi hk => ?_, ?_⟩
  · have q := ((st 0 (by decide)).1 rfl).1
    have z : sgI (wS ad τ W9) (A 0 0) 7 = 117 := z
    rw [q] at z
    exact absurd z (by decide)
  · rw [show sgI (wS ad τ W9) (yd (Y0 h0 q1 q2 q3 q4 q5 q6 q7 q8 q9 q10 q11 q12 q13 q14 q15 q16 q17 A B) 0) 10 = 0 from ((st 0 (by decide)).1 rfl).2]
    exact e0
  · have := i0 i hi hs
    subst this
    rw [show sgI (wS ad τ W9) (yd (Y0 h0 q1 q2 q3 q4 q5 q6 q7 q8 q9 q10 q11 q12 q13 q14 q15 q16 q17 A B) 0) 10 = 0 from ((st 0 (by decide)).1 rfl).2, e0]
    omega
  · refine (st i hi).2.1 (fun z => ?_)
    subst z
    rw [show sgI (wS ad τ W9) (yX (Y0 h0 q1 q2 q3 q4 q5 q6 q7 q8 q9 q10 q11 q12 q13 q14 q15 q16 q17 A B)) 1 = 1 from wo_I hn (aq hub) hub rfl] at hs
    exact absurd hs (by decide)
  · have h10 : W9[10]? = some (q10, .inl (cy 0, 8, .inl (fun _ => 0))) := c0 10 (by decide)
    rw [z12 (cH (Y0 h0 q1 q2 q3 q4 q5 q6 q7 q8 q9 q10 q11 q12 q13 q14 q15 q16 q17 A B) (wS ad τ W9) f) (fun j hj => cH_no (Y := Y0 h0 q1 q2 q3 q4 q5 q6 q7 q8 q9 q10 q11 q12 q13 q14 q15 q16 q17 A B) (pn j hj).1), show sgI (wS ad τ W9) (yh (Y0 h0 q1 q2 q3 q4 q5 q6 q7 q8 q9 q10 q11 q12 q13 q14 q15 q16 q17 A B)) f.toInt.toNat = 0 from wo_J hn (aq h10) h10]
    exact ⟨rfl, by decide⟩
  · have h11 : W9[11]? = some (q11, .inl (cy 0, 128, .inl (fun _ => 0))) := c0 11 (by decide)
    rw [z12 (cU (Y0 h0 q1 q2 q3 q4 q5 q6 q7 q8 q9 q10 q11 q12 q13 q14 q15 q16 q17 A B) (wS ad τ W9) f g) (fun j hj => cU_no (Y := Y0 h0 q1 q2 q3 q4 q5 q6 q7 q8 q9 q10 q11 q12 q13 q14 q15 q16 q17 A B) (pn j hj).1), show sgI (wS ad τ W9) (yk (Y0 h0 q1 q2 q3 q4 q5 q6 q7 q8 q9 q10 q11 q12 q13 q14 q15 q16 q17 A B)) (g.toInt * 8 + f.toInt).toNat = 0 from wo_J hn (aq h11) h11]
    exact ⟨rfl, by decide⟩
  · rw [show sgR (wS ad τ W9) (yp (Y0 h0 q1 q2 q3 q4 q5 q6 q7 q8 q9 q10 q11 q12 q13 q14 q15 q16 q17 A B) j) 2 = none from (pn j hj).2.1] at he
    cases he
  · obtain ⟨h1, h2⟩ := ep i k hi hk
    rw [show sgI (wS ad τ W9) (ye (Y0 h0 q1 q2 q3 q4 q5 q6 q7 q8 q9 q10 q11 q12 q13 q14 q15 q16 q17 A B) i k) 1 = 0 from wo_I hn (aq h1) h1 rfl, show sgI (wS ad τ W9) (ye (Y0 h0 q1 q2 q3 q4 q5 q6 q7 q8 q9 q10 q11 q12 q13 q14 q15 q16 q17 A B) i k) 6 = 0 from wo_I hn (aq h1) h1 rfl, show sgI (wS ad τ W9) (yr (Y0 h0 q1 q2 q3 q4 q5 q6 q7 q8 q9 q10 q11 q12 q13 q14 q15 q16 q17 A B) i k) 3 = 0 from wo_I hn (aq h2) h2 rfl, e0]
    exact ⟨fun _ => ⟨by decide, by decide, by decide⟩, fun _ => rfl⟩
  · unfold siB
    rw [show sgI (wS ad τ W9) (yX (Y0 h0 q1 q2 q3 q4 q5 q6 q7 q8 q9 q10 q11 q12 q13 q14 q15 q16 q17 A B)) 7 = 0 from wo_I hn (aq hub) hub rfl, e0]
    exact ⟨by decide, by decide⟩
/-- what the law takes of the class's constructor -/
def HubT (cy : Nat → ClassId) (h0 : Nat) (w : va_W) : Prop := ∃ (ad τ : List Nat) (Y : CY), vi_tw vK cy (fun _ => True) ad τ w ∧ vi_s1 vSG τ ∧ τ[0]? = some 0 ∧ ad[0]? = some h0 ∧ h0 = yX Y ∧ VL cy ad τ Y (wS ad τ w) ∧ SI Y (wS ad τ w) 0
set_option maxRecDepth 100000 in
theorem hub_T {A : Nat → Prop} (h0 q1 q2 q3 q4 q5 q6 q7 q8 q9 q10 q11 q12 q13 q14 q15 q16 q17 : Nat) {f g : Nat → Option Nat} {wd : va_W} {τd : List Nat} {Z : Nat → DevZ} {P : Nat → Nat × Nat} {k0 : Nat} (hD : va_D A (HubW cy h0 q1 q2 q3 q4 q5 q6 q7 q8 q9 q10 q11 q12 q13 q14 q15 q16 q17 f g ++ wd)) (hZ : ∀ k, k < 16 → f k = some (Z k).1 ∧ DevW cy k (Z k) wd) (hQ : ∀ k, k < 12 → g k = some (P k).1 ∧ ((P k).1, PipC k (P k).2) ∈ wd) (hk0 : (HubW cy h0 q1 q2 q3 q4 q5 q6 q7 q8 q9 q10 q11 q12 q13 q14 q15 q16 q17 f g ++ wd)[k0]? = some ((Z 0).1, DevC 0 (Z 0).2.1 (Z 0).2.2.1 0 0 117 (-1))) (hτ : ∀ d ∈ τd, d ∉ vSG) (hBP : BP cy f g 12 wd τd) (hT : vi_tw vK cy (fun _ => True) (wd.map (fun q => q.1)) τd wd) :
    HubT cy h0 (((HubW cy h0 q1 q2 q3 q4 q5 q6 q7 q8 q9 q10 q11 q12 q13 q14 q15 q16 q17 f g ++ wd).set k0 ((Z 0).1, .inr (6, [.int (nI 0), .int 104, .int 4, .int 0, .int 1, .int 0, .int 0, .int 99, .null, .int 0, .int 0, .int 104, .int (-1), .int 0, .int (-1), .int 0, .int 0, .int 0, .ref (Z 0).2.1, .ref (Z 0).2.2.1]))).set 0 (h0, .inr (14, [.ref q1, .int 1, .ref q2, .ref q3, .int 0, .ref q4, .int 11, .int 0, .ref q5, .ref q7, .ref q9, .ref q13, .ref q17]))) := by
  have hl : ([0, 15, 12, 12, 17, 1, 10, 2, 10, 9, 21, 13, 11, 19, 14, 12, 12, 20] : List Nat).length = ([h0, q1, q2, q3, q4, q5, q6, q7, q8, q9, q10, q11, q12, q13, q14, q15, q16, q17] : List Nat).length := rfl
  have hf : ∀ j : Nat, j < 16 → vi_ok ([h0, q1, q2, q3, q4, q5, q6, q7, q8, q9, q10, q11, q12, q13, q14, q15, q16, q17] ++ wd.map (fun q => q.1)) ([0, 15, 12, 12, 17, 1, 10, 2, 10, 9, 21, 13, 11, 19, 14, 12, 12, 20] ++ τd) (3, 4, 0) (va_rf (f j)) := by
    intro j hj
    obtain ⟨e1, e2, -⟩ := hZ j hj
    obtain ⟨q, g1, g2, -⟩ := tag_of kd_dev hT e2
    rw [e1]
    obtain ⟨q1, a1, a2⟩ := emb_r (ad2 := wd.map (fun q => q.1)) (τ2 := τd) hl q _ _ g1 g2
    exact hokr q1 a1 a2
  have hg : ∀ j : Nat, j < 12 → vi_ok ([h0, q1, q2, q3, q4, q5, q6, q7, q8, q9, q10, q11, q12, q13, q14, q15, q16, q17] ++ wd.map (fun q => q.1)) ([0, 15, 12, 12, 17, 1, 10, 2, 10, 9, 21, 13, 11, 19, 14, 12, 12, 20] ++ τd) (3, 7, 0) (va_rf (g j)) := by
    intro j hj
    obtain ⟨e1, e2⟩ := hQ j hj
    obtain ⟨q, g1, g2, -⟩ := tag_of kd_pip hT e2
    rw [e1]
    obtain ⟨q1, a1, a2⟩ := emb_r (ad2 := wd.map (fun q => q.1)) (τ2 := τd) hl q _ _ g1 g2
    exact hokr q1 a1 a2
  obtain ⟨W1, eW⟩ : ∃ W1 : va_W, W1 = (HubW cy h0 q1 q2 q3 q4 q5 q6 q7 q8 q9 q10 q11 q12 q13 q14 q15 q16 q17 f g ++ wd).set 0 (h0, .inr (14, [.ref q1, .int 1, .ref q2, .ref q3, .int 0, .ref q4, .int 11, .int 0, .ref q5, .ref q7, .ref q9, .ref q13, .ref q17])) := ⟨_, rfl⟩
  have hW1 : vi_tw vK cy (fun _ => True) ([h0, q1, q2, q3, q4, q5, q6, q7, q8, q9, q10, q11, q12, q13, q14, q15, q16, q17] ++ wd.map (fun q => q.1)) ([0, 15, 12, 12, 17, 1, 10, 2, 10, 9, 21, 13, 11, 19, 14, 12, 12, 20] ++ τd) W1 := by
    rw [eW]
    exact tw_both (τ1 := [0, 15, 12, 12, 17, 1, 10, 2, 10, 9, 21, 13, 11, 19, 14, 12, 12, 20]) (ad1 := [h0, q1, q2, q3, q4, q5, q6, q7, q8, q9, q10, q11, q12, q13, q14, q15, q16, q17]) (w1 := [(h0, .inr (14, [.ref q1, .int 1, .ref q2, .ref q3, .int 0, .ref q4, .int 11, .int 0, .ref q5, .ref q7, .ref q9, .ref q13, .ref q17])), (q1, .inl (cy 4, 16, .inr (.inr (.inr (.inr (f)))))), (q2, .inl (cy 0, 8, .inl (fun _ => 0))), (q3, .inl (cy 0, 8, .inl (fun _ => 0))), (q4, .inl (cy 6, 12, .inr (.inr (.inr (.inr (g)))))), (q5, .inr (5, [.ref q6, .int 0, .int 0, .int 0])), (q6, .inl (cy 0, 32, .inl (fun _ => 0))), (q7, .inr (5, [.ref q8, .int 0, .int 0, .int 0])), (q8, .inl (cy 0, 32, .inl (fun _ => 0))), (q9, .inr (13, [.ref q10, .ref q11, .int 0, .ref q12, .int 0])), (q10, .inl (cy 0, 8, .inl (fun _ => 0))), (q11, .inl (cy 0, 128, .inl (fun _ => 0))), (q12, .inl (cy 0, 16, .inl (fun _ => 0))), (q13, .inr (8, [.ref q14, .ref q15, .ref q16, .int 0, .int 0, .int 0, .int 0, .int 0, .int (-1), .int 0])), (q14, .inl (cy 1, 8, .inl (fun _ => 0))), (q15, .inl (cy 0, 8, .inl (fun _ => 0))), (q16, .inl (cy 0, 8, .inl (fun _ => 0))), (q17, .inr (11, [.int 0, .int 0, .int 0]))]) hl rfl (hub_cells cy h0 q1 q2 q3 q4 q5 q6 q7 q8 q9 q10 q11 q12 q13 q14 q15 q16 q17 f g _ _ hf hg) hT
  have ne : ∀ i : Nat, i < 2 → k0 ≠ i := by
    intro i hi z
    rcases (show i = 0 ∨ i = 1 by omega) with rfl | rfl
    · subst z
      exact absurd (congrArg (fun x => my_cid x.2) (Option.some.inj hk0)) (by show ¬ (14 : Nat) = 6; decide)
    · subst z
      exact absurd (congrArg (fun x => my_cid x.2) (Option.some.inj hk0)) (by show ¬ (1000 + 16 : Nat) = 6; decide)
  have hk1 : W1[k0]? = some ((Z 0).1, DevC 0 (Z 0).2.1 (Z 0).2.2.1 0 0 117 (-1)) := by
    rw [eW, List.getElem?_set_ne (fun z => ne 0 (by decide) z.symm)]
    exact hk0
  have hm1 : ((Z 0).1, DevC 0 (Z 0).2.1 (Z 0).2.2.1 0 0 117 (-1)) ∈ W1 := List.mem_of_getElem? hk1
  have h18 : 18 ≤ k0 := by
    rcases Nat.lt_or_ge k0 18 with z | z
    · exfalso
      have hx := hk0
      rw [List.getElem?_append_left (show k0 < (HubW cy h0 q1 q2 q3 q4 q5 q6 q7 q8 q9 q10 q11 q12 q13 q14 q15 q16 q17 f g).length from z)] at hx
      have hc := congrArg (Option.map (fun x : Nat × va_E => my_cid x.2)) hx
      have all : ∀ j : Fin 18, Option.map (fun x : Nat × va_E => my_cid x.2) ((HubW cy h0 q1 q2 q3 q4 q5 q6 q7 q8 q9 q10 q11 q12 q13 q14 q15 q16 q17 f g)[j.val]?) ≠ some 6 := by
        intro j
        match j with
        | ⟨0, _⟩ => simp [my_cid]
        | ⟨1, _⟩ => simp [my_cid]
        | ⟨2, _⟩ => simp [my_cid]
        | ⟨3, _⟩ => simp [my_cid]
        | ⟨4, _⟩ => simp [my_cid]
        | ⟨5, _⟩ => simp [my_cid]
        | ⟨6, _⟩ => simp [my_cid]
        | ⟨7, _⟩ => simp [my_cid]
        | ⟨8, _⟩ => simp [my_cid]
        | ⟨9, _⟩ => simp [my_cid]
        | ⟨10, _⟩ => simp [my_cid]
        | ⟨11, _⟩ => simp [my_cid]
        | ⟨12, _⟩ => simp [my_cid]
        | ⟨13, _⟩ => simp [my_cid]
        | ⟨14, _⟩ => simp [my_cid]
        | ⟨15, _⟩ => simp [my_cid]
        | ⟨16, _⟩ => simp [my_cid]
        | ⟨17, _⟩ => simp [my_cid]
        | ⟨j + 18, h⟩ => exact absurd h (by omega)
      exact all ⟨k0, z⟩ hc
    · exact z
  have hdd : ∀ (i j : Nat) (p q : Nat × va_E), W1[i]? = some p → W1[j]? = some q → p.1 = q.1 → i = j := by
    have e9 : W1.map (fun q => q.1) = (HubW cy h0 q1 q2 q3 q4 q5 q6 q7 q8 q9 q10 q11 q12 q13 q14 q15 q16 q17 f g ++ wd).map (fun q => q.1) := by rw [eW]; rfl
    intro i j p q hi hj e
    have gi : ((HubW cy h0 q1 q2 q3 q4 q5 q6 q7 q8 q9 q10 q11 q12 q13 q14 q15 q16 q17 f g ++ wd).map (fun q => q.1))[i]? = some p.1 := by rw [← e9, List.getElem?_map, hi]; rfl
    have gj : ((HubW cy h0 q1 q2 q3 q4 q5 q6 q7 q8 q9 q10 q11 q12 q13 q14 q15 q16 q17 f g ++ wd).map (fun q => q.1))[j]? = some q.1 := by rw [← e9, List.getElem?_map, hj]; rfl
    rw [List.getElem?_map] at gi gj
    obtain ⟨p0, hp0, ep⟩ := Option.map_eq_some_iff.mp gi
    obtain ⟨q0, hq0, eq⟩ := Option.map_eq_some_iff.mp gj
    exact hD.1 i j p0 q0 hp0 hq0 (by rw [ep, eq]; exact e)
  obtain ⟨k4, g1, g2, g3⟩ := tag_of kd_dev hW1 hm1
  have e4 : k4 = k0 := hdd _ _ _ _ g3 hk1 rfl
  subst e4
  obtain ⟨kd, x1, x2⟩ := hW1.2.2.1 _ _ _ g1 hk1
  cases x1
  have x3 := cell_set (k := 2) (v := .int 4) x2 (fun a h => by cases h; exact oki (by decide))
  have x4 := cell_set (k := 4) (v := .int 1) x3 (fun a h => by cases h; exact oki (by decide))
  have x5 := cell_set (k := 7) (v := .int 99) x4 (fun a h => by cases h; exact oki (by decide))
  have x6 := cell_set (k := 10) (v := .int 0) x5 (fun a h => by cases h; exact oki (by decide))
  have hW := vi_tw_set (Z := fun _ => True) hW1 g1 hk1 rfl x6 True.intro
  obtain ⟨A9, B9, ewd, eτ, hf9, hg9⟩ := hBP
  have hZ0 := (hZ 0 (by decide)).1
  have eA0 : (Z 0).1 = A9 0 0 := Option.some.inj (hZ0.symm.trans (hf9 0 (by decide)))
  have h18x : W1[18]? = some (A9 0 0, DevC 0 (A9 0 1) (A9 0 2) 0 0 117 (-1)) := by
    rw [eW, ewd, List.getElem?_set_ne (by decide)]
    show (HubW cy h0 q1 q2 q3 q4 q5 q6 q7 q8 q9 q10 q11 q12 q13 q14 q15 q16 q17 f g ++ (catL (fun k => devB cy k (A9 k)) 16 ++ catL (fun k => pipB cy k (B9 k)) 12))[18]? = _
    rw [List.getElem?_append_right (show 18 ≤ 18 from Nat.le_refl _), List.getElem?_append_left (by rw [catL_len (m := 15) (fun _ => rfl) 16]; exact (by decide : 18 - 18 < 15 * 16))]
    exact catL_at (b := fun k => devB cy k (A9 k)) (m := 15) (i := 0) (j := 0) (fun _ => rfl) (by decide) 16 (by decide)
  have ek : k4 = 18 := hdd _ _ _ _ hk1 h18x eA0
  have ec := Option.some.inj (hk1.symm.trans (by rw [ek]; exact h18x))
  have ec2 : DevC 0 (Z 0).2.1 (Z 0).2.2.1 0 0 117 (-1) = DevC 0 (A9 0 1) (A9 0 2) 0 0 117 (-1) := congrArg Prod.snd ec
  have ec3 : (Z 0).2.1 = A9 0 1 ∧ (Z 0).2.2.1 = A9 0 2 := by
    unfold DevC at ec2
    injection ec2 with ec4
    have ec5 := (Prod.mk.inj ec4).2
    simp only [List.cons.injEq, Value.ref.injEq, true_and, and_true] at ec5
    exact ec5
  have hnd : ([h0, q1, q2, q3, q4, q5, q6, q7, q8, q9, q10, q11, q12, q13, q14, q15, q16, q17] ++ wd.map (fun q => q.1)).Nodup := by
    rw [← hW1.1]
    refine nodup_of (fun i j x hi hj => ?_)
    rw [List.getElem?_map] at hi hj
    obtain ⟨p0, hp0, ep⟩ := Option.map_eq_some_iff.mp hi
    obtain ⟨p1, hp1, ep1⟩ := Option.map_eq_some_iff.mp hj
    exact hdd i j _ _ hp0 hp1 (ep.trans ep1.symm)
  rw [List.set_comm _ _ (ne 0 (by decide)), ← eW]
  obtain ⟨Y, y1, y2, y3⟩ := hub_SI cy h0 q1 q2 q3 q4 q5 q6 q7 q8 q9 q10 q11 q12 q13 q14 q15 q16 q17 (A := A9) (B := B9) hf9 hg9 (by rw [eW, ewd, ek, eA0, ec3.1, ec3.2]; rfl) (by rw [eτ]) hW hnd
  exact ⟨_, _, Y, hW, sg_hub hτ, rfl, rfl, y1, y2, y3⟩
end CTY
