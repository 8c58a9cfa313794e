section VIB
variable {ad τ SG : List Nat} {KT : List VK} {cy : Nat → ClassId} {Z : va_W → Prop} {w : va_W} {ls : Array Slot} {A0 : Nat → Prop}
theorem vi_path_fun (hD : va_D A0 w) (hSG : vi_sg SG τ) {o : VO} {v v2 : Value} (h0 : o.1 ≠ 0) (h3 : o.1 = 3 → o.2.1 ∈ SG) (h : vi_path τ ls w o v) (h2 : vi_path τ ls w o v2) : v = v2 := by
  obtain ⟨t, j, ci, k⟩ := o
  match t, h0, h3, h, h2 with
  | 1, _, _, h, h2 =>
    have e := h.symm.trans h2
    cases e; rfl
  | 2, _, _, ⟨q, a, vs, e1, e2, e3⟩, ⟨q2, a2, vs2, f1, f2, f3⟩ =>
    have e := e1.symm.trans f1
    cases e
    have hq := hD.1 q q2 _ _ e2 f2 rfl
    subst hq
    have e := e2.symm.trans f2
    cases e
    exact Option.some.inj (e3.symm.trans f3)
  | 3, _, h3, ⟨q, a, vs, e1, e2, e3⟩, ⟨q2, a2, vs2, f1, f2, f3⟩ =>
    have hq := hSG q q2 j (h3 rfl) e1 f1
    subst hq
    have e := e2.symm.trans f2
    cases e
    exact Option.some.inj (e3.symm.trans f3)
  | _ + 4, _, _, h, _ => exact h.elim
theorem vi_tw_get (h : vi_tw KT cy Z ad τ w) {q d b : Nat} (ht : τ[q]? = some d) (hb : ad[q]? = some b) : ∃ (e : va_E) (k : VK), w[q]? = some (b, e) ∧ KT[d]? = some k ∧ vi_cell ad τ cy k e := by
  obtain ⟨h1, h2, h3, -⟩ := h
  rw [← h1, List.getElem?_map] at hb
  cases hw : w[q]? with
  | none => rw [hw] at hb; cases hb
  | some e =>
    rw [hw] at hb
    cases hb
    obtain ⟨k, a1, a2⟩ := h3 q d e ht hw
    exact ⟨e.2, k, rfl, a1, a2⟩
theorem vi_tw_set (h : vi_tw KT cy Z ad τ w) {q d b : Nat} {e0 e : va_E} {k : VK} (ht : τ[q]? = some d) (hq : w[q]? = some (b, e0)) (hk : KT[d]? = some k) (he : vi_cell ad τ cy k e) (hz : Z (w.set q (b, e))) : vi_tw KT cy Z ad τ (w.set q (b, e)) := by
  have hl := (List.getElem?_eq_some_iff.mp hq).1
  refine ⟨?_, h.2.1, fun q2 d2 e2 h1 h2 => ?_, hz⟩
  · rw [← h.1, List.map_set]
    apply List.ext_getElem?
    intro i
    by_cases hi : i = q
    · subst hi
      rw [List.getElem?_set_self (by simpa using hl), List.getElem?_map, hq]
      rfl
    · rw [List.getElem?_set_ne (Ne.symm hi)]
  · by_cases hi : q2 = q
    · subst hi
      rw [List.getElem?_set_self hl] at h2
      cases h2
      cases ht.symm.trans h1
      exact ⟨k, hk, he⟩
    · rw [List.getElem?_set_ne (Ne.symm hi)] at h2
      exact h.2.2.1 q2 d2 e2 h1 h2
/-- a path of another field stands -/
theorem vi_path_put {q0 a0 ci0 k0 : Nat} {fs : List Value} {x : Value} (hq : w[q0]? = some (a0, .inr (ci0, fs))) {o : VO} {v : Value} (ho : o.1 = 0 ∨ o.1 = 1 ∨ ¬ (o.2.2.1 = ci0 ∧ o.2.2.2 = k0) ∨ (o.1 = 3 ∧ τ[q0]? ≠ some o.2.1)) (h : vi_path τ ls w o v) : vi_path τ ls (w.set q0 (a0, .inr (ci0, fs.set k0 x))) o v := by
  have hl := (List.getElem?_eq_some_iff.mp hq).1
  have key : ∀ (q a : Nat) (ci k : Nat) (vs : List Value), (¬ (ci = ci0 ∧ k = k0) ∨ q ≠ q0) → w[q]? = some (a, .inr (ci, vs)) → vs[k]? = some v → ∃ (vs2 : List Value), (w.set q0 (a0, .inr (ci0, fs.set k0 x)))[q]? = some (a, .inr (ci, vs2)) ∧ vs2[k]? = some v := by
    intro q a ci k vs hn h1 h2
    by_cases hi : q = q0
    · subst hi
      have e := h1.symm.trans hq
      cases e
      refine ⟨_, List.getElem?_set_self hl, ?_⟩
      have hk : k ≠ k0 := fun z => by
        rcases hn with hn | hn
        · exact hn ⟨rfl, z⟩
        · exact hn rfl
      rw [List.getElem?_set_ne (Ne.symm hk)]
      exact h2
    · exact ⟨vs, by rw [List.getElem?_set_ne (Ne.symm hi)]; exact h1, h2⟩
  obtain ⟨t, j, ci, k⟩ := o
  match t, ho, h with
  | 0, _, _ => exact trivial
  | 1, _, h => exact h
  | 2, ho, ⟨q, a, vs, e1, e2, e3⟩ =>
    have hn : ¬ (ci = ci0 ∧ k = k0) ∨ q ≠ q0 := by
      rcases ho with z | z | z | z
      · cases z
      · cases z
      · exact Or.inl z
      · cases z.1
    obtain ⟨vs2, g1, g2⟩ := key q a ci k vs hn e2 e3
    exact ⟨q, a, vs2, e1, g1, g2⟩
  | 3, ho, ⟨q, a, vs, e1, e2, e3⟩ =>
    have hn : ¬ (ci = ci0 ∧ k = k0) ∨ q ≠ q0 := by
      rcases ho with z | z | z | z
      · cases z
      · cases z
      · exact Or.inl z
      · exact Or.inr (fun e => z.2 (by rw [← e]; exact e1))
    obtain ⟨vs2, g1, g2⟩ := key q a ci k vs hn e2 e3
    exact ⟨q, a, vs2, e1, g1, g2⟩
  | _ + 4, _, h => exact h.elim
/-- a store into an array leaves paths -/
theorem vi_path_arr {q0 a0 : Nat} {x y : ClassId × vp_A} (hq : w[q0]? = some (a0, .inl x)) {o : VO} {v : Value} (h : vi_path τ ls w o v) : vi_path τ ls (w.set q0 (a0, .inl y)) o v := by
  have key : ∀ (q a : Nat) (z : Nat × List Value), w[q]? = some (a, .inr z) → (w.set q0 (a0, .inl y))[q]? = some (a, .inr z) := by
    intro q a z h1
    have hi : q ≠ q0 := fun e => by
      subst e
      have e := h1.symm.trans hq
      cases e
    rw [List.getElem?_set_ne (Ne.symm hi)]
    exact h1
  obtain ⟨t, j, ci, k⟩ := o
  match t, h with
  | 0, _ => exact trivial
  | 1, h => exact h
  | 2, ⟨q, a, vs, e1, e2, e3⟩ => exact ⟨q, a, vs, e1, key _ _ _ e2, e3⟩
  | 3, ⟨q, a, vs, e1, e2, e3⟩ => exact ⟨q, a, vs, e1, key _ _ _ e2, e3⟩
  | _ + 4, h => exact h.elim
/-- what a store into local i leaves: the list of all that is held -/
def vi_held (ls : Array Slot) (nL : Nat) : List (Nat × Value) := (List.range nL).filterMap fun j => match (ls[j]? : Option Slot) with | some (Slot.val v) => some (j, v) | _ => none
theorem vi_held_mem {nL : Nat} {j : Nat} {v : Value} (hn : ls.size = nL) (h : ls[j]? = some (.val v)) : (j, v) ∈ vi_held ls nL := by
  have hl := (Array.getElem?_eq_some_iff.mp h).1
  exact List.mem_filterMap.mpr ⟨j, List.mem_range.mpr (by omega), by rw [h]⟩
theorem vi_held_has {nL : Nat} (h : lv_has ls nL []) : lv_has ls nL (vi_held ls nL) := by
  refine ⟨h.1, h.2.1, fun q hq => ?_⟩
  obtain ⟨j, -, hj⟩ := List.mem_filterMap.mp hq
  cases hx : ls[j]? with
  | none => rw [hx] at hj; cases hj
  | some sl =>
    rw [hx] at hj
    cases sl with
    | val v => cases hj; exact hx
    | unset => cases hj
    | second => cases hj
theorem vi_has_nil {nL : Nat} {l : List (Nat × Value)} (h : lv_has ls nL l) : lv_has ls nL [] := ⟨h.1, h.2.1, fun _ q => by cases q⟩
/-- what one store of a value of one slot leaves -/
def vi_ls1 (ls ls2 : Array Slot) (i : Nat) (v : Value) : Prop := ls2[i]? = some (.val v) ∧ ∀ (j : Nat) (x : Value), j ≠ i → ¬ (j + 1 = i ∧ x.category = 2) → ls[j]? = some (.val x) → ls2[j]? = some (.val x)
theorem vi_ls1_of {nL i : Nat} {v : Value} {ls2 : Array Slot} (hn : ls.size = nL) (h : lv_has ls2 nL ((i, v) :: (vi_held ls nL).filter (fun q => !(q.1 == i) && !(q.1 + 1 == i && q.2.category == 2)))) : vi_ls1 ls ls2 i v := by
  refine ⟨h.2.2 (i, v) List.mem_cons_self, fun j x hj hx hl => h.2.2 (j, x) (List.mem_cons_of_mem _ (List.mem_filter.mpr ⟨vi_held_mem hn hl, ?_⟩))⟩
  by_cases e : j + 1 = i
  · have hc : x.category ≠ 2 := fun z => hx ⟨e, z⟩
    simp [hj, hc]
  · simp [hj, e]
/-- the arguments stand where they stood -/
theorem vi_has_al {na nL i : Nat} {v : Value} {al : List (Nat × Value)} {ls2 : Array Slot} (hal : ∀ q ∈ al, q.1 < na ∧ q.2.category = 1) (hi : na ≤ i) (h : lv_has ls nL al) (h2 : lv_has ls2 nL ((i, v) :: (vi_held ls nL).filter (fun q => !(q.1 == i) && !(q.1 + 1 == i && q.2.category == 2)))) : lv_has ls2 nL al := by
  have h3 := vi_ls1_of h.1 h2
  refine ⟨h2.1, h2.2.1, fun q hq => ?_⟩
  obtain ⟨a1, a2⟩ := hal q hq
  exact h3.2 q.1 q.2 (by omega) (fun z => by omega) (h.2.2 q hq)
/-- the locals' list behind a store of one slot at i -/
def vi_set1 (loc : List VA) (i : Nat) (a : VA) : List VA := (if (match loc[i - 1]? with | some b => decide (i ≠ 0) && decide (4 ≤ b.1) | none => false) = true then loc.set (i - 1) (0, 0, 0) else loc).set i a
theorem vi_cat {a : VA} {v : Value} (h : vi_ok ad τ a v) (h0 : a.1 ≠ 0) (h4 : ¬ 4 ≤ a.1) : v.category = 1 := by
  obtain ⟨t, x, y⟩ := a
  match t, h0, h4, h with
  | 0, h0, _, _ => exact absurd rfl h0
  | 1, _, _, h =>
    obtain ⟨z, e, -⟩ := h
    rw [e]; rfl
  | 2, _, _, h =>
    have e : v = .null := h
    rw [e]; rfl
  | 3, _, _, h =>
    rcases h with ⟨-, e⟩ | ⟨q, b, -, -, e⟩ <;> (rw [e]; rfl)
  | _ + 4, _, h4, _ => exact absurd (by simp) h4
theorem vi_lo_set1 {loc : List VA} {i : Nat} {a : VA} {v : Value} {ls2 : Array Slot} (h : vi_lo ad τ loc ls) (hs : vi_ls1 ls ls2 i v) (ha : vi_ok ad τ a v) : vi_lo ad τ (vi_set1 loc i a) ls2 := by
  intro j b hj hb
  by_cases hi : j = i
  · subst hi
    unfold vi_set1 at hj
    have hlt : j < (if (match loc[j - 1]? with | some b => decide (j ≠ 0) && decide (4 ≤ b.1) | none => false) = true then loc.set (j - 1) (0, 0, 0) else loc).length := by
      have := (List.getElem?_eq_some_iff.mp hj).1
      simpa using this
    rw [List.getElem?_set_self hlt] at hj
    cases hj
    exact ⟨v, hs.1, ha⟩
  · unfold vi_set1 at hj
    rw [List.getElem?_set_ne (Ne.symm hi)] at hj
    have key : loc[j]? = some b ∧ ¬ (j + 1 = i ∧ 4 ≤ b.1) := by
      by_cases hc : (match loc[i - 1]? with | some b => decide (i ≠ 0) && decide (4 ≤ b.1) | none => false) = true
      · rw [if_pos hc] at hj
        by_cases hj1 : j = i - 1
        · subst hj1
          by_cases hl : i - 1 < loc.length
          · rw [List.getElem?_set_self hl] at hj
            cases hj
            exact absurd rfl hb
          · rw [List.getElem?_eq_none (by simp; omega)] at hj
            cases hj
        · rw [List.getElem?_set_ne (Ne.symm hj1)] at hj
          exact ⟨hj, fun z => hj1 (by omega)⟩
      · rw [if_neg hc] at hj
        refine ⟨hj, fun z => hc ?_⟩
        have e : i - 1 = j := by omega
        rw [e, hj]
        have : i ≠ 0 := by omega
        simp [this, z.2]
    obtain ⟨x, h1, h2⟩ := h j b key.1 hb
    refine ⟨x, hs.2 j x hi (fun z => key.2 ⟨z.1, ?_⟩) h1, h2⟩
    by_cases h4 : 4 ≤ b.1
    · exact h4
    · have := vi_cat h2 hb h4
      omega
/-- what one store of a value of two slots leaves -/
def vi_ls2 (ls ls2 : Array Slot) (i : Nat) (v : Value) : Prop := ls2[i]? = some (.val v) ∧ ∀ (j : Nat) (x : Value), j ≠ i → j ≠ i + 1 → ¬ (j + 1 = i ∧ x.category = 2) → ls[j]? = some (.val x) → ls2[j]? = some (.val x)
theorem vi_ls2_of {nL i : Nat} {v : Value} {ls2 : Array Slot} (hn : ls.size = nL) (h : lv_has ls2 nL ((i, v) :: (vi_held ls nL).filter (fun q => !(q.1 == i) && (!(q.1 == i + 1) && !(q.1 + 1 == i && q.2.category == 2))))) : vi_ls2 ls ls2 i v := by
  refine ⟨h.2.2 (i, v) List.mem_cons_self, fun j x hj hj1 hx hl => h.2.2 (j, x) (List.mem_cons_of_mem _ (List.mem_filter.mpr ⟨vi_held_mem hn hl, ?_⟩))⟩
  by_cases e : j + 1 = i
  · have hc : x.category ≠ 2 := fun z => hx ⟨e, z⟩
    simp [hj, hj1, hc]
  · simp [hj, hj1, e]
def vi_set2 (loc : List VA) (i : Nat) : List VA := (vi_set1 loc i (4, 0, 0)).set (i + 1) (0, 0, 0)
theorem vi_set1_at {loc : List VA} {i j : Nat} {a b : VA} (hi : j ≠ i) (hj : (vi_set1 loc i a)[j]? = some b) (hb : b.1 ≠ 0) : loc[j]? = some b ∧ ¬ (j + 1 = i ∧ 4 ≤ b.1) := by
  unfold vi_set1 at hj
  rw [List.getElem?_set_ne (Ne.symm hi)] at hj
  by_cases hc : (match loc[i - 1]? with | some b => decide (i ≠ 0) && decide (4 ≤ b.1) | none => false) = true
  · rw [if_pos hc] at hj
    by_cases hj1 : j = i - 1
    · subst hj1
      by_cases hl : i - 1 < loc.length
      · rw [List.getElem?_set_self hl] at hj
        cases hj
        exact absurd rfl hb
      · rw [List.getElem?_eq_none (by simp; omega)] at hj
        cases hj
    · rw [List.getElem?_set_ne (Ne.symm hj1)] at hj
      exact ⟨hj, fun z => hj1 (by omega)⟩
  · rw [if_neg hc] at hj
    refine ⟨hj, fun z => hc ?_⟩
    have e : i - 1 = j := by omega
    rw [e, hj]
    have : i ≠ 0 := by omega
    simp [this, z.2]
theorem vi_lo_set2 {loc : List VA} {i : Nat} {v : Value} {ls2 : Array Slot} (h : vi_lo ad τ loc ls) (hs : vi_ls2 ls ls2 i v) (ha : vi_ok ad τ (4, 0, 0) v) : vi_lo ad τ (vi_set2 loc i) ls2 := by
  intro j b hj hb
  unfold vi_set2 at hj
  by_cases hj1 : j = i + 1
  · subst hj1
    by_cases hl : i + 1 < (vi_set1 loc i (4, 0, 0)).length
    · rw [List.getElem?_set_self hl] at hj
      cases hj
      exact absurd rfl hb
    · rw [List.getElem?_eq_none (by rw [List.length_set]; omega)] at hj
      cases hj
  · rw [List.getElem?_set_ne (Ne.symm hj1)] at hj
    by_cases hi : j = i
    · subst hi
      unfold vi_set1 at hj
      have hlt : j < (if (match loc[j - 1]? with | some b => decide (j ≠ 0) && decide (4 ≤ b.1) | none => false) = true then loc.set (j - 1) (0, 0, 0) else loc).length := by
        have := (List.getElem?_eq_some_iff.mp hj).1
        simpa using this
      rw [List.getElem?_set_self hlt] at hj
      cases hj
      exact ⟨v, hs.1, ha⟩
    · obtain ⟨k1, k2⟩ := vi_set1_at hi hj hb
      obtain ⟨x, h1, h2⟩ := h j b k1 hb
      refine ⟨x, hs.2 j x hi hj1 (fun z => k2 ⟨z.1, ?_⟩) h1, h2⟩
      by_cases h4 : 4 ≤ b.1
      · exact h4
      · have := vi_cat h2 hb h4
        omega
theorem vi_has_al2 {na nL i : Nat} {v : Value} {al : List (Nat × Value)} {ls2 : Array Slot} (hal : ∀ q ∈ al, q.1 < na ∧ q.2.category = 1) (hi : na ≤ i) (h : lv_has ls nL al) (h2 : lv_has ls2 nL ((i, v) :: (vi_held ls nL).filter (fun q => !(q.1 == i) && (!(q.1 == i + 1) && !(q.1 + 1 == i && q.2.category == 2))))) : lv_has ls2 nL al := by
  have h3 := vi_ls2_of h.1 h2
  refine ⟨h2.1, h2.2.1, fun q hq => ?_⟩
  obtain ⟨a1, a2⟩ := hal q hq
  exact h3.2 q.1 q.2 (by omega) (by omega) (fun z => by omega) (h.2.2 q hq)
/-- a path whose base isn't i -/
def vi_free (i : Nat) (o : VO) : Bool := (o.1 == 0) || (o.1 == 3) || ((o.1 == 1) && !(o.2.1 == i) && !(o.2.1 + 1 == i)) || ((o.1 == 2) && !(o.2.1 == i))
theorem vi_path_set1 {i : Nat} {v : Value} {ls2 : Array Slot} (hs : vi_ls1 ls ls2 i v) {o : VO} {x : Value} (ho : vi_free i o = true) (h : vi_path τ ls w o x) : vi_path τ ls2 w o x := by
  obtain ⟨t, j, ci, k⟩ := o
  match t, ho, h with
  | 0, _, _ => exact trivial
  | 1, ho, h =>
    have h1 : ¬ j = i ∧ ¬ j + 1 = i := by simpa [vi_free] using ho
    exact hs.2 j x h1.1 (fun z => h1.2 z.1) h
  | 2, ho, ⟨q, a, vs, e1, e2, e3⟩ =>
    have h1 : ¬ j = i := by simpa [vi_free] using ho
    exact ⟨q, a, vs, hs.2 j _ h1 (fun z => by cases z.2) e1, e2, e3⟩
  | 3, _, h => exact h
  | _ + 4, _, h => exact h.elim
theorem vi_path_set2 {i : Nat} {v : Value} {ls2 : Array Slot} (hs : vi_ls2 ls ls2 i v) {o : VO} {x : Value} (ho : (vi_free i o && vi_free (i + 1) o) = true) (h : vi_path τ ls w o x) : vi_path τ ls2 w o x := by
  obtain ⟨t, j, ci, k⟩ := o
  simp only [Bool.and_eq_true] at ho
  match t, ho, h with
  | 0, _, _ => exact trivial
  | 1, ho, h =>
    have h1 : ¬ j = i ∧ ¬ j + 1 = i := by simpa [vi_free] using ho.1
    have h2 : ¬ j = i + 1 ∧ ¬ j + 1 = i + 1 := by simpa [vi_free] using ho.2
    exact hs.2 j x h1.1 h2.1 (fun z => h1.2 z.1) h
  | 2, ho, ⟨q, a, vs, e1, e2, e3⟩ =>
    have h1 : ¬ j = i := by simpa [vi_free] using ho.1
    have h2 : ¬ j = i + 1 := by simpa [vi_free] using ho.2
    exact ⟨q, a, vs, hs.2 j _ h1 h2 (fun z => by cases z.2) e1, e2, e3⟩
  | 3, _, h => exact h
  | _ + 4, _, h => exact h.elim
/-- forget where a value came from -/
def vi_fo (f : VO → Bool) (o : VO) : VO := if f o then o else (0, 0, 0, 0)
def vi_fs (f : VO → Bool) (st : List (VA × VO)) : List (VA × VO) := st.map fun q => (q.1, vi_fo f q.2)
def vi_ff (f : VO → Bool) (fa : List VF) : List VF := fa.filter fun q => f q.1
theorem vi_stk_map {f : VO → Bool} {ls2 : Array Slot} {w2 : va_W} (hp : ∀ (o : VO) (x : Value), f o = true → vi_path τ ls w o x → vi_path τ ls2 w2 o x) : ∀ {st : List (VA × VO)} {vs : List Value}, vi_stk ad τ ls w st vs → vi_stk ad τ ls2 w2 (vi_fs f st) vs
  | [], [], _ => trivial
  | a :: as, v :: vs, ⟨h1, h2, h3⟩ => by
    refine ⟨h1, ?_, vi_stk_map hp h3⟩
    show vi_path τ ls2 w2 (vi_fo f a.2) v
    unfold vi_fo
    by_cases h : f a.2 = true
    · rw [if_pos h]; exact hp _ _ h h2
    · rw [if_neg h]; exact trivial
theorem vi_ff_map {f : VO → Bool} {ls2 : Array Slot} {w2 : va_W} (hp : ∀ (o : VO) (x : Value), f o = true → vi_path τ ls w o x → vi_path τ ls2 w2 o x) {fa : List VF} (h : ∀ q ∈ fa, vi_fact ad τ ls w q) : ∀ q ∈ vi_ff f fa, vi_fact ad τ ls2 w2 q := by
  intro q hq
  obtain ⟨h1, h2⟩ := List.mem_filter.mp hq
  obtain ⟨v, a1, a2⟩ := h q h1
  exact ⟨v, hp _ _ h2 a1, a2⟩
end VIB
