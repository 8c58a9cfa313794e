section CLA
/-! p54: the class's cells by addresses -/
/-- a kind's tag and length -/
def vTag (d : Nat) : Nat := match vK[d]? with
  | some k => if k.1 = 0 then k.2.1 + 1 else 100 + k.2.1
  | none => 0
def vLen (d : Nat) : Nat := match vK[d]? with
  | some k => if k.1 = 0 then 0 else k.2.2.1
  | none => 0
/-- what the tables of kinds and of fields say of each other -/
def clT1 (t : Nat) (b : VA) : Bool := (decide (t = 3) && decide (b.1 = 3)) || (decide (t < 3) && decide (b.1 = 1) && (!decide (t = 1) || (decide (0 ≤ b.2.1) && decide (b.2.2 ≤ 65535))) && (!decide (t = 2) || (decide (0 ≤ b.2.1) && decide (b.2.2 ≤ 1))))
def clTo (ci : Nat) (fs : List VA) : Bool := decide (ci + 1 < 100) && (decide ((sgC ci).length = fs.length) && (List.range fs.length).all fun i => match (sgC ci)[i]?, fs[i]? with
  | some t, some b => clT1 t b
  | _, _ => false)
def clTi (ty : Nat) (els : List VA) : Bool := sgIA ty && (!decide (ty = 11) && (!decide (ty = 1) || (match els[0]? with
  | some b => decide (0 ≤ b.2.1) && decide (b.2.2 ≤ 65535)
  | none => false)))
def clTK (k : VK) : Bool := match k.1 with
  | 0 => clTo k.2.1 k.2.2.2
  | 1 => clTi k.2.1 k.2.2.2
  | _ => !sgIA k.2.1
theorem clTb : vK.all clTK = true := by decide +kernel
theorem clTk {d : Nat} {k : VK} (h : vK[d]? = some k) : clTK k = true := List.all_eq_true.mp clTb k (List.mem_of_getElem? h)
theorem cl_ob {d ci x : Nat} {fs : List VA} (h : vK[d]? = some (0, ci, x, fs)) : ci + 1 < 100 ∧ (sgC ci).length = fs.length ∧ ∀ (i t : Nat) (b : VA), (sgC ci)[i]? = some t → fs[i]? = some b → clT1 t b = true := by
  have h1 : clTo ci fs = true := clTk h
  unfold clTo at h1
  rw [Bool.and_eq_true, Bool.and_eq_true, decide_eq_true_eq, decide_eq_true_eq, List.all_eq_true] at h1
  obtain ⟨h2, h3, h4⟩ := h1
  refine ⟨h2, h3, fun i t b e1 e2 => ?_⟩
  have h5 := h4 i (List.mem_range.mpr (List.getElem?_eq_some_iff.mp e2).1)
  rw [e1, e2] at h5
  exact h5
theorem cl_tag0 {d ci x : Nat} {fs : List VA} (h : vK[d]? = some (0, ci, x, fs)) : vTag d = ci + 1 := by
  unfold vTag
  rw [h]
  rfl
theorem cl_tag1 {d n ty N : Nat} {els : List VA} (h : vK[d]? = some (n + 1, ty, N, els)) : vTag d = 100 + ty ∧ vLen d = N := by
  unfold vTag vLen
  rw [h]
  exact ⟨rfl, rfl⟩
/-- a tag's kind -/
theorem cl_of0 {d ci : Nat} (h : vTag d = ci + 1) (h1 : ci + 1 < 100) : ∃ (x : Nat) (fs : List VA), vK[d]? = some (0, ci, x, fs) := by
  cases e : vK[d]? with
  | none => unfold vTag at h; rw [e] at h; cases h
  | some k =>
    obtain ⟨k1, c2, x, fs⟩ := k
    cases k1 with
    | zero =>
      have h2 := cl_tag0 e
      rw [h] at h2
      cases h2
      exact ⟨x, fs, rfl⟩
    | succ n =>
      have h2 := (cl_tag1 e).1
      omega
theorem cl_of1 {d ty : Nat} (h : vTag d = 100 + ty) : ∃ (n N : Nat) (els : List VA), vK[d]? = some (n + 1, ty, N, els) := by
  cases e : vK[d]? with
  | none => unfold vTag at h; rw [e] at h; exact absurd h (by show ¬ (0 = 100 + ty); omega)
  | some k =>
    obtain ⟨k1, c2, x, fs⟩ := k
    cases k1 with
    | zero =>
      have h2 := cl_tag0 e
      have h3 := (cl_ob e).1
      omega
    | succ n =>
      have h2 := (cl_tag1 e).1
      have h3 : c2 = ty := by omega
      subst h3
      exact ⟨n, x, fs, rfl⟩
/-- an address's place -/
def aIx : List Nat → Nat → Nat
  | [], _ => 0
  | x :: l, a => if a = x then 0 else aIx l a + 1
theorem aIx_at : ∀ {l : List Nat} {q a : Nat}, l.Nodup → l[q]? = some a → aIx l a = q
  | [], q, a, _, h => by cases h
  | x :: l, 0, a, _, h => by
    cases h
    exact if_pos rfl
  | x :: l, q + 1, a, hn, h => by
    have h : l[q]? = some a := h
    have h2 := List.nodup_cons.mp hn
    have hne : a ≠ x := fun z => h2.1 (by rw [← z]; exact List.mem_of_getElem? h)
    show (if a = x then 0 else aIx l a + 1) = q + 1
    rw [if_neg hne, aIx_at h2.2 h]
theorem aIx_in : ∀ {l : List Nat} {a q : Nat}, (∃ x : Nat, l[aIx l a]? = some x) → a ∈ l
  | [], a, _, ⟨x, h⟩ => by cases h
  | y :: l, a, q, ⟨x, h⟩ => by
    by_cases e : a = y
    · rw [e]; exact List.mem_cons_self
    · have h3 : aIx (y :: l) a = aIx l a + 1 := if_neg e
      rw [h3] at h
      exact List.mem_cons_of_mem _ (aIx_in (q := q) ⟨x, h⟩)
/-- a state out of a world -/
def wI (ad : List Nat) (w : va_W) (a k : Nat) : Int32 := match w[aIx ad a]? with
  | some (_, .inr (_, vs)) => (match vs[k]? with
    | some (.int x) => x
    | _ => 0)
  | some (_, .inl (_, N, .inl f)) => if k < N then f k else 0
  | _ => 0
def wR (ad : List Nat) (w : va_W) (a k : Nat) : Option Nat := match w[aIx ad a]? with
  | some (_, .inr (_, vs)) => (match vs[k]? with
    | some (.ref b) => some b
    | _ => none)
  | some (_, .inl (_, _, .inr (.inr (.inr (.inr f))))) => f k
  | _ => none
def wT (ad τ : List Nat) (a : Nat) : Nat := match τ[aIx ad a]? with
  | some d => vTag d
  | none => 0
def wN (ad τ : List Nat) (a : Nat) : Nat := match τ[aIx ad a]? with
  | some d => vLen d
  | none => 0
def wU : List Nat → Nat
  | [] => 0
  | x :: l => max (x + 1) (wU l)
theorem wU_lt : ∀ {l : List Nat} {a : Nat}, a ∈ l → a < wU l
  | [], _, h => by cases h
  | x :: l, a, h => by
    show a < max (x + 1) (wU l)
    rcases List.mem_cons.mp h with e | e
    · omega
    · have := wU_lt e
      omega
def wS (ad τ : List Nat) (w : va_W) : SG := (wT ad τ, wI ad w, wR ad w, fun _ _ => 0, wN ad τ, wU ad)
/-- an array's ints, cut at its length -/
def trE (e : va_E) : va_E := match e with
  | .inl (c, N, .inl f) => .inl (c, N, .inl (fun j => if j < N then f j else 0))
  | e => e
def cwL (cy : Nat → ClassId) (ad : List Nat) (σ : SG) : va_W := ad.map (fun a => (a, sgE cy σ a))
/-- the state has the class's cells and no others, each of its kind -/
def VT (cy : Nat → ClassId) (ad τ : List Nat) (σ : SG) : Prop := vi_tw vK cy (fun _ => True) ad τ (cwL cy ad σ) ∧ ad.Nodup ∧ (∀ a, sgT σ a ≠ 0 → a ∈ ad) ∧ (∀ q d a : Nat, τ[q]? = some d → ad[q]? = some a → sgT σ a = vTag d ∧ sgN σ a = vLen d) ∧ (∀ a j, 100 ≤ sgT σ a → sgN σ a ≤ j → sgI σ a j = 0) ∧ ∀ a ∈ ad, a < sgU σ
variable {cy : Nat → ClassId} {ad τ : List Nat} {σ σ2 : SG} {w w1 : va_W} {Z : va_W → Prop} {D : va_G} {H : Heap} {M : List (Nat × Nat × Nat)}
theorem cwL_fst : (cwL cy ad σ).map (fun q => q.1) = ad := by
  unfold cwL
  rw [List.map_map]
  exact List.map_id ad
theorem cwL_at {q a : Nat} (h : ad[q]? = some a) : (cwL cy ad σ)[q]? = some (a, sgE cy σ a) := by
  unfold cwL
  rw [List.getElem?_map, h]
  rfl
theorem cwL_to {q : Nat} {e : Nat × va_E} (h : (cwL cy ad σ)[q]? = some e) : ad[q]? = some e.1 ∧ e.2 = sgE cy σ e.1 := by
  unfold cwL at h
  rw [List.getElem?_map] at h
  cases g : ad[q]? with
  | none => rw [g] at h; cases h
  | some a => rw [g] at h; cases h; exact ⟨rfl, rfl⟩
theorem wT_at {q d a : Nat} (hn : ad.Nodup) (ha : ad[q]? = some a) (hq : τ[q]? = some d) : wT ad τ a = vTag d ∧ wN ad τ a = vLen d := by
  unfold wT wN
  rw [aIx_at hn ha, hq]
  exact ⟨rfl, rfl⟩
theorem wS_E (h : vi_tw vK cy Z ad τ w) (hn : ad.Nodup) {q d a : Nat} {e : va_E} (hq : τ[q]? = some d) (ha : ad[q]? = some a) (hw : w[q]? = some (a, e)) : sgE cy (wS ad τ w) a = trE e := by
  obtain ⟨e2, k, g1, g2, g3⟩ := vi_tw_get h hq ha
  have e3 : e2 = e := (Prod.mk.inj (Option.some.inj (g1.symm.trans hw))).2
  subst e3
  have hw9 : w[aIx ad a]? = some (a, e2) := by rw [aIx_at hn ha]; exact hw
  obtain ⟨t1, t2⟩ := wT_at hn ha hq
  obtain ⟨k1, ci, N, els⟩ := k
  match k1, g2, g3 with
  | 0, g2, g3 =>
    obtain ⟨vs, rfl, hl, hv⟩ := g3
    obtain ⟨c1, c2, c3⟩ := cl_ob g2
    have hT : sgT (wS ad τ w) a = ci + 1 := t1.trans (cl_tag0 g2)
    rw [sgE_ob hT c1]
    show (.inr (ci, sgVs (wS ad τ w) a 0 (sgC ci)) : va_E) = .inr (ci, vs)
    congr 2
    apply List.ext_getElem?
    intro i
    by_cases hi : i < vs.length
    · have hl : vs.length = els.length := hl
      have x1 : (sgC ci)[i]? = some ((sgC ci)[i]'(by omega)) := List.getElem?_eq_getElem _
      have x2 : els[i]? = some (els[i]'(by omega)) := List.getElem?_eq_getElem _
      have x3 : vs[i]? = some (vs[i]'hi) := List.getElem?_eq_getElem _
      have x4 := c3 i _ _ x1 x2
      have x5 := hv i _ _ x2 x3
      generalize (sgC ci)[i]'(by omega) = t at x1 x4
      generalize els[i]'(by omega) = b at x2 x4 x5
      generalize vs[i]'hi = v at x3 x5
      rw [sgVs_at x1, x3, Nat.zero_add]
      congr 1
      have eI : sgI (wS ad τ w) a i = (match vs[i]? with
        | some (.int x) => x
        | _ => 0) := by
        show wI ad w a i = _
        unfold wI
        rw [hw9]
      have eR : sgR (wS ad τ w) a i = (match vs[i]? with
        | some (.ref b) => some b
        | _ => none) := by
        show wR ad w a i = _
        unfold wR
        rw [hw9]
      rw [x3] at eI eR
      unfold clT1 at x4
      rw [Bool.or_eq_true] at x4
      rcases x4 with x4 | x4
      · rw [Bool.and_eq_true, decide_eq_true_eq, decide_eq_true_eq] at x4
        obtain ⟨rfl, y1⟩ := x4
        show va_rf (sgR (wS ad τ w) a i) = v
        rw [eR]
        obtain ⟨b1, b2, b3⟩ := b
        have y1 : b1 = 3 := y1
        subst y1
        rcases x5 with ⟨-, rfl⟩ | ⟨q9, b9, -, -, rfl⟩ <;> rfl
      · rw [Bool.and_eq_true, Bool.and_eq_true, Bool.and_eq_true, decide_eq_true_eq, decide_eq_true_eq] at x4
        obtain ⟨⟨⟨y0, y1⟩, -⟩, -⟩ := x4
        obtain ⟨b1, b2, b3⟩ := b
        have y1 : b1 = 1 := y1
        subst y1
        obtain ⟨x, rfl, -, -⟩ := x5
        match t, y0 with
        | 0, _ => show Value.int (sgI (wS ad τ w) a i) = _; rw [eI]
        | 1, _ => show Value.int (sgI (wS ad τ w) a i) = _; rw [eI]
        | 2, _ => show Value.int (sgI (wS ad τ w) a i) = _; rw [eI]
    · have hl : vs.length = els.length := hl
      rw [List.getElem?_eq_none (by rw [sgVs_len]; omega), List.getElem?_eq_none (by omega)]
  | 1, g2, g3 =>
    obtain ⟨f, rfl, -⟩ := g3
    have c1 : clTi ci els = true := clTk g2
    unfold clTi at c1
    rw [Bool.and_eq_true] at c1
    have hT : sgT (wS ad τ w) a = 100 + ci := t1.trans (cl_tag1 (n := 0) g2).1
    have hN : sgN (wS ad τ w) a = N := t2.trans (cl_tag1 (n := 0) g2).2
    have hf : sgI (wS ad τ w) a = fun j => if j < N then f j else 0 := by
      funext j
      show wI ad w a j = _
      unfold wI
      rw [hw9]
    rw [sgE_ia hT c1.1, hN, hf]
    rfl
  | n + 2, g2, g3 =>
    obtain ⟨f, rfl, -⟩ := g3
    have c1 : (!sgIA ci) = true := clTk g2
    have hT : sgT (wS ad τ w) a = 100 + ci := t1.trans (cl_tag1 (n := n + 1) g2).1
    have hN : sgN (wS ad τ w) a = N := t2.trans (cl_tag1 (n := n + 1) g2).2
    have hf : sgR (wS ad τ w) a = f := by
      funext j
      show wR ad w a j = _
      unfold wR
      rw [hw9]
    rw [sgE_ra hT (by rw [Bool.not_eq_true'] at c1; exact c1), hN, hf]
    rfl
theorem wS_L (h : vi_tw vK cy Z ad τ w) (hn : ad.Nodup) : cwL cy ad (wS ad τ w) = w.map (fun q => (q.1, trE q.2)) := by
  apply List.ext_getElem?
  intro q
  rw [List.getElem?_map]
  cases g : w[q]? with
  | none =>
    have h1 : ad[q]? = none := by rw [← h.1, List.getElem?_map, g]; rfl
    unfold cwL
    rw [List.getElem?_map, h1]
    rfl
  | some p =>
    obtain ⟨a, e⟩ := p
    have h1 : ad[q]? = some a := by rw [← h.1, List.getElem?_map, g]; rfl
    have hlt : q < τ.length := by rw [h.2.1]; exact (List.getElem?_eq_some_iff.mp h1).1
    rw [cwL_at h1, wS_E h hn (List.getElem?_eq_getElem hlt) h1 g]
    rfl
theorem trE_cell {k : VK} {e : va_E} (h : vi_cell ad τ cy k e) : vi_cell ad τ cy k (trE e) := by
  obtain ⟨k1, ci, N, els⟩ := k
  match k1, h with
  | 0, h =>
    obtain ⟨vs, rfl, hl, hv⟩ := h
    exact ⟨vs, rfl, hl, hv⟩
  | 1, h =>
    obtain ⟨f, rfl, hb⟩ := h
    refine ⟨_, rfl, fun a ha => ⟨(hb a ha).1, fun j hj => ?_⟩⟩
    have hj : j < N := hj
    rw [if_pos hj]
    exact (hb a ha).2 j hj
  | n + 2, h =>
    obtain ⟨f, rfl, hb⟩ := h
    exact ⟨f, rfl, hb⟩
theorem VT_of (h : vi_tw vK cy Z ad τ w) (hn : ad.Nodup) : VT cy ad τ (wS ad τ w) := by
  refine ⟨⟨cwL_fst, h.2.1, fun q d e hq he => ?_, True.intro⟩, hn, fun a ha => ?_, fun q d a hq ha => wT_at hn ha hq, fun a j h1 h2 => ?_, fun a ha => wU_lt ha⟩
  · rw [wS_L h hn, List.getElem?_map] at he
    cases g : w[q]? with
    | none => rw [g] at he; cases he
    | some p =>
      rw [g] at he
      cases he
      obtain ⟨k, x1, x2⟩ := h.2.2.1 q d p hq g
      exact ⟨k, x1, trE_cell x2⟩
  · refine aIx_in (q := 0) ?_
    cases g : τ[aIx ad a]? with
    | none =>
      refine absurd ?_ ha
      show wT ad τ a = 0
      unfold wT
      rw [g]
    | some d => exact ⟨_, List.getElem?_eq_getElem (by rw [← h.2.1]; exact (List.getElem?_eq_some_iff.mp g).1)⟩
  · show wI ad w a j = 0
    have h1 : 100 ≤ wT ad τ a := h1
    have h2 : wN ad τ a ≤ j := h2
    cases g : w[aIx ad a]? with
    | none => unfold wI; rw [g]
    | some p =>
      obtain ⟨b, e⟩ := p
      have x1 : ad[aIx ad a]? = some b := by
        have z : (w.map (fun q => q.1))[aIx ad a]? = some b := by rw [List.getElem?_map, g]; rfl
        rw [h.1] at z
        exact z
      have hlt : aIx ad a < τ.length := by rw [h.2.1]; exact (List.getElem?_eq_some_iff.mp x1).1
      obtain ⟨k, x2, x3⟩ := h.2.2.1 _ _ _ (List.getElem?_eq_getElem hlt) g
      unfold wT at h1
      unfold wN at h2
      rw [List.getElem?_eq_getElem hlt] at h1 h2
      obtain ⟨k1, ci, N, els⟩ := k
      match k1, x2, x3 with
      | 0, x2, x3 =>
        have z1 := cl_tag0 x2
        have z2 := (cl_ob x2).1
        have h1 : 100 ≤ vTag _ := h1
        omega
      | 1, x2, x3 =>
        obtain ⟨f, e9, -⟩ := x3
        have e9 : e = .inl (cy ci, N, .inl f) := e9
        subst e9
        have z1 := (cl_tag1 (n := 0) x2).2
        have h2 : vLen _ ≤ j := h2
        unfold wI
        rw [g]
        exact if_neg (by omega)
      | n + 2, x2, x3 =>
        obtain ⟨f, e9, -⟩ := x3
        have e9 : e = .inl (cy ci, N, .inr (.inr (.inr (.inr f)))) := e9
        subst e9
        unfold wI
        rw [g]
theorem arrV_cut {c : ClassId} {N : Nat} {f : Nat → Int32} : vp_cell c (N, .inl (fun j => if j < N then f j else 0)) = vp_cell c (N, .inl f) := by
  rw [vp_cell_i, vp_cell_i]
  unfold arrV
  congr 1
  apply congrArg
  funext j
  exact congrArg Value.int (if_pos j.isLt)
theorem trE_at {a : Nat} {e : va_E} (h : va_at D vwCl (a, e) H) : va_at D vwCl (a, trE e) H := by
  match e, h with
  | .inr o, h => exact h
  | .inl (c, N, .inl f), h =>
    show H[a]? = some (vp_cell c (N, .inl (fun j => if j < N then f j else 0)))
    rw [arrV_cut]
    exact h
  | .inl (c, N, .inr g), h => exact h
theorem P_of (h : vi_tw vK cy Z ad τ w) (hn : ad.Nodup) (hP : va_P D vwCl w H) : va_P D vwCl (cwL cy ad (wS ad τ w)) H := by
  intro k q hq
  rw [wS_L h hn, List.getElem?_map] at hq
  cases g : w[k]? with
  | none => rw [g] at hq; cases hq
  | some p =>
    rw [g] at hq
    cases hq
    exact trE_at (hP k p g)
theorem VT_at (h : VT cy ad τ σ) {a : Nat} (ha : sgT σ a ≠ 0) : ∃ q d : Nat, ad[q]? = some a ∧ τ[q]? = some d ∧ vTag d = sgT σ a ∧ vLen d = sgN σ a ∧ ∃ k : VK, vK[d]? = some k ∧ vi_cell ad τ cy k (sgE cy σ a) := by
  obtain ⟨q, hq⟩ := List.mem_iff_getElem?.mp (h.2.2.1 a ha)
  have hlt : q < τ.length := by rw [h.1.2.1]; exact (List.getElem?_eq_some_iff.mp hq).1
  have hd := List.getElem?_eq_getElem hlt
  obtain ⟨e1, e2⟩ := h.2.2.2.1 q _ a hd hq
  exact ⟨q, _, hq, hd, e1.symm, e2.symm, h.1.2.2.1 q _ _ hd (cwL_at hq)⟩
theorem VT_OK (h : VT cy ad τ σ) : sgOK σ := by
  refine ⟨fun a k t h1 h2 h3 => ?_, fun a j h1 => ?_, fun a j h1 => ?_, fun a h1 => h.2.2.2.2.2 a (h.2.2.1 a h1)⟩
  · obtain ⟨q, d, -, -, e1, -, kd, e2, e3⟩ := VT_at h h1
    obtain ⟨x, fs, e4⟩ := cl_of0 (d := d) (ci := sgT σ a - 1) (by omega) (by omega)
    cases e2.symm.trans e4
    obtain ⟨vs, e5, e6, e7⟩ := e3
    obtain ⟨c1, c2, c3⟩ := cl_ob e4
    rw [sgE_ob (ci := sgT σ a - 1) (by omega) (by omega)] at e5
    have e8 : sgVs σ a 0 (sgC (sgT σ a - 1)) = vs := (Prod.mk.inj (Sum.inr.inj e5)).2
    have hk : k < fs.length := by rw [← c2]; exact (List.getElem?_eq_some_iff.mp h3).1
    have y1 : fs[k]? = some fs[k] := List.getElem?_eq_getElem hk
    have y2 := c3 k t _ h3 y1
    have y3 : vs[k]? = some (sgV σ a k t) := by
      rw [← e8]
      have := sgVs_at (σ := σ) (a := a) (i := 0) h3
      rw [Nat.zero_add] at this
      exact this
    have y4 := e7 k _ _ y1 y3
    generalize fs[k] = b at y1 y2 y4
    obtain ⟨b1, b2, b3⟩ := b
    unfold clT1 at y2
    rw [Bool.or_eq_true] at y2
    rcases y2 with y2 | y2
    · rw [Bool.and_eq_true, decide_eq_true_eq] at y2
      rw [y2.1]
      exact True.intro
    · rw [Bool.and_eq_true, Bool.and_eq_true, Bool.and_eq_true, decide_eq_true_eq, decide_eq_true_eq] at y2
      obtain ⟨⟨⟨y0, z1⟩, z2⟩, z3⟩ := y2
      have z1 : b1 = 1 := z1
      subst z1
      obtain ⟨x, e9, x1, x2⟩ := y4
      match t, y0, e9, z2, z3 with
      | 0, _, _, _, _ => exact True.intro
      | 1, _, e9, z2, _ =>
        have e9 : sgI σ a k = x := Value.int.inj e9
        simp only [decide_true, Bool.not_true, Bool.false_or, Bool.and_eq_true, decide_eq_true_eq] at z2
        have x1 : b2 ≤ x.toInt := x1
        have x2 : x.toInt ≤ b3 := x2
        rw [e9]
        exact ⟨by omega, by omega⟩
      | 2, _, e9, _, z3 =>
        have e9 : sgI σ a k = x := Value.int.inj e9
        simp only [decide_true, Bool.not_true, Bool.false_or, Bool.and_eq_true, decide_eq_true_eq] at z3
        have x1 : b2 ≤ x.toInt := x1
        have x2 : x.toInt ≤ b3 := x2
        rw [e9]
        exact ⟨by omega, by omega⟩
  · obtain ⟨q, d, -, -, e1, e0, kd, e2, e3⟩ := VT_at h (a := a) (by omega)
    obtain ⟨n, N, els, e4⟩ := cl_of1 (d := d) (ty := 1) (by omega)
    cases e2.symm.trans e4
    have hN := (cl_tag1 e4).2
    by_cases hj : j < N
    · match n, e4, e3 with
      | 0, e4, e3 =>
        have c1 : clTi 1 els = true := clTk e4
        obtain ⟨f, e5, e6⟩ := e3
        rw [sgE_ia (t := 1) h1 rfl] at e5
        have e7 : sgI σ a = f := by
          have := Sum.inl.inj e5
          exact Sum.inl.inj (Prod.mk.inj (Prod.mk.inj this).2).2
        cases els with
        | nil => exact absurd c1 (by decide)
        | cons b r =>
          have c2 : (sgIA 1 && (!decide (1 = 11) && (!decide (1 = 1) || (decide (0 ≤ b.2.1) && decide (b.2.2 ≤ 65535))))) = true := c1
          simp only [decide_true, Bool.not_true, Bool.false_or, Bool.and_eq_true, decide_eq_true_eq] at c2
          have e8 := (e6 b rfl).2 j hj
          rw [e7]
          exact ⟨by have := e8.1; have := c2.2.2.1; omega, by have := e8.2; have := c2.2.2.2; omega⟩
      | n + 1, e4, e3 =>
        have c1 : (!sgIA 1) = true := clTk e4
        exact absurd c1 (by decide)
    · rw [h.2.2.2.2.1 a j (by omega) (by omega)]
      exact ⟨by decide, by decide⟩
  · obtain ⟨q, d, -, -, e1, -, kd, e2, e3⟩ := VT_at h (a := a) (by omega)
    obtain ⟨n, N, els, e4⟩ := cl_of1 (d := d) (ty := 11) (by omega)
    match n, e4 with
    | 0, e4 =>
      have c1 : clTi 11 els = true := clTk e4
      exact absurd c1 (by
        unfold clTi
        simp)
    | n + 1, e4 =>
      have c1 : (!sgIA 11) = true := clTk e4
      exact absurd c1 (by decide)
theorem VT_P (h : VT cy ad τ σ) (hP : va_P D vwCl (cwL cy ad σ) H) : sgP D cy σ H := ⟨fun a ha => by
  obtain ⟨q, hq⟩ := List.mem_iff_getElem?.mp (h.2.2.1 a ha)
  exact hP q _ (cwL_at hq), VT_OK h⟩
theorem VT_W (h : VT cy ad τ σ) (hP : sgP D cy σ H) : va_P D vwCl (cwL cy ad σ) H := fun q e he => by
  obtain ⟨x1, x2⟩ := cwL_to he
  have hlt : q < τ.length := by rw [h.1.2.1]; exact (List.getElem?_eq_some_iff.mp x1).1
  have hd := List.getElem?_eq_getElem hlt
  obtain ⟨e1, -⟩ := h.2.2.2.1 q _ _ hd x1
  obtain ⟨k, e2, -⟩ := h.1.2.2.1 q _ _ hd he
  obtain ⟨e0, e9⟩ := e
  have x2 : e9 = sgE cy σ e0 := x2
  rw [x2]
  refine hP.1 e0 ?_
  have e1 : sgT σ e0 = vTag _ := e1
  rw [e1]
  unfold vTag
  rw [e2]
  show (if k.1 = 0 then k.2.1 + 1 else 100 + k.2.1) ≠ 0
  split <;> omega
/-- a write into one cell -/
theorem VT_set {a : Nat} (h : VT cy ad τ σ) (hT : ∀ b, sgT σ2 b = sgT σ b) (hN : ∀ b, sgN σ2 b = sgN σ b) (hU : sgU σ2 = sgU σ) (hE : ∀ b, b ≠ a → sgE cy σ2 b = sgE cy σ b) (hz : ∀ b j, 100 ≤ sgT σ b → sgN σ b ≤ j → sgI σ2 b j = 0) (hc : ∀ (d : Nat) (k : VK), vTag d = sgT σ a → vLen d = sgN σ a → vK[d]? = some k → vi_cell ad τ cy k (sgE cy σ a) → vi_cell ad τ cy k (sgE cy σ2 a)) : VT cy ad τ σ2 := by
  refine ⟨⟨cwL_fst, h.1.2.1, fun q d e hq he => ?_, True.intro⟩, h.2.1, fun b hb => h.2.2.1 b (by rw [← hT]; exact hb), fun q d b hq hb => by rw [hT, hN]; exact h.2.2.2.1 q d b hq hb, fun b j h1 h2 => hz b j (by rw [← hT]; exact h1) (by rw [← hN]; exact h2), fun b hb => by rw [hU]; exact h.2.2.2.2.2 b hb⟩
  obtain ⟨x1, x2⟩ := cwL_to he
  obtain ⟨e0, e9⟩ := e
  have x2 : e9 = sgE cy σ2 e0 := x2
  have x1 : ad[q]? = some e0 := x1
  subst x2
  obtain ⟨k, y1, y2⟩ := h.1.2.2.1 q d _ hq (cwL_at x1)
  refine ⟨k, y1, ?_⟩
  show vi_cell ad τ cy k (sgE cy σ2 e0)
  by_cases c : e0 = a
  · subst c
    obtain ⟨z1, z2⟩ := h.2.2.2.1 q d e0 hq x1
    exact hc d k z1.symm z2.symm y1 y2
  · rw [hE e0 c]
    exact y2
theorem VT_PI {a k ci t : Nat} {x : Int32} (h : VT cy ad τ σ) (ha : sgT σ a = ci + 1) (h1 : ci + 1 < 100) (ht : (sgC ci)[k]? = some t) (h3 : t < 3) (hx : ∀ (d x0 : Nat) (fs : List VA) (b : VA), vK[d]? = some (0, ci, x0, fs) → fs[k]? = some b → vi_ok ad τ b (.int x)) : VT cy ad τ (sgPI σ a k x) := by
  refine VT_set (a := a) h (fun _ => rfl) (fun _ => rfl) rfl (fun b hb => sgE_PI hb) (fun b j g1 g2 => ?_) (fun d kd g1 _ g3 g4 => ?_)
  · rw [sgI_PI, if_neg (fun z => by rw [z.1, ha] at g1; omega)]
    exact h.2.2.2.2.1 b j g1 g2
  · obtain ⟨x0, fs, e4⟩ := cl_of0 (g1.trans ha) h1
    cases g3.symm.trans e4
    obtain ⟨vs, e5, e6, e7⟩ := g4
    rw [sgE_ob ha h1] at e5
    have e8 : sgVs σ a 0 (sgC ci) = vs := (Prod.mk.inj (Sum.inr.inj e5)).2
    have e9 : sgE cy (sgPI σ a k x) a = .inr (ci, vs.set k (.int x)) := by
      rw [sgE_ob (σ := sgPI σ a k x) ha h1, sgVs_PI (fun t2 h2 => by cases ht.symm.trans h2; omega), e8]
    refine ⟨vs.set k (.int x), e9, by rw [List.length_set]; exact e6, fun i b v y1 y2 => ?_⟩
    by_cases c : k = i
    · subst c
      have hlt : k < vs.length := by have e6 : vs.length = fs.length := e6; rw [e6]; exact (List.getElem?_eq_some_iff.mp y1).1
      rw [List.getElem?_set_self hlt] at y2
      cases y2
      exact hx d x0 fs b e4 y1
    · rw [List.getElem?_set_ne c] at y2
      exact e7 i b v y1 y2
theorem VT_PR {a k ci : Nat} {x : Option Nat} (h : VT cy ad τ σ) (ha : sgT σ a = ci + 1) (h1 : ci + 1 < 100) (ht : (sgC ci)[k]? = some 3) (hx : ∀ (d x0 : Nat) (fs : List VA) (b : VA), vK[d]? = some (0, ci, x0, fs) → fs[k]? = some b → vi_ok ad τ b (va_rf x)) : VT cy ad τ (sgPR σ a k x) := by
  refine VT_set (a := a) h (fun _ => rfl) (fun _ => rfl) rfl (fun b hb => sgE_PR hb) (fun b j g1 g2 => h.2.2.2.2.1 b j g1 g2) (fun d kd g1 _ g3 g4 => ?_)
  obtain ⟨x0, fs, e4⟩ := cl_of0 (g1.trans ha) h1
  cases g3.symm.trans e4
  obtain ⟨vs, e5, e6, e7⟩ := g4
  rw [sgE_ob ha h1] at e5
  have e8 : sgVs σ a 0 (sgC ci) = vs := (Prod.mk.inj (Sum.inr.inj e5)).2
  have e9 : sgE cy (sgPR σ a k x) a = .inr (ci, vs.set k (va_rf x)) := by
    rw [sgE_ob (σ := sgPR σ a k x) ha h1, sgVs_PR (fun t2 h2 => by cases ht.symm.trans h2; rfl), e8]
  refine ⟨vs.set k (va_rf x), e9, by rw [List.length_set]; exact e6, fun i b v y1 y2 => ?_⟩
  by_cases c : k = i
  · subst c
    have hlt : k < vs.length := by have e6 : vs.length = fs.length := e6; rw [e6]; exact (List.getElem?_eq_some_iff.mp y1).1
    rw [List.getElem?_set_self hlt] at y2
    cases y2
    exact hx d x0 fs b e4 y1
  · rw [List.getElem?_set_ne c] at y2
    exact e7 i b v y1 y2
/-- an array's element -/
theorem VT_PA {a k ty : Nat} {x : Int32} (h : VT cy ad τ σ) (ha : sgT σ a = 100 + ty) (hi : sgIA ty = true) (hk : k < sgN σ a) (hx : ∀ (d n N : Nat) (b : VA) (els : List VA), vK[d]? = some (n + 1, ty, N, b :: els) → b.2.1 ≤ x.toInt ∧ x.toInt ≤ b.2.2) : VT cy ad τ (sgPI σ a k x) := by
  refine VT_set (a := a) h (fun _ => rfl) (fun _ => rfl) rfl (fun b hb => sgE_PI hb) (fun b j g1 g2 => ?_) (fun d kd g1 g2 g3 g4 => ?_)
  · rw [sgI_PI, if_neg (fun z => by rw [z.1, z.2] at g2; omega)]
    exact h.2.2.2.2.1 b j g1 g2
  · obtain ⟨n, N, els, e4⟩ := cl_of1 (g1.trans ha)
    cases g3.symm.trans e4
    match n, e4, g4 with
    | 0, e4, g4 =>
      obtain ⟨f, e5, e6⟩ := g4
      rw [sgE_ia ha hi] at e5
      have e7 : sgI σ a = f := Sum.inl.inj (Prod.mk.inj (Prod.mk.inj (Sum.inl.inj e5)).2).2
      have eN : sgN σ a = N := (Prod.mk.inj (Prod.mk.inj (Sum.inl.inj e5)).2).1
      refine ⟨sgI (sgPI σ a k x) a, by rw [sgE_ia (σ := sgPI σ a k x) ha hi]; show (.inl (cy ty, sgN σ a, _) : va_E) = _; rw [eN], fun b hb => ⟨(e6 b hb).1, fun j hj => ?_⟩⟩
      rw [sgI_PI]
      by_cases c : j = k
      · rw [if_pos ⟨rfl, c⟩]
        cases els with
        | nil => cases hb
        | cons b2 r =>
          cases hb
          exact hx d 0 N b r e4
      · rw [if_neg (fun z => c z.2), e7]
        exact (e6 b hb).2 j hj
    | n + 1, e4, g4 =>
      have c1 : (!sgIA ty) = true := clTk e4
      rw [hi] at c1
      cases c1
/-- what a contract keeps, by addresses -/
theorem kept_of (h : VT cy ad τ σ) (h1 : vi_tw vK cy Z ad τ w1) (hk : vi_kept τ M (cwL cy ad σ) w1) : vi_kept τ M (cwL cy ad σ) (cwL cy ad (wS ad τ w1)) := by
  have hn := h.2.1
  have eL := wS_L h1 hn
  have ob : ∀ (q a ci : Nat) (vs : List Value), w1[q]? = some (a, .inr (ci, vs)) → (cwL cy ad (wS ad τ w1))[q]? = some (a, .inr (ci, vs)) := fun q a ci vs g => by rw [eL, List.getElem?_map, g]; rfl
  refine ⟨fun ls o x ho hp => ?_, fun q a cA N f hq => ?_, fun q d a ci vs hd hq => ?_, fun q d a cA N f hd hM hq => ?_⟩
  · have g := hk.1 ls o x ho hp
    obtain ⟨o1, o2, o3, o4⟩ := o
    match o1, g with
    | 0, _ => exact True.intro
    | 1, g => exact g
    | 2, g =>
      obtain ⟨q, a, vs, g1, g2, g3⟩ := g
      exact ⟨q, a, vs, g1, ob _ _ _ _ g2, g3⟩
    | 3, g =>
      obtain ⟨q, a, vs, g1, g2, g3⟩ := g
      exact ⟨q, a, vs, g1, ob _ _ _ _ g2, g3⟩
    | n + 4, g => exact g
  · rw [eL, List.getElem?_map, hk.2.1 q a cA N f hq]
    rfl
  · obtain ⟨v1, g1, g2⟩ := hk.2.2.1 q d a ci vs hd hq
    exact ⟨v1, ob _ _ _ _ g1, g2⟩
  · have g1 := hk.2.2.2 q d a cA N f hd hM hq
    rw [eL, List.getElem?_map, g1]
    obtain ⟨x1, x2⟩ := cwL_to hq
    have x1 : ad[q]? = some a := x1
    have x2 : (.inl (cA, N, .inl f) : va_E) = sgE cy σ a := x2
    have hf : (fun j => if j < N then f j else 0) = f := by
      funext j
      by_cases c : j < N
      · exact if_pos c
      · rw [if_neg c]
        obtain ⟨z1, z2⟩ := h.2.2.2.1 q d a hd x1
        have hT : 100 ≤ sgT σ a ∧ sgI σ a = f ∧ sgN σ a = N := by
          unfold sgE at x2
          split at x2
          · cases x2
          · rename_i hge
            split at x2
            · have x3 := Sum.inl.inj x2
              have x4 := (Prod.mk.inj x3).2
              exact ⟨by omega, (Sum.inl.inj (Prod.mk.inj x4).2).symm, (Prod.mk.inj x4).1.symm⟩
            · have x3 := Sum.inl.inj x2
              have x4 := (Prod.mk.inj (Prod.mk.inj x3).2).2
              cases x4
        rw [← hT.2.1]
        exact (h.2.2.2.2.1 a j hT.1 (by omega)).symm
    show some (a, trE (.inl (cA, N, .inl f))) = _
    show some (a, (.inl (cA, N, .inl (fun j => if j < N then f j else 0)) : va_E)) = _
    rw [hf]
end CLA
