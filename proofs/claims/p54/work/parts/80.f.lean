section VIF
variable {p : Program} {l : Launch} {e : Env} {R : Room} {s : State} {m : MethodId} {args : Array Value} {below : List Frame} {meth : Method} {c : Code} {Q : State → Prop} {cc : ByteArray} {own : String}
variable {KT : List VK} {SG : List Nat} {na nL : Nat} {al : List (Nat × Value)} {FT : List (Nat × Nat × Nat)} {FP : List (Nat × Nat × Nat × Nat)} {CT C2 : List (Nat × Int)} {D : va_G} {cy : Nat → ClassId} {Z : va_W → Prop} {ad τ : List Nat} {A0 : Nat → Prop} {H0 : Heap}
variable {lo : List VA} {st : List (VA × VO)} {fa : List VF} {n pc : Nat} {L : List (Nat × VS)} {ls : Array Slot} {w : va_W}
theorem vi_stk_c {a : VA × VO} {as : List (VA × VO)} {vs : List Value} (h : vi_stk ad τ ls w (a :: as) vs) : ∃ v vs', vs = v :: vs' ∧ vi_ok ad τ a.1 v ∧ vi_path τ ls w a.2 v ∧ vi_stk ad τ ls w as vs' := by
  cases vs with
  | nil => exact h.elim
  | cons v vs' => exact ⟨v, vs', rfl, h⟩
theorem vi_i {a : VA} {v : Value} (h1 : a.1 = 1) (h : vi_ok ad τ a v) : ∃ x : Int32, v = .int x ∧ a.2.1 ≤ x.toInt ∧ x.toInt ≤ a.2.2 := by
  obtain ⟨t, u, z⟩ := a
  have h1 : t = 1 := h1
  subst h1
  exact h
theorem vi_l {a : VA} {v : Value} (h1 : a.1 = 4) (h : vi_ok ad τ a v) : ∃ x : Int64, v = .long x := by
  obtain ⟨t, u, z⟩ := a
  have h1 : t = 4 := h1
  subst h1
  exact h
theorem vi_r {a : VA} {v : Value} (h1 : a.1 = 2 ∨ a.1 = 3) (h : vi_ok ad τ a v) : v = .null ∨ ∃ b : Nat, v = .ref b := by
  obtain ⟨t, u, z⟩ := a
  rcases h1 with h1 | h1
  · have h1 : t = 2 := h1
    subst h1
    exact Or.inl h
  · have h1 : t = 3 := h1
    subst h1
    rcases h with ⟨-, h⟩ | ⟨-, b, -, -, h⟩
    · exact Or.inl h
    · exact Or.inr ⟨b, h⟩
/-- a reference that isn't null: its cell -/
theorem vi_nn {a : VA} {v : Value} (h1 : a.1 = 3) (h0 : a.2.2 = 0) (h : vi_ok ad τ a v) : ∃ q b : Nat, v = .ref b ∧ τ[q]? = some a.2.1.toNat ∧ ad[q]? = some b := by
  obtain ⟨t, u, z⟩ := a
  have h1 : t = 3 := h1
  subst h1
  rcases h with ⟨h, -⟩ | ⟨q, b, h2, h3, h4⟩
  · exact absurd h0 h
  · exact ⟨q, b, h4, h2, h3⟩
theorem vi_one {q : Nat × VS} {P : Nat × VS → Prop} (k : ∀ r ∈ [q], P r) : P q := k q (List.mem_singleton.mpr rfl)
theorem vr_iload_n (hx : p.tables.exec = Jvm.exec) (hb : c.code = cc) {i : Fin 4} (hd : decode cc pc = .ok (.iload_n i, 1)) (h : vi_ld i (pc + 1) (fun t => t == 1) lo st fa n = some L) (k : ∀ q ∈ L, vi_W p l e R s m args below meth c Q KT nL al D cy Z ad τ A0 H0 q.1 q.2) : vi_W p l e R s m args below meth c Q KT nL al D cy Z ad τ A0 H0 pc (lo, st, fa, n) := by
  unfold vi_ld at h
  cases ha : lo[(i : Nat)]? with
  | none => rw [ha] at h; cases h
  | some a =>
    rw [ha] at h
    by_cases c1 : (a.1 == 1) = true
    · simp only [c1, if_true] at h
      cases h
      intro H locs ls vs w g
      have c1 : a.1 = 1 := by simpa using c1
      obtain ⟨v, e1, e2⟩ := g.2.2.2.2.2.1 i a ha (by omega)
      obtain ⟨x, rfl, -⟩ := vi_i c1 e2
      exact lv_iload_n hx hb hd rfl e1 (vi_one k H locs ls _ w ⟨g.1, g.2.1, g.2.2.1, g.2.2.2.1, g.2.2.2.2.1, g.2.2.2.2.2.1, ⟨e2, e1, g.2.2.2.2.2.2.1⟩, g.2.2.2.2.2.2.2⟩)
    · simp only [c1] at h; cases h
theorem vr_iload (hx : p.tables.exec = Jvm.exec) (hb : c.code = cc) {i : Nat} (hd : decode cc pc = .ok (.iload i, 2)) (h : vi_ld i (pc + 2) (fun t => t == 1) lo st fa n = some L) (k : ∀ q ∈ L, vi_W p l e R s m args below meth c Q KT nL al D cy Z ad τ A0 H0 q.1 q.2) : vi_W p l e R s m args below meth c Q KT nL al D cy Z ad τ A0 H0 pc (lo, st, fa, n) := by
  unfold vi_ld at h
  cases ha : lo[i]? with
  | none => rw [ha] at h; cases h
  | some a =>
    rw [ha] at h
    by_cases c1 : (a.1 == 1) = true
    · simp only [c1, if_true] at h
      cases h
      intro H locs ls vs w g
      have c1 : a.1 = 1 := by simpa using c1
      obtain ⟨v, e1, e2⟩ := g.2.2.2.2.2.1 i a ha (by omega)
      obtain ⟨x, rfl, -⟩ := vi_i c1 e2
      exact lv_iload hx hb hd e1 (vi_one k H locs ls _ w ⟨g.1, g.2.1, g.2.2.1, g.2.2.2.1, g.2.2.2.2.1, g.2.2.2.2.2.1, ⟨e2, e1, g.2.2.2.2.2.2.1⟩, g.2.2.2.2.2.2.2⟩)
    · simp only [c1] at h; cases h
theorem vr_lload_n (hx : p.tables.exec = Jvm.exec) (hb : c.code = cc) {i : Fin 4} (hd : decode cc pc = .ok (.lload_n i, 1)) (h : vi_ld i (pc + 1) (fun t => t == 4) lo st fa n = some L) (k : ∀ q ∈ L, vi_W p l e R s m args below meth c Q KT nL al D cy Z ad τ A0 H0 q.1 q.2) : vi_W p l e R s m args below meth c Q KT nL al D cy Z ad τ A0 H0 pc (lo, st, fa, n) := by
  unfold vi_ld at h
  cases ha : lo[(i : Nat)]? with
  | none => rw [ha] at h; cases h
  | some a =>
    rw [ha] at h
    by_cases c1 : (a.1 == 4) = true
    · simp only [c1, if_true] at h
      cases h
      intro H locs ls vs w g
      have c1 : a.1 = 4 := by simpa using c1
      obtain ⟨v, e1, e2⟩ := g.2.2.2.2.2.1 i a ha (by omega)
      obtain ⟨x, rfl⟩ := vi_l c1 e2
      exact lv_lload_n hx hb hd rfl e1 (vi_one k H locs ls _ w ⟨g.1, g.2.1, g.2.2.1, g.2.2.2.1, g.2.2.2.2.1, g.2.2.2.2.2.1, ⟨e2, e1, g.2.2.2.2.2.2.1⟩, g.2.2.2.2.2.2.2⟩)
    · simp only [c1] at h; cases h
theorem vr_aload_n (hx : p.tables.exec = Jvm.exec) (hb : c.code = cc) {i : Fin 4} (hd : decode cc pc = .ok (.aload_n i, 1)) (h : vi_ld i (pc + 1) (fun t => (t == 2) || (t == 3)) lo st fa n = some L) (k : ∀ q ∈ L, vi_W p l e R s m args below meth c Q KT nL al D cy Z ad τ A0 H0 q.1 q.2) : vi_W p l e R s m args below meth c Q KT nL al D cy Z ad τ A0 H0 pc (lo, st, fa, n) := by
  unfold vi_ld at h
  cases ha : lo[(i : Nat)]? with
  | none => rw [ha] at h; cases h
  | some a =>
    rw [ha] at h
    by_cases c1 : ((a.1 == 2) || (a.1 == 3)) = true
    · simp only [c1, if_true] at h
      cases h
      intro H locs ls vs w g
      have c1 : a.1 = 2 ∨ a.1 = 3 := by simpa using c1
      obtain ⟨v, e1, e2⟩ := g.2.2.2.2.2.1 i a ha (by omega)
      have kk := fun vs' => vi_one k H locs ls (v :: vs') w
      rcases vi_r c1 e2 with rfl | ⟨b, rfl⟩
      · exact lv_aload_nN hx hb hd rfl e1 (kk _ ⟨g.1, g.2.1, g.2.2.1, g.2.2.2.1, g.2.2.2.2.1, g.2.2.2.2.2.1, ⟨e2, e1, g.2.2.2.2.2.2.1⟩, g.2.2.2.2.2.2.2⟩)
      · exact lv_aload_n hx hb hd rfl e1 (kk _ ⟨g.1, g.2.1, g.2.2.1, g.2.2.2.1, g.2.2.2.2.1, g.2.2.2.2.2.1, ⟨e2, e1, g.2.2.2.2.2.2.1⟩, g.2.2.2.2.2.2.2⟩)
    · simp only [c1] at h; cases h
theorem vr_aload (hx : p.tables.exec = Jvm.exec) (hb : c.code = cc) {i : Nat} (hd : decode cc pc = .ok (.aload i, 2)) (h : vi_ld i (pc + 2) (fun t => (t == 2) || (t == 3)) lo st fa n = some L) (k : ∀ q ∈ L, vi_W p l e R s m args below meth c Q KT nL al D cy Z ad τ A0 H0 q.1 q.2) : vi_W p l e R s m args below meth c Q KT nL al D cy Z ad τ A0 H0 pc (lo, st, fa, n) := by
  unfold vi_ld at h
  cases ha : lo[i]? with
  | none => rw [ha] at h; cases h
  | some a =>
    rw [ha] at h
    by_cases c1 : ((a.1 == 2) || (a.1 == 3)) = true
    · simp only [c1, if_true] at h
      cases h
      intro H locs ls vs w g
      have c1 : a.1 = 2 ∨ a.1 = 3 := by simpa using c1
      obtain ⟨v, e1, e2⟩ := g.2.2.2.2.2.1 i a ha (by omega)
      have kk := fun vs' => vi_one k H locs ls (v :: vs') w
      rcases vi_r c1 e2 with rfl | ⟨b, rfl⟩
      · exact lv_aloadN hx hb hd e1 (kk _ ⟨g.1, g.2.1, g.2.2.1, g.2.2.2.1, g.2.2.2.2.1, g.2.2.2.2.2.1, ⟨e2, e1, g.2.2.2.2.2.2.1⟩, g.2.2.2.2.2.2.2⟩)
      · exact lv_aload hx hb hd e1 (kk _ ⟨g.1, g.2.1, g.2.2.1, g.2.2.2.1, g.2.2.2.2.1, g.2.2.2.2.2.1, ⟨e2, e1, g.2.2.2.2.2.2.1⟩, g.2.2.2.2.2.2.2⟩)
    · simp only [c1] at h; cases h
/-- what stands behind a store -/
theorem vi_G_st {a : VA} {o : VO} {H : Heap} {locs : List Loc} {vs : List Value} {v : Value} {i : Nat} {A : VS} {ls2 : Array Slot} (hal : ∀ q ∈ al, q.1 < na ∧ q.2.category = 1) (hst : vi_st na nL i a lo st fa n = some A) (g : vi_G KT D cy Z ad τ nL al A0 H0 (lo, st, fa, n) H locs ls vs w) (ha : vi_ok ad τ a v) (h2 : lv_has ls2 nL ((i, v) :: (vi_held ls nL).filter (fun q => !(q.1 == i) && !(q.1 + 1 == i && q.2.category == 2)))) : vi_G KT D cy Z ad τ nL al A0 H0 A H locs ls2 vs w := by
  unfold vi_st at hst
  by_cases c1 : na ≤ i ∧ i < nL
  · rw [if_pos c1] at hst
    cases hst
    have h1 := vi_ls1_of g.2.2.2.2.1.1 h2
    exact ⟨g.1, g.2.1, g.2.2.1, g.2.2.2.1, vi_has_al hal c1.1 g.2.2.2.2.1 h2, vi_lo_set1 g.2.2.2.2.2.1 h1 ha, vi_stk_map (fun o x ho hp => vi_path_set1 h1 ho hp) g.2.2.2.2.2.2.1, vi_ff_map (fun o x ho hp => vi_path_set1 h1 ho hp) g.2.2.2.2.2.2.2⟩
  · rw [if_neg c1] at hst; cases hst
theorem vi_st_lt {a : VA} {i : Nat} {A : VS} (hst : vi_st na nL i a lo st fa n = some A) : i < nL := by
  unfold vi_st at hst
  by_cases c1 : na ≤ i ∧ i < nL
  · exact c1.2
  · rw [if_neg c1] at hst; cases hst
theorem vi_st_n {a : VA} {i : Nat} {A : VS} (hst : vi_st na nL i a lo st fa n = some A) : A.2.2.2 = n := by
  unfold vi_st at hst
  by_cases c1 : na ≤ i ∧ i < nL
  · rw [if_pos c1] at hst; cases hst; rfl
  · rw [if_neg c1] at hst; cases hst
theorem vi_G_pop {a : VA × VO} {H : Heap} {locs : List Loc} {vs : List Value} {v : Value} (g : vi_G KT D cy Z ad τ nL al A0 H0 (lo, a :: st, fa, n) H locs ls (v :: vs) w) : vi_G KT D cy Z ad τ nL al A0 H0 (lo, st, fa, n) H locs ls vs w := ⟨g.1, g.2.1, g.2.2.1, g.2.2.2.1, g.2.2.2.2.1, g.2.2.2.2.2.1, g.2.2.2.2.2.2.1.2.2, g.2.2.2.2.2.2.2⟩
theorem vi_G_push {a : VA × VO} {H : Heap} {locs : List Loc} {vs : List Value} {v : Value} (g : vi_G KT D cy Z ad τ nL al A0 H0 (lo, st, fa, n) H locs ls vs w) (ha : vi_ok ad τ a.1 v) (hp : vi_path τ ls w a.2 v) : vi_G KT D cy Z ad τ nL al A0 H0 (lo, a :: st, fa, n) H locs ls (v :: vs) w := ⟨g.1, g.2.1, g.2.2.1, g.2.2.2.1, g.2.2.2.2.1, g.2.2.2.2.2.1, ⟨ha, hp, g.2.2.2.2.2.2.1⟩, g.2.2.2.2.2.2.2⟩
theorem vr_lstore_n (hal : ∀ q ∈ al, q.1 < na ∧ q.2.category = 1) (hx : p.tables.exec = Jvm.exec) (hb : c.code = cc) {i : Fin 4} (hd : decode cc pc = .ok (.lstore_n i, 1)) {a : VA} {o : VO} {A : VS} (h1 : a.1 = 4) (h : vi_st2 na nL i lo st fa n = some A) (k : vi_W p l e R s m args below meth c Q KT nL al D cy Z ad τ A0 H0 (pc + 1) A) : vi_W p l e R s m args below meth c Q KT nL al D cy Z ad τ A0 H0 pc (lo, (a, o) :: st, fa, n) := by
  intro H locs ls vs w g
  obtain ⟨v, vs, rfl, e1, e2, e3⟩ := vi_stk_c g.2.2.2.2.2.2.1
  have g' := vi_G_pop g
  obtain ⟨x, rfl⟩ := vi_l h1 e1
  unfold vi_st2 at h
  by_cases c1 : na ≤ (i : Nat) ∧ (i : Nat) + 1 < nL
  · rw [if_pos c1] at h
    cases h
    refine lv_lstore_n hx hb hd rfl (vi_held_has (vi_has_nil g.2.2.2.2.1)) c1.2 rfl (fun ls2 h2 => ?_)
    have hl := vi_ls2_of g.2.2.2.2.1.1 h2
    exact k H locs ls2 vs w ⟨g'.1, g'.2.1, g'.2.2.1, g'.2.2.2.1, vi_has_al2 hal c1.1 g.2.2.2.2.1 h2, vi_lo_set2 g'.2.2.2.2.2.1 hl ⟨x, rfl⟩, vi_stk_map (f := fun o => vi_free i o && vi_free (i + 1) o) (fun o x ho hp => vi_path_set2 hl ho hp) g'.2.2.2.2.2.2.1, vi_ff_map (f := fun o => vi_free i o && vi_free (i + 1) o) (fun o x ho hp => vi_path_set2 hl ho hp) g'.2.2.2.2.2.2.2⟩
  · rw [if_neg c1] at h; cases h
theorem vi_map1 {α β : Type} {f : α → β} {o : Option α} {b : β} (h : o.map f = some b) : ∃ a, o = some a ∧ f a = b := by
  cases o with
  | none => cases h
  | some a => exact ⟨a, rfl, Option.some.inj h⟩
theorem vr_istore_n (hal : ∀ q ∈ al, q.1 < na ∧ q.2.category = 1) (hx : p.tables.exec = Jvm.exec) (hb : c.code = cc) {i : Fin 4} (hd : decode cc pc = .ok (.istore_n i, 1)) {a : VA} {o : VO} {A : VS} (h1 : a.1 = 1) (h : vi_st na nL i a lo st fa n = some A) (k : vi_W p l e R s m args below meth c Q KT nL al D cy Z ad τ A0 H0 (pc + 1) A) : vi_W p l e R s m args below meth c Q KT nL al D cy Z ad τ A0 H0 pc (lo, (a, o) :: st, fa, n) := by
  intro H locs ls vs w g
  obtain ⟨v, vs, rfl, e1, e2, e3⟩ := vi_stk_c g.2.2.2.2.2.2.1
  have g' := vi_G_pop g
  have hn := vi_st_n h
  obtain ⟨x, rfl, -⟩ := vi_i h1 e1
  refine lv_istore_n hx hb hd rfl (vi_held_has (vi_has_nil g.2.2.2.2.1)) (vi_st_lt h) rfl (fun ls2 h2 => ?_)
  have := k H locs ls2 vs w (vi_G_st (o := o) hal h g' e1 h2)
  rw [hn] at this
  exact this
theorem vr_istore (hal : ∀ q ∈ al, q.1 < na ∧ q.2.category = 1) (hx : p.tables.exec = Jvm.exec) (hb : c.code = cc) {i : Nat} (hd : decode cc pc = .ok (.istore i, 2)) {a : VA} {o : VO} {A : VS} (h1 : a.1 = 1) (h : vi_st na nL i a lo st fa n = some A) (k : vi_W p l e R s m args below meth c Q KT nL al D cy Z ad τ A0 H0 (pc + 2) A) : vi_W p l e R s m args below meth c Q KT nL al D cy Z ad τ A0 H0 pc (lo, (a, o) :: st, fa, n) := by
  intro H locs ls vs w g
  obtain ⟨v, vs, rfl, e1, e2, e3⟩ := vi_stk_c g.2.2.2.2.2.2.1
  have g' := vi_G_pop g
  have hn := vi_st_n h
  obtain ⟨x, rfl, -⟩ := vi_i h1 e1
  refine lv_istore hx hb hd (vi_held_has (vi_has_nil g.2.2.2.2.1)) (vi_st_lt h) rfl (fun ls2 h2 => ?_)
  have := k H locs ls2 vs w (vi_G_st (o := o) hal h g' e1 h2)
  rw [hn] at this
  exact this
theorem vr_astore_n (hal : ∀ q ∈ al, q.1 < na ∧ q.2.category = 1) (hx : p.tables.exec = Jvm.exec) (hb : c.code = cc) {i : Fin 4} (hd : decode cc pc = .ok (.astore_n i, 1)) {a : VA} {o : VO} {A : VS} (h1 : a.1 = 2 ∨ a.1 = 3) (h : vi_st na nL i a lo st fa n = some A) (k : vi_W p l e R s m args below meth c Q KT nL al D cy Z ad τ A0 H0 (pc + 1) A) : vi_W p l e R s m args below meth c Q KT nL al D cy Z ad τ A0 H0 pc (lo, (a, o) :: st, fa, n) := by
  intro H locs ls vs w g
  obtain ⟨v, vs, rfl, e1, e2, e3⟩ := vi_stk_c g.2.2.2.2.2.2.1
  have g' := vi_G_pop g
  have hn := vi_st_n h
  rcases vi_r h1 e1 with rfl | ⟨b, rfl⟩
  · refine lv_astore_nN hx hb hd rfl (vi_held_has (vi_has_nil g.2.2.2.2.1)) (vi_st_lt h) rfl (fun ls2 h2 => ?_)
    have := k H locs ls2 vs w (vi_G_st (o := o) hal h g' e1 h2)
    rw [hn] at this
    exact this
  · refine lv_astore_n hx hb hd rfl (vi_held_has (vi_has_nil g.2.2.2.2.1)) (vi_st_lt h) rfl (fun ls2 h2 => ?_)
    have := k H locs ls2 vs w (vi_G_st (o := o) hal h g' e1 h2)
    rw [hn] at this
    exact this
theorem vr_astore (hal : ∀ q ∈ al, q.1 < na ∧ q.2.category = 1) (hx : p.tables.exec = Jvm.exec) (hb : c.code = cc) {i : Nat} (hd : decode cc pc = .ok (.astore i, 2)) {a : VA} {o : VO} {A : VS} (h1 : a.1 = 2 ∨ a.1 = 3) (h : vi_st na nL i a lo st fa n = some A) (k : vi_W p l e R s m args below meth c Q KT nL al D cy Z ad τ A0 H0 (pc + 2) A) : vi_W p l e R s m args below meth c Q KT nL al D cy Z ad τ A0 H0 pc (lo, (a, o) :: st, fa, n) := by
  intro H locs ls vs w g
  obtain ⟨v, vs, rfl, e1, e2, e3⟩ := vi_stk_c g.2.2.2.2.2.2.1
  have g' := vi_G_pop g
  have hn := vi_st_n h
  rcases vi_r h1 e1 with rfl | ⟨b, rfl⟩
  · refine lv_astoreN hx hb hd (vi_held_has (vi_has_nil g.2.2.2.2.1)) (vi_st_lt h) rfl (fun ls2 h2 => ?_)
    have := k H locs ls2 vs w (vi_G_st (o := o) hal h g' e1 h2)
    rw [hn] at this
    exact this
  · refine lv_astore hx hb hd (vi_held_has (vi_has_nil g.2.2.2.2.1)) (vi_st_lt h) rfl (fun ls2 h2 => ?_)
    have := k H locs ls2 vs w (vi_G_st (o := o) hal h g' e1 h2)
    rw [hn] at this
    exact this
theorem vr_iinc (hal : ∀ q ∈ al, q.1 < na ∧ q.2.category = 1) (hx : p.tables.exec = Jvm.exec) (hb : c.code = cc) {i : Nat} {v : Int} (hd : decode cc pc = .ok (.iinc i v, 3)) {a : VA} {A : VS} (ha : lo[i]? = some a) (h1 : a.1 = 1) (hv : -32768 ≤ v ∧ v ≤ 32767) (h : vi_st na nL i (vi_I (a.2.1 + v) (a.2.2 + v)) lo st fa n = some A) (k : vi_W p l e R s m args below meth c Q KT nL al D cy Z ad τ A0 H0 (pc + 3) A) : vi_W p l e R s m args below meth c Q KT nL al D cy Z ad τ A0 H0 pc (lo, st, fa, n) := by
  intro H locs ls vs w g
  obtain ⟨z, e1, e2⟩ := g.2.2.2.2.2.1 i a ha (by omega)
  have hn := vi_st_n h
  obtain ⟨x, rfl, x1, x2⟩ := vi_i h1 e2
  have hm := vi_held_mem (nL := nL) g.2.2.2.2.1.1 e1
  obtain ⟨q, hq⟩ := List.getElem?_of_mem hm
  have ev : (Int32.ofInt v).toInt = v := by rw [Int32.toInt_ofInt, vi_bmod (by omega) (by omega)]
  refine lv_iinc hx hb hd (vi_held_has (vi_has_nil g.2.2.2.2.1)) hq rfl (vi_st_lt h) rfl (fun ls2 h2 => ?_)
  have := k H locs ls2 vs w (vi_G_st (o := vi_o0) hal h g (vi_n_add x1 x2 (by omega) (by omega)) h2)
  rw [hn] at this
  exact this
end VIF
