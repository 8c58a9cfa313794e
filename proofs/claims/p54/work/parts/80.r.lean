section VIR
/-! a method: from the check to its contract -/
/-- kinds that have just one cell -/
def vi_s1 (SG τ : List Nat) : Prop := vi_sg SG τ ∧ ∀ d ∈ SG, ∃ q : Nat, τ[q]? = some d
def vi_ent (ct : VCt) (maxL : Nat) : VS := (ct.1 ++ List.replicate (maxL - ct.1.length) (0, 0, 0), [], ct.2.1, 0)
def vi_spl : List (VO × Int × Int) → VS → List VS
  | [], A => [A]
  | s :: r, A => (List.range (s.2.2 - s.2.1 + 1).toNat).flatMap fun (c : Nat) => vi_spl r (vi_upd s.1 (1, s.2.1 + (c : Int), s.2.1 + (c : Int)) A.1 A.2.1 A.2.2.1 A.2.2.2)
/-- what a split may rest on: the range of a local, or of a field -/
def vi_spx (KT : List VK) (SG : List Nat) (lo : List VA) (s : VO × Int × Int) : Bool :=
  if s.1.1 = 1 then (match lo[s.1.2.1]? with | some a => vi_le a (1, s.2.1, s.2.2) && (a.1 == 1) | none => false)
  else (match (if s.1.1 = 3 then (if s.1.2.1 ∈ SG then some s.1.2.1 else none) else if s.1.1 = 2 then (match lo[s.1.2.1]? with | some a => if a.1 = 3 ∧ a.2.2 = 0 then some a.2.1.toNat else none | none => none) else none) with
    | some d => (match KT[d]? with
      | some k => (k.1 == 0) && (k.2.1 == s.1.2.2.1) && (match k.2.2.2[s.1.2.2.2]? with | some a => vi_le a (1, s.2.1, s.2.2) && (a.1 == 1) | none => false)
      | none => false)
    | none => false)
variable {p : Program} {l : Launch} {e : Env} {R : Room} {s : State} {m : MethodId} {args : Array Value} {below : List Frame} {meth : Method} {c : Code} {Q : State → Prop} {cc : ByteArray} {own : String}
variable {KT : List VK} {SG : List Nat} {na nL : Nat} {al : List (Nat × Value)} {FT : List (Nat × Nat × Nat)} {FP : List (Nat × Nat × Nat × Nat)} {CT C2 : List (Nat × Int)} {D : va_G} {cy : Nat → ClassId} {Z : va_W → Prop} {ad τ : List Nat} {A0 : Nat → Prop} {H0 : Heap}
variable {lo : List VA} {st : List (VA × VO)} {fa : List VF} {n pc NC : Nat} {L : List (Nat × VS)} {ls : Array Slot} {w : va_W} {XP : List Nat} {MT : List (Nat × Bool × Nat × List VCt)} {alts : List VAlt} {av : List Value}
theorem vi_cell0 {k : VK} {e : va_E} (h0 : k.1 = 0) (h : vi_cell ad τ cy k e) : ∃ vs : List Value, e = .inr (k.2.1, vs) ∧ vs.length = k.2.2.2.length ∧ ∀ (i : Nat) (a : VA) (v : Value), k.2.2.2[i]? = some a → vs[i]? = some v → vi_ok ad τ a v := by
  obtain ⟨t, x, y, z⟩ := k
  have h0 : t = 0 := h0
  subst h0
  exact h
theorem vi_spx_ok {H : Heap} {locs : List Loc} {vs : List Value} {A : VS} {sp : VO × Int × Int} (hs : vi_s1 SG τ) (g : vi_G KT D cy Z ad τ nL al A0 H0 A H locs ls vs w) (hl : A.1 = lo) (h : vi_spx KT SG lo sp = true) : ∃ x : Int32, vi_path τ ls w sp.1 (.int x) ∧ sp.2.1 ≤ x.toInt ∧ x.toInt ≤ sp.2.2 := by
  obtain ⟨⟨t, j, ci, k⟩, u, z⟩ := sp
  unfold vi_spx at h
  subst hl
  by_cases c1 : t = 1
  · subst c1
    rw [if_pos rfl] at h
    cases ha : A.1[j]? with
    | none => simp only [ha] at h; cases h
    | some a =>
      simp only [ha, Bool.and_eq_true, beq_iff_eq] at h
      obtain ⟨v, e1, e2⟩ := g.2.2.2.2.2.1 j a ha (by rw [h.2]; decide)
      obtain ⟨x, rfl, x1, x2⟩ := vi_le_ok h.1 e2
      exact ⟨x, e1, x1, x2⟩
  · rw [if_neg c1] at h
    have fin : ∀ (d q b : Nat), τ[q]? = some d → ad[q]? = some b → (match KT[d]? with
      | some k0 => (k0.1 == 0) && (k0.2.1 == ci) && (match k0.2.2.2[k]? with | some a => vi_le a (1, u, z) && (a.1 == 1) | none => false)
      | none => false) = true → ∃ (vs : List Value) (x : Int32), w[q]? = some (b, .inr (ci, vs)) ∧ vs[k]? = some (.int x) ∧ u ≤ x.toInt ∧ x.toInt ≤ z := by
      intro d q b hq hb hk
      obtain ⟨ee, k0, g1, g2, g3⟩ := vi_tw_get g.2.2.2.1 hq hb
      rw [g2] at hk
      simp only [Bool.and_eq_true, beq_iff_eq] at hk
      obtain ⟨⟨h1, h2⟩, h3⟩ := hk
      obtain ⟨vs, rfl, l1, l2⟩ := vi_cell0 h1 g3
      cases ha : k0.2.2.2[k]? with
      | none => rw [ha] at h3; cases h3
      | some a =>
        rw [ha] at h3
        simp only [Bool.and_eq_true, beq_iff_eq] at h3
        have hkl : k < vs.length := by rw [l1]; exact (List.getElem?_eq_some_iff.mp ha).1
        have hv : vs[k]? = some vs[k] := List.getElem?_eq_getElem hkl
        obtain ⟨x, ex, x1, x2⟩ := vi_le_ok h3.1 (l2 k a _ ha hv)
        exact ⟨vs, x, by rw [← h2]; exact g1, by rw [hv, ex], x1, x2⟩
    by_cases c3 : t = 3
    · subst c3
      rw [if_pos rfl] at h
      by_cases c4 : j ∈ SG
      · simp only [if_pos c4] at h
        obtain ⟨q, hq⟩ := hs.2 j c4
        have hlt : q < ad.length := by rw [← g.2.2.2.1.2.1]; exact (List.getElem?_eq_some_iff.mp hq).1
        obtain ⟨vs, x, g1, g2, g3, g4⟩ := fin j q ad[q] hq (List.getElem?_eq_getElem hlt) h
        exact ⟨x, ⟨q, _, vs, hq, g1, g2⟩, g3, g4⟩
      · simp only [if_neg c4] at h; cases h
    · rw [if_neg c3] at h
      by_cases c2 : t = 2
      · subst c2
        rw [if_pos rfl] at h
        cases ha : A.1[j]? with
        | none => simp only [ha] at h; cases h
        | some a =>
          simp only [ha] at h
          by_cases c5 : a.1 = 3 ∧ a.2.2 = 0
          · simp only [if_pos c5] at h
            obtain ⟨v, e1, e2⟩ := g.2.2.2.2.2.1 j a ha (by rw [c5.1]; decide)
            obtain ⟨q, b, rfl, h1, h2⟩ := vi_nn c5.1 c5.2 e2
            obtain ⟨vs, x, g1, g2, g3, g4⟩ := fin _ q b h1 h2 h
            exact ⟨x, ⟨q, b, vs, e1, g1, g2⟩, g3, g4⟩
          · simp only [if_neg c5] at h; cases h
      · rw [if_neg c2] at h; cases h
/-- a state is one of its split's -/
theorem vi_spl_ok {H : Heap} {locs : List Loc} {vs : List Value} : ∀ {sp : List (VO × Int × Int)} {A : VS}, vi_G KT D cy Z ad τ nL al A0 H0 A H locs ls vs w → (∀ q ∈ sp, ∃ x : Int32, vi_path τ ls w q.1 (.int x) ∧ q.2.1 ≤ x.toInt ∧ x.toInt ≤ q.2.2) →
    ∃ B ∈ vi_spl sp A, vi_G KT D cy Z ad τ nL al A0 H0 B H locs ls vs w ∧ B.2.2.2 = A.2.2.2
  | [], A, g, _ => ⟨A, List.mem_singleton.mpr rfl, g, rfl⟩
  | q :: r, A, g, hq => by
    obtain ⟨x, x0, x1, x2⟩ := hq q List.mem_cons_self
    have e : q.2.1 + (((x.toInt - q.2.1).toNat : Nat) : Int) = x.toInt := by omega
    have g1 := vi_G_upd (lo := A.1) (st := A.2.1) (fa := A.2.2.1) (n := A.2.2.2) g (a := (1, q.2.1 + (((x.toInt - q.2.1).toNat : Nat) : Int), q.2.1 + (((x.toInt - q.2.1).toNat : Nat) : Int))) x0 (by rw [e]; exact vi_cst x rfl)
    obtain ⟨B, b1, b2, b3⟩ := vi_spl_ok g1 (fun q2 h2 => hq q2 (List.mem_cons_of_mem _ h2))
    refine ⟨B, ?_, b2, b3.trans vi_upd_n⟩
    unfold vi_spl
    exact List.mem_flatMap.mpr ⟨(x.toInt - q.2.1).toNat, List.mem_range.mpr (by omega), b1⟩
theorem vi_args_mem : ∀ {av : List Value} {i j : Nat} {v : Value}, (∀ v ∈ av, v.category = 1) → av[j]? = some v → (i + j, v) ∈ lv_args i av
  | [], i, j, v, _, h => by cases h
  | a :: av, i, j, v, hc, h => by
    unfold lv_args
    cases j with
    | zero => cases h; exact List.mem_cons_self
    | succ j =>
      refine List.mem_cons_of_mem _ ?_
      rw [if_neg (by rw [hc a List.mem_cons_self]; decide), show i + (j + 1) = (i + 1) + j by omega]
      exact vi_args_mem (fun x hx => hc x (List.mem_cons_of_mem _ hx)) h
theorem vi_sl_len : ∀ {av : List Value}, (∀ v ∈ av, v.category = 1) → (lg_sl av).length = av.length
  | [], _ => rfl
  | a :: av, hc => by
    have h1 := hc a List.mem_cons_self
    unfold lg_sl
    rw [List.flatMap_cons, if_neg (by omega), List.length_append]
    have := vi_sl_len (av := av) (fun x hx => hc x (List.mem_cons_of_mem _ hx))
    unfold lg_sl at this
    rw [this]
    simp; omega
/-- the arguments' words -/
def vi_c1 (ct : VCt) : Bool := ct.1.all fun a => (a.1 == 1) || (a.1 == 2) || (a.1 == 3)
theorem vi_c1_ok {ct : VCt} (h : vi_c1 ct = true) (hl : av.length = ct.1.length) (ht : ∀ (j : Nat) (a : VA) (x : Value), ct.1[j]? = some a → av[j]? = some x → vi_ok ad τ a x) : ∀ v ∈ av, v.category = 1 := by
  intro v hv
  obtain ⟨j, hj⟩ := List.getElem?_of_mem hv
  have hlt : j < ct.1.length := by rw [← hl]; exact (List.getElem?_eq_some_iff.mp hj).1
  have ha : ct.1[j]? = some ct.1[j] := List.getElem?_eq_getElem hlt
  have h1 := List.all_eq_true.mp h _ (List.mem_of_getElem? ha)
  simp only [Bool.or_eq_true, beq_iff_eq] at h1
  exact vi_cat (ht j _ v ha hj) (by omega) (by omega)
/-- the state in which a method begins -/
theorem vi_entry {ct : VCt} {H : Heap} {maxL : Nat} (h1 : vi_c1 ct = true) (hl : av.length = ct.1.length) (hm : ct.1.length ≤ maxL) (ht : ∀ (j : Nat) (a : VA) (x : Value), ct.1[j]? = some a → av[j]? = some x → vi_ok ad τ a x) (hf : ∀ f ∈ ct.2.1, vi_fact ad τ (vi_av av) w f) (hfp : ct.2.1.all (fun f => (f.1.1 == 2) || (f.1.1 == 3)) = true)
    (hls : lv_has ls maxL (lv_args 0 av)) (p1 : va_P D vwCl w H) (p2 : va_D A0 w) (p3 : va_S A0 H0 H []) (p4 : vi_tw KT cy Z ad τ w) : vi_G KT D cy Z ad τ maxL (vi_al av) A0 H0 (vi_ent ct maxL) H [] ls [] w := by
  have hcat := vi_c1_ok h1 hl ht
  have hat : ∀ (j : Nat) (v : Value), av[j]? = some v → ls[j]? = some (.val v) := fun j v hv => by
    have := hls.2.2 _ (vi_args_mem (i := 0) hcat hv)
    rw [Nat.zero_add] at this
    exact this
  refine ⟨p1, p2, p3, p4, ⟨hls.1, hls.2.1, fun q hq => ?_⟩, fun i a ha h0 => ?_, trivial, fun f hf2 => ?_⟩
  · obtain ⟨j, -, hj⟩ := List.mem_filterMap.mp hq
    cases hv : av[j]? with
    | none => rw [hv] at hj; cases hj
    | some v => rw [hv] at hj; cases hj; exact hat j v hv
  · have ha : (ct.1 ++ List.replicate (maxL - ct.1.length) (0, 0, 0))[i]? = some a := ha
    by_cases hi : i < ct.1.length
    · rw [List.getElem?_append_left hi] at ha
      have hv : av[i]? = some (av[i]'(by omega)) := List.getElem?_eq_getElem (by omega)
      exact ⟨_, hat i _ hv, ht i a _ ha hv⟩
    · rw [List.getElem?_append_right (by omega)] at ha
      have := List.eq_of_mem_replicate (List.mem_of_getElem? ha)
      rw [this] at h0
      exact absurd rfl h0
  · obtain ⟨v, h2, h3⟩ := hf f hf2
    refine ⟨v, ?_, h3⟩
    have h4 := List.all_eq_true.mp hfp f hf2
    simp only [Bool.or_eq_true, beq_iff_eq] at h4
    obtain ⟨⟨t, j, ci, k⟩, fv⟩ := f
    rcases h4 with h4 | h4
    · have h4 : t = 2 := h4
      subst h4
      obtain ⟨q, a, vs, e1, e2, e3⟩ := h2
      exact ⟨q, a, vs, hat j _ (vi_av_at.mp e1), e2, e3⟩
    · have h4 : t = 3 := h4
      subst h4
      exact h2
/-- the whole check of a method -/
def vi_chk (KT : List VK) (SG : List Nat) (maxL NC : Nat) (FT : List (Nat × Nat × Nat)) (FP : List (Nat × Nat × Nat × Nat)) (CT C2 : List (Nat × Int)) (XP : List Nat) (MT : List (Nat × Bool × Nat × List VCt)) (cc : ByteArray) (J : List Nat) (f : Nat) (pts : List (Nat × VS)) (ct : VCt) (sp : List (VO × Int × Int)) : Bool :=
  vi_c1 ct && Nat.ble ct.1.length maxL && ct.2.1.all (fun f => (f.1.1 == 2) || (f.1.1 == 3)) && sp.all (vi_spx KT SG (vi_ent ct maxL).1) && (vi_spl sp (vi_ent ct maxL)).all (fun E => pts.any fun t => (t.1 == 0) && vi_sub E t.2) &&
    vi_pts KT SG ct.1.length maxL NC FT FP CT C2 XP MT ct.2.2.1 cc J f pts
/-- the check, but for the points -/
def vi_chk0 (KT : List VK) (SG : List Nat) (maxL : Nat) (pts : List (Nat × VS)) (ct : VCt) (sp : List (VO × Int × Int)) : Bool :=
  vi_c1 ct && Nat.ble ct.1.length maxL && ct.2.1.all (fun f => (f.1.1 == 2) || (f.1.1 == 3)) && sp.all (vi_spx KT SG (vi_ent ct maxL).1) && (vi_spl sp (vi_ent ct maxL)).all (fun E => pts.any fun t => (t.1 == 0) && vi_sub E t.2)
theorem vi_chk_of {J : List Nat} {f maxL : Nat} {pts : List (Nat × VS)} {ct : VCt} {sp : List (VO × Int × Int)} (h0 : vi_chk0 KT SG maxL pts ct sp = true) (h : vi_pts KT SG ct.1.length maxL NC FT FP CT C2 XP MT ct.2.2.1 cc J f pts = true) : vi_chk KT SG maxL NC FT FP CT C2 XP MT cc J f pts ct sp = true := by
  unfold vi_chk
  unfold vi_chk0 at h0
  rw [h0, h]; rfl
theorem vi_chk_ok {J : List Nat} {f maxL : Nat} {pts : List (Nat × VS)} {ct : VCt} {sp : List (VO × Int × Int)} {H : Heap} (h : vi_chk KT SG maxL NC FT FP CT C2 XP MT cc J f pts ct sp = true) (hs : vi_s1 SG τ) (hl : av.length = ct.1.length) (ht : ∀ (j : Nat) (a : VA) (x : Value), ct.1[j]? = some a → av[j]? = some x → vi_ok ad τ a x) (hf : ∀ f ∈ ct.2.1, vi_fact ad τ (vi_av av) w f)
    (hls : lv_has ls maxL (lv_args 0 av)) (p1 : va_P D vwCl w H) (p2 : va_D A0 w) (p3 : va_S A0 H0 H []) (p4 : vi_tw KT cy Z ad τ w)
    (hA : (∀ v ∈ av, v.category = 1) → vi_All p l e R s m args below meth c Q own KT SG maxL NC FT FP CT C2 XP MT cc D cy Z ad τ A0 H0 av ct.2.2.1) : W p l e R s m args below meth c H [] 0 0 Q (F0 m 0 ls []) := by
  simp only [vi_chk, Bool.and_eq_true, Nat.ble_eq] at h
  obtain ⟨⟨⟨⟨⟨h1, h2⟩, h3⟩, h4⟩, h5⟩, h6⟩ := h
  have g := vi_entry (D := D) (H0 := H0) (A0 := A0) h1 hl h2 ht hf h3 hls p1 p2 p3 p4
  obtain ⟨B, b1, b2, b3⟩ := vi_spl_ok (sp := sp) g (fun q hq => vi_spx_ok hs g rfl (List.all_eq_true.mp h4 q hq))
  obtain ⟨t, t1, t2⟩ := List.any_eq_true.mp (List.all_eq_true.mp h5 B b1)
  simp only [Bool.and_eq_true, beq_iff_eq] at t2
  have hw := vi_pts_ok (hA (vi_c1_ok h1 hl ht)) hl.symm h6 t t1
  rw [t2.1] at hw
  have hk := vi_sub_ok t2.2 hw H [] ls [] w b2
  rw [b3] at hk
  exact hk
end VIR
