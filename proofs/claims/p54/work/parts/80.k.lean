section VIK
/-! calls, ends, and whole bodies -/
/-- one way in which a method ends: its answer ([] none), what is known of its arguments, of their fields, of the answer's fields -/
abbrev VAlt : Type := List VA × List VA × List VF × List VF
/-- what a method is told: arguments, facts; how it ends; which fields it may write; how many throwing calls it pays -/
abbrev VCt : Type := List VA × List VF × List VAlt × List (Nat × Nat × Nat) × Nat
def vi_av (av : List Value) : Array Slot := (av.map Slot.val).toArray
def vi_km (M : List (Nat × Nat × Nat)) (o : VO) : Bool := (o.1 == 0) || (o.1 == 1) || !(M.any fun q => (q.1 == o.2.2.1) && (q.2.1 == o.2.2.2) && (!(o.1 == 3) || (q.2.2 == o.2.1)))
def vi_alt (ad τ : List Nat) (av : List Value) (w : va_W) (alt : VAlt) (v : Option Value) : Prop :=
  (match alt.1 with
    | [] => v = none
    | a :: _ => ∃ x : Value, v = some x ∧ vi_ok ad τ a x ∧ ∀ f ∈ alt.2.2.2, vi_fact ad τ (vi_av [x]) w f) ∧
  (∀ (j : Nat) (a : VA) (x : Value), alt.2.1[j]? = some a → av[j]? = some x → vi_ok ad τ a x) ∧ ∀ f ∈ alt.2.2.1, vi_fact ad τ (vi_av av) w f
/-- arrays of cells stay as they are -/
def vi_refs (w w1 : va_W) : Prop := ∀ (q a : Nat) (cA : ClassId) (N : Nat) (f : Nat → Option Nat), w[q]? = some (a, .inl (cA, N, .inr (.inr (.inr (.inr f))))) → w1[q]? = some (a, .inl (cA, N, .inr (.inr (.inr (.inr f)))))
/-- by kinds: the fields that nothing writes stay, the arrays of ints that nothing writes likewise -/
def vi_kp (τ : List Nat) (M : List (Nat × Nat × Nat)) (w w1 : va_W) : Prop :=
  (∀ (q d a ci : Nat) (vs : List Value), τ[q]? = some d → w[q]? = some (a, .inr (ci, vs)) → ∃ v1, w1[q]? = some (a, .inr (ci, v1)) ∧ v1.length = vs.length ∧ ∀ k : Nat, (ci, k, d) ∉ M → v1[k]? = vs[k]?) ∧
  ∀ (q d a : Nat) (cA : ClassId) (N : Nat) (f : Nat → Int32), τ[q]? = some d → (200, d, 0) ∉ M → w[q]? = some (a, .inl (cA, N, .inl f)) → w1[q]? = some (a, .inl (cA, N, .inl f))
theorem vi_kp_rf {τ : List Nat} {M : List (Nat × Nat × Nat)} {w : va_W} : vi_kp τ M w w := ⟨fun _ _ _ _ vs _ h => ⟨vs, h, rfl, fun _ _ => rfl⟩, fun _ _ _ _ _ _ _ _ h => h⟩
theorem vi_kp_tr {τ : List Nat} {M M2 : List (Nat × Nat × Nat)} {w w1 w2 : va_W} (hM : ∀ q ∈ M2, q ∈ M) (h : vi_kp τ M w w1) (h2 : vi_kp τ M2 w1 w2) : vi_kp τ M w w2 := ⟨fun q d a ci vs ht hw => by
  obtain ⟨v1, a1, b1, c1⟩ := h.1 q d a ci vs ht hw
  obtain ⟨v2, a2, b2, c2⟩ := h2.1 q d a ci v1 ht a1
  exact ⟨v2, a2, b2.trans b1, fun k hk => (c2 k (fun z => hk (hM _ z))).trans (c1 k hk)⟩, fun q d a cA N f ht hd hw => h2.2 q d a cA N f ht (fun z => hd (hM _ z)) (h.2 q d a cA N f ht hd hw)⟩
theorem vi_kp_put {τ : List Nat} {M : List (Nat × Nat × Nat)} {w w2 : va_W} {q a ci k d : Nat} {fs : List Value} {v : Value} (hz : vi_kp τ M w w2) (hq : w2[q]? = some (a, .inr (ci, fs))) (ht : τ[q]? = some d) (hM : (ci, k, d) ∈ M) : vi_kp τ M w (w2.set q (a, .inr (ci, fs.set k v))) := ⟨fun q9 d9 a9 c9 vs ht9 hw9 => by
  obtain ⟨v1, a1, b1, c1⟩ := hz.1 q9 d9 a9 c9 vs ht9 hw9
  by_cases c : q = q9
  · rw [← c] at a1 ht9 ⊢
    have e := Option.some.inj (a1.symm.trans hq)
    injection e with e1 e2
    injection e2 with e3
    injection e3 with e4 e5
    have e6 : d9 = d := Option.some.inj (ht9.symm.trans ht)
    refine ⟨fs.set k v, by rw [e1, e4]; exact List.getElem?_set_self (List.getElem?_eq_some_iff.mp hq).1, by rw [List.length_set, ← e5]; exact b1, fun k9 h9 => ?_⟩
    rw [List.getElem?_set_ne (fun z => h9 (by rw [← z, e4, e6]; exact hM)), ← e5]
    exact c1 k9 h9
  · exact ⟨v1, by rw [List.getElem?_set_ne c]; exact a1, b1, c1⟩, fun q9 d9 a9 cA N f ht9 hd9 hw9 => by
  have h8 := hz.2 q9 d9 a9 cA N f ht9 hd9 hw9
  by_cases c : q = q9
  · rw [c, h8] at hq
    cases hq
  · rw [List.getElem?_set_ne c]
    exact h8⟩
theorem vi_kp_arr {τ : List Nat} {M : List (Nat × Nat × Nat)} {w w2 : va_W} {q a d N : Nat} {cB : ClassId} {x y : Nat → Int32} (hz : vi_kp τ M w w2) (hq : w2[q]? = some (a, .inl (cB, N, .inl x))) (ht : τ[q]? = some d) (hM : (200, d, 0) ∈ M) : vi_kp τ M w (w2.set q (a, .inl (cB, N, .inl y))) := ⟨fun q9 d9 a9 c9 vs ht9 hw9 => by
  obtain ⟨v1, a1, b1, c1⟩ := hz.1 q9 d9 a9 c9 vs ht9 hw9
  by_cases c : q = q9
  · rw [c, a1] at hq
    cases hq
  · exact ⟨v1, by rw [List.getElem?_set_ne c]; exact a1, b1, c1⟩, fun q9 d9 a9 cA N9 f ht9 hd9 hw9 => by
  have h8 := hz.2 q9 d9 a9 cA N9 f ht9 hd9 hw9
  by_cases c : q = q9
  · rw [← c] at ht9
    rw [Option.some.inj (ht9.symm.trans ht)] at hd9
    exact absurd hM hd9
  · rw [List.getElem?_set_ne c]
    exact h8⟩
theorem vi_aw_M {FP : List (Nat × Nat × Nat × Nat)} {M : List (Nat × Nat × Nat)} {d : Nat} (hM : ∀ q ∈ FP, q.2 ∈ M) (h : vi_aw FP d = true) : (200, d, 0) ∈ M := by
  obtain ⟨⟨i, a, b, c⟩, h1, h2⟩ := List.any_eq_true.mp h
  simp only [Bool.and_eq_true, beq_iff_eq] at h2
  obtain ⟨⟨rfl, rfl⟩, rfl⟩ := h2
  exact hM _ h1
def vi_kept (τ : List Nat) (M : List (Nat × Nat × Nat)) (w w1 : va_W) : Prop := (∀ (ls : Array Slot) (o : VO) (x : Value), vi_km M o = true → vi_path τ ls w o x → vi_path τ ls w1 o x) ∧ vi_refs w w1 ∧ vi_kp τ M w w1
/-- a path of an argument, in the caller's words -/
def vi_tr (args : List (VA × VO)) (o : VO) : VO := if o.1 = 3 then o else if o.1 = 2 then (match args[o.2.1]? with | some q => if q.2.1 = 1 then (2, q.2.2.1, o.2.2.1, o.2.2.2) else vi_o0 | none => vi_o0) else vi_o0
def vi_all2 : List VA → List (VA × VO) → Bool
  | [], [] => true
  | a :: as, b :: bs => vi_le b.1 a && vi_all2 as bs
  | _, _ => false
def vi_has (fa : List VF) (o : VO) (a : VA) : Bool := !(o.1 == 0) && (fa.any fun g => (g.1 == o) && vi_le g.2 a)
def vi_pre (ct : VCt) (args : List (VA × VO)) (fa : List VF) : Bool := vi_all2 ct.1 args && ct.2.1.all (fun f => vi_has fa (vi_tr args f.1) f.2)
/-- the arguments, better known -/
def vi_ra (km : VO → Bool) : List (VA × VO) → List VA → VS → VS
  | q :: qs, a :: as, A => vi_ra km qs as (if a.1 = 0 then A else vi_upd (vi_fo km q.2) a A.1 A.2.1 A.2.2.1 A.2.2.2)
  | _, _, A => A
def vi_nf (args : List (VA × VO)) (fs : List VF) : List VF := fs.filterMap fun f => if (vi_tr args f.1).1 = 0 then none else some (vi_tr args f.1, f.2)
def vi_aft (ct : VCt) (alt : VAlt) (args rest : List (VA × VO)) (lo : List VA) (fa : List VF) (n : Nat) : VS :=
  vi_ra (vi_km ct.2.2.2.1) args alt.2.1 (lo, vi_fs (vi_km ct.2.2.2.1) rest, vi_nf args alt.2.2.1 ++ vi_ff (vi_km ct.2.2.2.1) fa, n + ct.2.2.2.2)
def vi_ab (o : VO) (i : Nat) : VO := if o.1 = 2 ∧ o.2.1 = 0 then (2, i, o.2.2.1, o.2.2.2) else vi_o0
def vi_ast (cc : ByteArray) (pc : Nat) : Option (Nat × Nat) := match decode cc pc with | .ok (.astore_n i, 1) => some (i, 1) | .ok (.astore i, 2) => some (i, 2) | _ => none
/-- the roads behind a call that ends so -/
def vi_res (cc : ByteArray) (na nL pc : Nat) (alt : VAlt) (A : VS) : Option (Nat × VS) :=
  match alt.1 with
  | [] => some (pc + 3, A)
  | a :: _ => match alt.2.2.2 with
    | [] => some (pc + 3, A.1, (a, vi_o0) :: A.2.1, A.2.2.1, A.2.2.2)
    | _ :: _ => if a.1 = 3 then (match vi_ast cc (pc + 3) with
      | some (i, k) => (vi_st na nL i a A.1 A.2.1 A.2.2.1 A.2.2.2).map fun B => (pc + 3 + k, B.1, B.2.1, (alt.2.2.2.filterMap fun f => if (vi_ab f.1 i).1 = 0 then none else some (vi_ab f.1 i, f.2)) ++ B.2.2.1, B.2.2.2)
      | none => none) else none
/-- does a state suit one of the ends? -/
def vi_end (alts : List VAlt) (ret : Option (VA × VO)) (na : Nat) (lo : List VA) (fa : List VF) : Bool :=
  alts.any fun alt => (match alt.1, ret with
    | [], none => true
    | a :: _, some b => vi_le b.1 a && alt.2.2.2.all (fun f => (b.2.1 == 1) && !((vi_ab f.1 b.2.2.1).1 == 0) && vi_has fa (vi_ab f.1 b.2.2.1) f.2)
    | _, _ => false) && ((List.range alt.2.1.length).all fun j => match alt.2.1[j]?, lo[j]? with
      | some a, some b => (a.1 == 0) || (vi_le b a && decide (j < na))
      | some a, none => (a.1 == 0)
      | none, _ => true) && alt.2.2.1.all (fun f => vi_has fa f.1 f.2 && ((f.1.1 == 3) || ((f.1.1 == 2) && decide (f.1.2.1 < na))))
/-- is a state one of those of a listed point? -/
def vi_sub (A B : VS) : Bool := (A.2.2.2 == B.2.2.2) && (A.1.length == B.1.length) && (vi_all2 B.1 (A.1.map fun a => (a, vi_o0))) && (A.2.1.length == B.2.1.length) && ((A.2.1.zip B.2.1).all fun q => vi_le q.1.1 q.2.1 && ((q.2.2.1 == 0) || (q.2.2 == q.1.2))) && B.2.2.1.all (fun f => vi_has A.2.2.1 f.1 f.2)
end VIK
