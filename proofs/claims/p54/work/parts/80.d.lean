section VID
/-! one instruction -/
def vi_le (a b : VA) : Bool := (b.1 == 0) || ((a.1 == 1) && (b.1 == 1) && decide (b.2.1 ≤ a.2.1) && decide (a.2.2 ≤ b.2.2)) || ((a.1 == 2) && (b.1 == 2)) || ((a.1 == 2) && (b.1 == 3) && !(b.2.2 == 0)) || ((a.1 == 3) && (b.1 == 3) && (a.2.1 == b.2.1) && ((a.2.2 == 0) || !(b.2.2 == 0))) || ((a.1 == b.1) && Nat.ble 4 a.1 && ((a.1 == 4) || (a.1 == 5) || Nat.ble 6 a.1) && Nat.ble a.1 6)
theorem vi_le_ok {ad τ : List Nat} {a b : VA} {v : Value} (h : vi_le a b = true) (ha : vi_ok ad τ a v) : vi_ok ad τ b v := by
  obtain ⟨t, x, y⟩ := a
  obtain ⟨u, c, d⟩ := b
  simp only [vi_le, Bool.or_eq_true, Bool.and_eq_true, beq_iff_eq, decide_eq_true_eq, Bool.not_eq_true', beq_eq_false_iff_ne, Nat.ble_eq] at h
  rcases h with ((((h | h) | h) | h) | h) | h
  · subst h; exact trivial
  · obtain ⟨⟨⟨rfl, rfl⟩, h1⟩, h2⟩ := h
    obtain ⟨z, e, z1, z2⟩ := ha
    exact ⟨z, e, Int.le_trans h1 z1, Int.le_trans z2 h2⟩
  · obtain ⟨rfl, rfl⟩ := h; exact ha
  · obtain ⟨⟨rfl, rfl⟩, h1⟩ := h
    exact Or.inl ⟨h1, ha⟩
  · obtain ⟨⟨⟨rfl, rfl⟩, rfl⟩, h1⟩ := h
    rcases ha with ⟨h2, e⟩ | h2
    · rcases h1 with h1 | h1
      · exact absurd h1 h2
      · exact Or.inl ⟨h1, e⟩
    · exact Or.inr h2
  · obtain ⟨⟨⟨rfl, h1⟩, h2⟩, h3⟩ := h
    have h3 : t ≤ 6 := h3
    have h1 : 4 ≤ t := h1
    match t, h1, h3, ha with
    | 4, _, _, ha => exact ha
    | 5, _, _, ha => exact ha
    | 6, _, _, ha => exact ha
def vi_o0 : VO := (0, 0, 0, 0)
def vi_mk (lo : List VA) (st : List (VA × VO)) (fa : List VF) (n : Nat) : VS := (lo, st, fa, n)
/-- a value is known better: where it came from -/
def vi_upd (o : VO) (a : VA) (lo : List VA) (st : List (VA × VO)) (fa : List VF) (n : Nat) : VS :=
  if o.1 = 1 then (lo.set o.2.1 a, st, fa, n) else if o.1 = 2 ∨ o.1 = 3 then (lo, st, (o, a) :: fa.filter (fun q => !(q.1 == o)), n) else (lo, st, fa, n)
def vi_find {α : Type} (l : List (Nat × α)) (i : Nat) : Option α := match l with | [] => none | q :: r => if q.1 == i then some q.2 else vi_find r i
theorem vi_find_mem {α : Type} {i : Nat} {a : α} : ∀ {l : List (Nat × α)}, vi_find l i = some a → (i, a) ∈ l
  | [], h => by cases h
  | q :: r, h => by
    unfold vi_find at h
    by_cases c : (q.1 == i) = true
    · rw [if_pos c] at h
      cases h
      have : q.1 = i := by simpa using c
      subst this
      exact List.mem_cons_self
    · rw [if_neg c] at h
      exact List.mem_cons_of_mem _ (vi_find_mem h)
def vi_fget (fa : List VF) (o : VO) (d : VA) : VA := match fa with | [] => d | q :: r => if q.1 == o then q.2 else vi_fget r o d
def vi_fval (fa : List VF) (o : VO) (d : VA) : VA := if o.1 = 0 then d else vi_fget fa o d
/-- where field k of class ci is, of a cell of kind d that came by o -/
def vi_src (SG : List Nat) (d ci k : Nat) (o : VO) : VO := if d ∈ SG then (3, d, ci, k) else if o.1 = 1 then (2, o.2.1, ci, k) else vi_o0
def vi_tgt (pc : Nat) (off : Int) : Nat := ((pc : Int) + off).toNat
def vi_tok (pc : Nat) (off : Int) : Bool := decide (0 ≤ (pc : Int) + off)
theorem vi_tgt_ok {pc : Nat} {off : Int} (h : vi_tok pc off = true) : (pc : Int) + off = (vi_tgt pc off : Nat) := by
  have h1 : 0 ≤ (pc : Int) + off := by simpa [vi_tok] using h
  unfold vi_tgt
  omega
/-- a comparison of two ints, both roads: those that can be -/
def vi_br (c : ClassFile.Cond) (a b : VA) (oa ob : VO) (t f : Nat) (lo : List VA) (st : List (VA × VO)) (fa : List VF) (n : Nat) : List (Nat × VS) :=
  let g := fun (c : ClassFile.Cond) (t : Nat) => 
    let r := vi_cmp c a b
    if r.1.2.1 ≤ r.1.2.2 ∧ r.2.2.1 ≤ r.2.2.2 then
      let A := vi_upd oa r.1 lo st fa n
      [(t, vi_upd ob r.2 A.1 A.2.1 A.2.2.1 A.2.2.2)] else []
  g c t ++ g (vi_neg c) f
def vi_st (na nL i : Nat) (a : VA) (lo : List VA) (st : List (VA × VO)) (fa : List VF) (n : Nat) : Option VS := if na ≤ i ∧ i < nL then some (vi_set1 lo i a, vi_fs (vi_free i) st, vi_ff (vi_free i) fa, n) else none
/-- the paths that a write of field k of class ci leaves -/
def vi_keep (d ci k : Nat) (o : VO) : Bool := (o.1 == 0) || (o.1 == 1) || !((o.2.2.1 == ci) && (o.2.2.2 == k)) || ((o.1 == 3) && !(o.2.1 == d))
def vi_st2 (na nL i : Nat) (lo : List VA) (st : List (VA × VO)) (fa : List VF) (n : Nat) : Option VS := if na ≤ i ∧ i + 1 < nL then some (vi_set2 lo i, vi_fs (fun o => vi_free i o && vi_free (i + 1) o) st, vi_ff (fun o => vi_free i o && vi_free (i + 1) o) fa, n) else none
def vi_ld (i pc : Nat) (ok : Nat → Bool) (lo : List VA) (st : List (VA × VO)) (fa : List VF) (n : Nat) : Option (List (Nat × VS)) :=
  match lo[i]? with
  | some a => if ok a.1 then some [(pc, lo, (a, (1, i, 0, 0)) :: st, fa, n)] else none
  | none => none
def vi_bin (pc : Nat) (f : Int → Int → Int → Int → Option VA) (lo : List VA) (st : List (VA × VO)) (fa : List VF) (n : Nat) : Option (List (Nat × VS)) :=
  match st with
  | (b, _) :: (a, _) :: st => if a.1 = 1 ∧ b.1 = 1 then (f a.2.1 a.2.2 b.2.1 b.2.2).map (fun r => [(pc, lo, (r, vi_o0) :: st, fa, n)]) else none
  | _ => none
/-- arrays of ints of kind d may be written -/
def vi_aw (FP : List (Nat × Nat × Nat × Nat)) (d : Nat) : Bool := FP.any fun q => (q.2.1 == 200) && (q.2.2.1 == d) && (q.2.2.2 == 0)
def vi_ins (KT : List VK) (SG : List Nat) (na nL : Nat) (FT : List (Nat × Nat × Nat)) (FP : List (Nat × Nat × Nat × Nat)) (CT : List (Nat × Int)) (C2 : List (Nat × Int)) (pc : Nat) (ins : Instr) (len : Nat) (lo : List VA) (st : List (VA × VO)) (fa : List VF) (n : Nat) : Option (List (Nat × VS)) :=
  match ins with
  | .iconst v => if len = 1 ∧ -128 ≤ v ∧ v ≤ 127 then some [(pc + 1, lo, ((1, v, v), vi_o0) :: st, fa, n)] else none
  | .bipush v => if len = 2 ∧ -128 ≤ v ∧ v ≤ 127 then some [(pc + 2, lo, ((1, v, v), vi_o0) :: st, fa, n)] else none
  | .sipush v => if len = 3 ∧ -32768 ≤ v ∧ v ≤ 32767 then some [(pc + 3, lo, ((1, v, v), vi_o0) :: st, fa, n)] else none
  | .ldc i => if len = 2 then (vi_find CT i).bind fun v => if -2147483648 ≤ v ∧ v ≤ 2147483647 then some [(pc + 2, lo, ((1, v, v), vi_o0) :: st, fa, n)] else none else none
  | .ldc_w i => if len = 3 then (vi_find CT i).bind fun v => if -2147483648 ≤ v ∧ v ≤ 2147483647 then some [(pc + 3, lo, ((1, v, v), vi_o0) :: st, fa, n)] else none else none
  | .ldc2_w i => if len = 3 then (vi_find C2 i).map fun _ => [(pc + 3, lo, ((4, 0, 0), vi_o0) :: st, fa, n)] else none
  | .aconst_null => if len = 1 then some [(pc + 1, lo, ((2, 0, 0), vi_o0) :: st, fa, n)] else none
  | .iload_n k => if len = 1 then vi_ld k (pc + 1) (fun t => t == 1) lo st fa n else none
  | .iload k => if len = 2 then vi_ld k (pc + 2) (fun t => t == 1) lo st fa n else none
  | .aload_n k => if len = 1 then vi_ld k (pc + 1) (fun t => (t == 2) || (t == 3)) lo st fa n else none
  | .aload k => if len = 2 then vi_ld k (pc + 2) (fun t => (t == 2) || (t == 3)) lo st fa n else none
  | .lload_n k => if len = 1 then vi_ld k (pc + 1) (fun t => t == 4) lo st fa n else none
  | .istore_n k => match st with | (a, _) :: st => if len = 1 ∧ a.1 = 1 then (vi_st na nL k a lo st fa n).map (fun A => [(pc + 1, A)]) else none | _ => none
  | .istore k => match st with | (a, _) :: st => if len = 2 ∧ a.1 = 1 then (vi_st na nL k a lo st fa n).map (fun A => [(pc + 2, A)]) else none | _ => none
  | .astore_n k => match st with | (a, _) :: st => if len = 1 ∧ (a.1 = 2 ∨ a.1 = 3) then (vi_st na nL k a lo st fa n).map (fun A => [(pc + 1, A)]) else none | _ => none
  | .astore k => match st with | (a, _) :: st => if len = 2 ∧ (a.1 = 2 ∨ a.1 = 3) then (vi_st na nL k a lo st fa n).map (fun A => [(pc + 2, A)]) else none | _ => none
  | .lstore_n k => match st with | (a, _) :: st => if len = 1 ∧ a.1 = 4 then (vi_st2 na nL k lo st fa n).map (fun A => [(pc + 1, A)]) else none | _ => none
  | .iinc k v => match lo[k]? with | some a => if len = 3 ∧ a.1 = 1 ∧ -32768 ≤ v ∧ v ≤ 32767 then (vi_st na nL k (vi_I (a.2.1 + v) (a.2.2 + v)) lo st fa n).map (fun A => [(pc + 3, A)]) else none | _ => none
  | .pop => match st with | (a, _) :: st => if len = 1 ∧ a.1 ≠ 0 ∧ a.1 < 4 then some [(pc + 1, lo, st, fa, n)] else none | _ => none
  | .dup => match st with | a :: st => if len = 1 ∧ a.1.1 ≠ 0 ∧ a.1.1 < 4 then some [(pc + 1, lo, a :: a :: st, fa, n)] else none | _ => none
  | .dup2 => match st with | a :: b :: st => if len = 1 ∧ a.1.1 ≠ 0 ∧ a.1.1 < 4 ∧ b.1.1 ≠ 0 ∧ b.1.1 < 4 then some [(pc + 1, lo, a :: b :: a :: b :: st, fa, n)] else none | _ => none
  | .iadd => if len = 1 then vi_bin (pc + 1) (fun a b c d => some (vi_I (a + c) (b + d))) lo st fa n else none
  | .isub => if len = 1 then vi_bin (pc + 1) (fun a b c d => some (vi_I (a - d) (b - c))) lo st fa n else none
  | .imul => if len = 1 then vi_bin (pc + 1) (fun a b c d => some (vi_mul a b c d)) lo st fa n else none
  | .iand => if len = 1 then vi_bin (pc + 1) (fun a b c d => some (vi_and a b c d)) lo st fa n else none
  | .ixor => if len = 1 then vi_bin (pc + 1) (fun _ _ _ _ => some vi_top) lo st fa n else none
  | .ishl => if len = 1 then vi_bin (pc + 1) (fun _ _ _ _ => some vi_top) lo st fa n else none
  | .ishr => if len = 1 then vi_bin (pc + 1) (fun _ _ _ _ => some vi_top) lo st fa n else none
  | .idiv => if len = 1 then vi_bin (pc + 1) vi_div lo st fa n else none
  | .irem => if len = 1 then vi_bin (pc + 1) vi_rem lo st fa n else none
  | .i2l => match st with | (a, _) :: st => if len = 1 ∧ a.1 = 1 then some [(pc + 1, lo, ((4, 0, 0), vi_o0) :: st, fa, n)] else none | _ => none
  | .ladd => match st with | (a, _) :: (b, _) :: st => if len = 1 ∧ a.1 = 4 ∧ b.1 = 4 then some [(pc + 1, lo, ((4, 0, 0), vi_o0) :: st, fa, n)] else none | _ => none
  | .lmul => match st with | (a, _) :: (b, _) :: st => if len = 1 ∧ a.1 = 4 ∧ b.1 = 4 then some [(pc + 1, lo, ((4, 0, 0), vi_o0) :: st, fa, n)] else none | _ => none
  | .goto off => if len = 3 ∧ vi_tok pc off = true then some [(vi_tgt pc off, lo, st, fa, n)] else none
  | .if_icmp c off => match st with | (b, ob) :: (a, oa) :: st => if len = 3 ∧ vi_tok pc off = true ∧ a.1 = 1 ∧ b.1 = 1 then some (vi_br c a b oa ob (vi_tgt pc off) (pc + 3) lo st fa n) else none | _ => none
  | .ifCond c off => match st with | (a, oa) :: st => if len = 3 ∧ vi_tok pc off = true ∧ a.1 = 1 then some (vi_br c a (1, 0, 0) oa vi_o0 (vi_tgt pc off) (pc + 3) lo st fa n) else none | _ => none
  | .ifnull off => match st with | (a, o) :: st => if len = 3 ∧ vi_tok pc off = true then (if a.1 = 2 then some [(vi_tgt pc off, lo, st, fa, n)] else if a.1 = 3 then some ((if a.2.2 = 0 then [] else [(vi_tgt pc off, vi_upd o (2, 0, 0) lo st fa n)]) ++ [(pc + 3, vi_upd o (3, a.2.1, 0) lo st fa n)]) else none) else none | _ => none
  | .ifnonnull off => match st with | (a, o) :: st => if len = 3 ∧ vi_tok pc off = true then (if a.1 = 2 then some [(pc + 3, lo, st, fa, n)] else if a.1 = 3 then some ((if a.2.2 = 0 then [] else [(pc + 3, vi_upd o (2, 0, 0) lo st fa n)]) ++ [(vi_tgt pc off, vi_upd o (3, a.2.1, 0) lo st fa n)]) else none) else none | _ => none
  | .if_acmp _ off => match st with | (a, _) :: (b, _) :: st => if len = 3 ∧ vi_tok pc off = true ∧ (a.1 = 2 ∨ a.1 = 3) ∧ (b.1 = 2 ∨ b.1 = 3) then some [(vi_tgt pc off, lo, st, fa, n), (pc + 3, lo, st, fa, n)] else none | _ => none
  | .getfield i => match st with
    | (a, o) :: st => if len = 3 ∧ a.1 = 3 ∧ a.2.2 = 0 then (match vi_find FT i, KT[a.2.1.toNat]? with
      | some (ci, k), some (0, ci2, _, fs) => if ci = ci2 then (match fs[k]? with
        | some b => some [(pc + 3, lo, (vi_fval fa (vi_src SG a.2.1.toNat ci k o) b, vi_src SG a.2.1.toNat ci k o) :: st, fa, n)]
        | none => none) else none
      | _, _ => none) else none
    | _ => none
  | .putfield i => match st with
    | (b, _) :: (a, o) :: st => if len = 3 ∧ a.1 = 3 ∧ a.2.2 = 0 then (match vi_find FP i, KT[a.2.1.toNat]? with
      | some (ci, k, d9), some (0, ci2, _, fs) => if ci = ci2 ∧ d9 = a.2.1.toNat then (match fs[k]? with
        | some c => if vi_le b c then some [(pc + 3, lo, vi_fs (vi_keep a.2.1.toNat ci k) st, (let o2 := vi_src SG a.2.1.toNat ci k o; if o2.1 = 0 then vi_ff (vi_keep a.2.1.toNat ci k) fa else (o2, b) :: vi_ff (vi_keep a.2.1.toNat ci k) fa), n)] else none
        | none => none) else none
      | _, _ => none) else none
    | _ => none
  | .iaload => match st with
    | (b, _) :: (a, _) :: st => if len = 1 ∧ a.1 = 3 ∧ a.2.2 = 0 ∧ b.1 = 1 ∧ 0 ≤ b.2.1 then (match KT[a.2.1.toNat]? with
      | some (1, 0, m, [el]) => if b.2.2 < m ∧ m < 2147483648 then some [(pc + 1, lo, (el, vi_o0) :: st, fa, n)] else none
      | _ => none) else none
    | _ => none
  | .caload => match st with
    | (b, _) :: (a, _) :: st => if len = 1 ∧ a.1 = 3 ∧ a.2.2 = 0 ∧ b.1 = 1 ∧ 0 ≤ b.2.1 then (match KT[a.2.1.toNat]? with
      | some (1, 1, m, [el]) => if b.2.2 < m ∧ m < 2147483648 then some [(pc + 1, lo, (el, vi_o0) :: st, fa, n)] else none
      | _ => none) else none
    | _ => none
  | .aaload => match st with
    | (b, _) :: (a, _) :: st => if len = 1 ∧ a.1 = 3 ∧ a.2.2 = 0 ∧ b.1 = 1 ∧ 0 ≤ b.2.1 then (match KT[a.2.1.toNat]? with
      | some (2, _, m, [el]) => if b.2.2 < m ∧ m < 2147483648 then some [(pc + 1, lo, (el, vi_o0) :: st, fa, n)] else none
      | _ => none) else none
    | _ => none
  | .iastore => match st with
    | (v, _) :: (b, _) :: (a, _) :: st => if len = 1 ∧ a.1 = 3 ∧ a.2.2 = 0 ∧ b.1 = 1 ∧ 0 ≤ b.2.1 ∧ v.1 = 1 then (match KT[a.2.1.toNat]? with
      | some (1, 0, m, [el]) => if b.2.2 < m ∧ m < 2147483648 ∧ vi_le v el = true ∧ el.1 = 1 ∧ vi_aw FP a.2.1.toNat = true then some [(pc + 1, lo, st, fa, n)] else none
      | _ => none) else none
    | _ => none
  | .castore => match st with
    | (v, _) :: (b, _) :: (a, _) :: st => if len = 1 ∧ a.1 = 3 ∧ a.2.2 = 0 ∧ b.1 = 1 ∧ 0 ≤ b.2.1 ∧ v.1 = 1 then (match KT[a.2.1.toNat]? with
      | some (1, 1, m, [el]) => if b.2.2 < m ∧ m < 2147483648 ∧ vi_le v el = true ∧ el.1 = 1 ∧ 0 ≤ el.2.1 ∧ el.2.2 ≤ 65535 ∧ vi_aw FP a.2.1.toNat = true then some [(pc + 1, lo, st, fa, n)] else none
      | _ => none) else none
    | _ => none
  | _ => none
end VID
