section VIC
/-! ranges of ints -/
theorem vi_rng (x : Int32) : -2147483648 ≤ x.toInt ∧ x.toInt ≤ 2147483647 := by
  have h1 := Int32.le_toInt x
  have h2 := Int32.toInt_lt x
  omega
theorem vi_bmod {z : Int} (h1 : -2147483648 ≤ z) (h2 : z ≤ 2147483647) : z.bmod (2 ^ 32) = z := by
  rw [Int.bmod_eq_of_le (by omega) (by omega)]
def vi_I (lo hi : Int) : VA := if -2147483648 ≤ lo ∧ hi ≤ 2147483647 then (1, lo, hi) else (1, -2147483648, 2147483647)
def vi_top : VA := (1, -2147483648, 2147483647)
variable {ad τ : List Nat}
theorem vi_ok_int {lo hi : Int} {x : Int32} (h1 : lo ≤ x.toInt) (h2 : x.toInt ≤ hi) : vi_ok ad τ (1, lo, hi) (.int x) := ⟨x, rfl, h1, h2⟩
theorem vi_ok_top (x : Int32) : vi_ok ad τ vi_top (.int x) := ⟨x, rfl, (vi_rng x).1, (vi_rng x).2⟩
theorem vi_ok_I {lo hi : Int} {x : Int32} (h : -2147483648 ≤ lo → hi ≤ 2147483647 → lo ≤ x.toInt ∧ x.toInt ≤ hi) : vi_ok ad τ (vi_I lo hi) (.int x) := by
  unfold vi_I
  by_cases c : -2147483648 ≤ lo ∧ hi ≤ 2147483647
  · rw [if_pos c]
    exact ⟨x, rfl, (h c.1 c.2).1, (h c.1 c.2).2⟩
  · rw [if_neg c]
    exact vi_ok_top x
theorem vi_ok_inv {lo hi : Int} {v : Value} (h : vi_ok ad τ (1, lo, hi) v) : ∃ x : Int32, v = .int x ∧ lo ≤ x.toInt ∧ x.toInt ≤ hi := h
theorem vi_n_add {x y : Int32} {a b c d : Int} (h1 : a ≤ x.toInt) (h2 : x.toInt ≤ b) (h3 : c ≤ y.toInt) (h4 : y.toInt ≤ d) : vi_ok ad τ (vi_I (a + c) (b + d)) (.int (x + y)) :=
  vi_ok_I fun u v => by rw [Int32.toInt_add, vi_bmod (by omega) (by omega)]; omega
theorem vi_n_sub {x y : Int32} {a b c d : Int} (h1 : a ≤ x.toInt) (h2 : x.toInt ≤ b) (h3 : c ≤ y.toInt) (h4 : y.toInt ≤ d) : vi_ok ad τ (vi_I (a - d) (b - c)) (.int (x - y)) :=
  vi_ok_I fun u v => by rw [Int32.toInt_sub, vi_bmod (by omega) (by omega)]; omega
def vi_mul (a b c d : Int) : VA := if 0 ≤ a ∧ 0 ≤ c then vi_I (a * c) (b * d) else vi_top
theorem vi_n_mul {x y : Int32} {a b c d : Int} (h1 : a ≤ x.toInt) (h2 : x.toInt ≤ b) (h3 : c ≤ y.toInt) (h4 : y.toInt ≤ d) : vi_ok ad τ (vi_mul a b c d) (.int (x * y)) := by
  unfold vi_mul
  by_cases z : 0 ≤ a ∧ 0 ≤ c
  · rw [if_pos z]
    refine vi_ok_I fun u v => ?_
    have e1 : a * c ≤ x.toInt * y.toInt := Int.mul_le_mul h1 h3 z.2 (by omega)
    have e2 : x.toInt * y.toInt ≤ b * d := Int.mul_le_mul h2 h4 (by omega) (by omega)
    rw [Int32.toInt_mul, vi_bmod (by omega) (by omega)]
    omega
  · rw [if_neg z]; exact vi_ok_top _
def vi_and (a b c d : Int) : VA := if 0 ≤ c then (1, 0, d) else if 0 ≤ a then (1, 0, b) else vi_top
theorem vi_and_le (x y : Int32) (h : 0 ≤ y.toInt) : 0 ≤ (x &&& y).toInt ∧ (x &&& y).toInt ≤ y.toInt := by
  have hy : y.toInt = (y.toBitVec.toNat : Int) := by
    have e : y.toInt = y.toBitVec.toInt := rfl
    rw [e] at h ⊢
    rw [BitVec.toInt_eq_toNat_cond] at h ⊢
    split <;> rename_i q
    · rfl
    · rw [if_neg q] at h
      have := y.toBitVec.isLt
      omega
  have hle : (x &&& y).toBitVec.toNat ≤ y.toBitVec.toNat := by
    rw [Int32.toBitVec_and, BitVec.toNat_and]
    exact Nat.and_le_right
  have hlt : 2 * y.toBitVec.toNat < 2 ^ 32 := by
    have h2 := (vi_rng y).2
    omega
  have hxy : (x &&& y).toInt = ((x &&& y).toBitVec.toNat : Int) := by
    have e : (x &&& y).toInt = (x &&& y).toBitVec.toInt := rfl
    rw [e, BitVec.toInt_eq_toNat_cond, if_pos (by omega)]
  omega
theorem vi_n_and {x y : Int32} {a b c d : Int} (h1 : a ≤ x.toInt) (h2 : x.toInt ≤ b) (h3 : c ≤ y.toInt) (h4 : y.toInt ≤ d) : vi_ok ad τ (vi_and a b c d) (.int (x &&& y)) := by
  unfold vi_and
  by_cases z : 0 ≤ c
  · rw [if_pos z]
    have := vi_and_le x y (by omega)
    exact vi_ok_int this.1 (by omega)
  · rw [if_neg z]
    by_cases z2 : 0 ≤ a
    · rw [if_pos z2]
      have := vi_and_le y x (by omega)
      rw [Int32.and_comm] at this
      exact vi_ok_int this.1 (by omega)
    · rw [if_neg z2]; exact vi_ok_top _
theorem vi_ofNat {x : Int32} (h : 0 ≤ x.toInt) : ∃ n : Nat, n < 2 ^ 31 ∧ x = nI n ∧ x.toInt = n := by
  obtain ⟨j, hj, e⟩ := nI_of (x := x) (by rw [Int32.lt_iff_toInt_lt, Int32.toInt_zero]; omega)
  exact ⟨j, hj, e, by rw [e, nI_toInt hj]⟩
/-- a / d for a constant d -/
def vi_div (a b c d : Int) : Option VA := if 0 ≤ a ∧ c = d ∧ 0 < c then some (1, a / c, b / c) else none
def vi_rem (a b c d : Int) : Option VA := if 0 ≤ a ∧ c = d ∧ 0 < c then some (1, 0, c - 1) else none
theorem vi_n_div {x y : Int32} {a b c d : Int} {r : VA} (h1 : a ≤ x.toInt) (h2 : x.toInt ≤ b) (h3 : c ≤ y.toInt) (h4 : y.toInt ≤ d) (hr : vi_div a b c d = some r) : ¬ y = 0 ∧ vi_ok ad τ r (.int (x / y)) := by
  unfold vi_div at hr
  by_cases z : 0 ≤ a ∧ c = d ∧ 0 < c
  · rw [if_pos z] at hr
    cases hr
    obtain ⟨n, hn, e1, e2⟩ := vi_ofNat (x := x) (by omega)
    obtain ⟨k, hk, f1, f2⟩ := vi_ofNat (x := y) (by omega)
    refine ⟨fun q => ?_, ?_⟩
    · rw [q, Int32.toInt_zero] at h3; omega
    · have hk0 : 0 < k := by omega
      rw [e1, f1, pk_div hn hk0 hk]
      have hd : n / k < 2 ^ 31 := Nat.lt_of_le_of_lt (Nat.div_le_self n k) hn
      have ec : c = (k : Int) := by omega
      refine vi_ok_int ?_ ?_
      · rw [nI_toInt hd, ec, Int.natCast_ediv]
        exact Int.ediv_le_ediv (by omega) (by omega)
      · rw [nI_toInt hd, ec, Int.natCast_ediv]
        exact Int.ediv_le_ediv (by omega) (by omega)
  · rw [if_neg z] at hr; cases hr
theorem vi_n_rem {x y : Int32} {a b c d : Int} {r : VA} (h1 : a ≤ x.toInt) (h2 : x.toInt ≤ b) (h3 : c ≤ y.toInt) (h4 : y.toInt ≤ d) (hr : vi_rem a b c d = some r) : ¬ y = 0 ∧ vi_ok ad τ r (.int (x - x / y * y)) := by
  unfold vi_rem at hr
  by_cases z : 0 ≤ a ∧ c = d ∧ 0 < c
  · rw [if_pos z] at hr
    cases hr
    obtain ⟨n, hn, e1, e2⟩ := vi_ofNat (x := x) (by omega)
    obtain ⟨k, hk, f1, f2⟩ := vi_ofNat (x := y) (by omega)
    refine ⟨fun q => ?_, ?_⟩
    · rw [q, Int32.toInt_zero] at h3; omega
    · have hk0 : 0 < k := by omega
      rw [e1, f1, pk_rem hn hk0 hk]
      have hlt := Nat.mod_lt n hk0
      refine vi_ok_int ?_ ?_
      · rw [nI_toInt (by omega)]; omega
      · rw [nI_toInt (by omega)]; omega
  · rw [if_neg z] at hr; cases hr
/-- a comparison: what is known of both sides where it holds -/
def vi_cmp (c : ClassFile.Cond) (a b : VA) : VA × VA :=
  match c with
  | .eq => ((1, max a.2.1 b.2.1, min a.2.2 b.2.2), (1, max a.2.1 b.2.1, min a.2.2 b.2.2))
  | .ne => ((1, (if b.2.1 = b.2.2 ∧ b.2.1 = a.2.1 then a.2.1 + 1 else a.2.1), (if b.2.1 = b.2.2 ∧ b.2.1 = a.2.2 then a.2.2 - 1 else a.2.2)), b)
  | .lt => ((1, a.2.1, min a.2.2 (b.2.2 - 1)), (1, max b.2.1 (a.2.1 + 1), b.2.2))
  | .ge => ((1, max a.2.1 b.2.1, a.2.2), (1, b.2.1, min b.2.2 a.2.2))
  | .gt => ((1, max a.2.1 (b.2.1 + 1), a.2.2), (1, b.2.1, min b.2.2 (a.2.2 - 1)))
  | .le => ((1, a.2.1, min a.2.2 b.2.2), (1, max b.2.1 a.2.1, b.2.2))
def vi_neg : ClassFile.Cond → ClassFile.Cond
  | .eq => .ne | .ne => .eq | .lt => .ge | .ge => .lt | .gt => .le | .le => .gt
/-- what the comparison says of numbers -/
def vi_says (c : ClassFile.Cond) (x y : Int) : Prop :=
  match c with
  | .eq => x = y | .ne => ¬ x = y | .lt => x < y | .ge => y ≤ x | .gt => y < x | .le => x ≤ y
theorem vi_cmp_ok {c : ClassFile.Cond} {x y : Int32} {l1 h1 l2 h2 : Int} (hc : vi_says c x.toInt y.toInt) (a1 : l1 ≤ x.toInt) (a2 : x.toInt ≤ h1) (b1 : l2 ≤ y.toInt) (b2 : y.toInt ≤ h2) :
    vi_ok ad τ (vi_cmp c (1, l1, h1) (1, l2, h2)).1 (.int x) ∧ vi_ok ad τ (vi_cmp c (1, l1, h1) (1, l2, h2)).2 (.int y) := by
  cases c <;> simp only [vi_says] at hc <;> refine ⟨⟨x, rfl, ?_, ?_⟩, ⟨y, rfl, ?_, ?_⟩⟩ <;> simp only [vi_cmp] <;> (try split) <;> omega
end VIC
