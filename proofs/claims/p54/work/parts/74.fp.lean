section FPA
/-! a quotient of whole numbers, the divisor not 0, is a number -/
def fpG (p : Nat) (qx : Int) : FP.Core.Datum → Prop
  | .nan => False
  | .inf _ => True
  | .fin _ c q => c < 2 ^ p ∧ q ≤ qx
theorem fp_bound {f : FP.Core.Fmt} {s : Bool} {c : Nat} {q : Int} (h : c < 2 ^ f.p) : fpG f.p f.qmax (FP.Core.bound f s c q) := by
  unfold FP.Core.bound
  by_cases z : q ≤ f.qmax
  · rw [if_pos z]
    exact ⟨h, z⟩
  · rw [if_neg z]
    exact True.intro
theorem fp_round {f : FP.Core.Fmt} (hp : f.tails < 2 ^ f.p) (h0 : f.qmin ≤ f.qmax) {s : Bool} {num den : Nat} {e : Int} : fpG f.p f.qmax (FP.Core.roundRatio f s num den e) := by
  unfold FP.Core.roundRatio
  by_cases z : num = 0
  · rw [if_pos z]
    exact ⟨Nat.two_pow_pos _, h0⟩
  · rw [if_neg z]
    unfold FP.Core.roundAt FP.Core.settle
    by_cases w : FP.Core.nearest (FP.Core.unitsNum num e (FP.Core.quantum f num den e)) (FP.Core.unitsDen den e (FP.Core.quantum f num den e)) < 2 ^ f.p
    · rw [if_pos w]
      exact fp_bound w
    · rw [if_neg w]
      exact fp_bound hp
theorem fp_near {num den : Nat} (h0 : 0 < den) (h : den ≤ num) : FP.Core.nearest num den ≠ 0 := by
  have h1 : 1 ≤ num / den := (Nat.le_div_iff_mul_le h0).mpr (by omega)
  unfold FP.Core.nearest
  by_cases a : 2 * (num % den) < den
  · rw [if_pos a]
    omega
  · rw [if_neg a]
    by_cases b : den < 2 * (num % den)
    · rw [if_pos b]
      omega
    · rw [if_neg b]
      omega
theorem fp_lead {num : Nat} : FP.Core.leading num 1 ≤ (num.log2 : Int) := by
  unfold FP.Core.leading
  have e : (1 : Nat).log2 = 0 := by decide
  rw [e]
  dsimp only
  split
  · omega
  · omega
theorem fp_int {f : FP.Core.Fmt} (hp : f.tails < 2 ^ f.p) (ht : f.tails ≠ 0) (hp1 : 1 ≤ f.p) (h0 : f.qmin ≤ 0) (hx : 64 ≤ f.qmax) {s : Bool} {num : Nat} (hn : num < 2 ^ 64) : ∃ c q, FP.Core.roundRatio f s num 1 0 = .fin s c q ∧ c < 2 ^ f.p ∧ q ≤ f.qmax ∧ (num ≠ 0 → c ≠ 0) := by
  unfold FP.Core.roundRatio
  by_cases z : num = 0
  · rw [if_pos z]
    exact ⟨0, f.qmin, rfl, Nat.two_pow_pos _, by omega, fun w => absurd z w⟩
  · rw [if_neg z]
    unfold FP.Core.roundAt
    have hl : num.log2 < 64 := (Nat.log2_lt z).mpr hn
    have hs := Nat.log2_self_le z
    have hq : FP.Core.quantum f num 1 0 ≤ (num.log2 : Int) := by
      unfold FP.Core.quantum
      have := @fp_lead num
      omega
    generalize hQ : FP.Core.quantum f num 1 0 = Q at hq
    have hN : FP.Core.nearest (FP.Core.unitsNum num 0 Q) (FP.Core.unitsDen 1 0 Q) ≠ 0 := by
      unfold FP.Core.unitsNum FP.Core.unitsDen
      by_cases c : 0 ≤ Q
      · have e1 : (0 - Q).toNat = 0 := by omega
        have e2 : (Q - 0).toNat ≤ num.log2 := by omega
        rw [e1, Nat.pow_zero, Nat.mul_one, Nat.one_mul]
        exact fp_near (Nat.two_pow_pos _) (Nat.le_trans (Nat.pow_le_pow_right (by decide) e2) hs)
      · have e1 : (Q - 0).toNat = 0 := by omega
        rw [e1, Nat.pow_zero, Nat.mul_one]
        exact fp_near (by decide) (Nat.mul_pos (Nat.pos_of_ne_zero z) (Nat.two_pow_pos _))
    generalize FP.Core.nearest (FP.Core.unitsNum num 0 Q) (FP.Core.unitsDen 1 0 Q) = N at hN
    unfold FP.Core.settle FP.Core.bound
    by_cases w : N < 2 ^ f.p
    · rw [if_pos w, if_pos (by omega)]
      exact ⟨N, Q, rfl, w, by omega, fun _ => hN⟩
    · rw [if_neg w, if_pos (by omega)]
      exact ⟨f.tails, Q + 1, rfl, hp, by omega, fun _ => ht⟩
theorem b32f : FP.Core.b32.tails = 8388608 ∧ FP.Core.b32.exps = 256 ∧ FP.Core.b32.qmin = -149 ∧ FP.Core.b32.qmax = 104 := by decide
theorem b64f : FP.Core.b64.tails = 4503599627370496 ∧ FP.Core.b64.exps = 2048 ∧ FP.Core.b64.qmin = -1074 ∧ FP.Core.b64.qmax = 971 := by decide
theorem enc32 {s : Bool} {c : Nat} {q : Int} (hc : c < 2 ^ 24) (hq : q ≤ 104) : ∃ S m, FP.Core.encode FP.Core.b32 (.fin s c q) = S * 2147483648 + m ∧ S ≤ 1 ∧ m < 2139095040 ∧ (c ≠ 0 → m ≠ 0) := by
  obtain ⟨e1, e2, e3, -⟩ := b32f
  have hs : s.toNat ≤ 1 := by cases s <;> decide
  unfold FP.Core.encode
  dsimp only
  rw [e1, e3]
  by_cases z : c < 8388608
  · rw [if_pos z]
    unfold FP.Core.assemble
    rw [e1, e2]
    exact ⟨s.toNat, c, by omega, hs, by omega, id⟩
  · rw [if_neg z]
    unfold FP.Core.assemble
    rw [e1, e2]
    have h24 : (2 : Nat) ^ 24 = 16777216 := by decide
    exact ⟨s.toNat, ((q - -149).toNat + 1) * 8388608 + (c - 8388608), by omega, hs, by omega, fun _ => by omega⟩
theorem enc64 {s : Bool} {c : Nat} {q : Int} (hc : c < 2 ^ 53) (hq : q ≤ 971) : ∃ S m, FP.Core.encode FP.Core.b64 (.fin s c q) = S * 9223372036854775808 + m ∧ S ≤ 1 ∧ m < 9218868437227405312 ∧ (c ≠ 0 → m ≠ 0) := by
  obtain ⟨e1, e2, e3, -⟩ := b64f
  have hs : s.toNat ≤ 1 := by cases s <;> decide
  unfold FP.Core.encode
  dsimp only
  rw [e1, e3]
  by_cases z : c < 4503599627370496
  · rw [if_pos z]
    unfold FP.Core.assemble
    rw [e1, e2]
    exact ⟨s.toNat, c, by omega, hs, by omega, id⟩
  · rw [if_neg z]
    unfold FP.Core.assemble
    rw [e1, e2]
    have h53 : (2 : Nat) ^ 53 = 9007199254740992 := by decide
    exact ⟨s.toNat, ((q - -1074).toNat + 1) * 4503599627370496 + (c - 4503599627370496), by omega, hs, by omega, fun _ => by omega⟩
theorem enG32 {d : FP.Core.Datum} (h : fpG 24 104 d) : ∃ S m, FP.Core.encode FP.Core.b32 d = S * 2147483648 + m ∧ S ≤ 1 ∧ m ≤ 2139095040 := by
  match d, h with
  | .inf s, _ =>
    obtain ⟨e1, e2, -⟩ := b32f
    have hs : s.toNat ≤ 1 := by cases s <;> decide
    refine ⟨s.toNat, 2139095040, ?_, hs, Nat.le_refl _⟩
    show FP.Core.assemble FP.Core.b32 s (FP.Core.b32.exps - 1) 0 = _
    unfold FP.Core.assemble
    rw [e1, e2]
    omega
  | .fin s c q, h =>
    obtain ⟨S, m, w1, w2, w3, -⟩ := enc32 (s := s) h.1 h.2
    exact ⟨S, m, w1, w2, Nat.le_of_lt w3⟩
theorem enG64 {d : FP.Core.Datum} (h : fpG 53 971 d) : ∃ S m, FP.Core.encode FP.Core.b64 d = S * 9223372036854775808 + m ∧ S ≤ 1 ∧ m ≤ 9218868437227405312 := by
  match d, h with
  | .inf s, _ =>
    obtain ⟨e1, e2, -⟩ := b64f
    have hs : s.toNat ≤ 1 := by cases s <;> decide
    refine ⟨s.toNat, 9218868437227405312, ?_, hs, Nat.le_refl _⟩
    show FP.Core.assemble FP.Core.b64 s (FP.Core.b64.exps - 1) 0 = _
    unfold FP.Core.assemble
    rw [e1, e2]
    omega
  | .fin s c q, h =>
    obtain ⟨S, m, w1, w2, w3, -⟩ := enc64 (s := s) h.1 h.2
    exact ⟨S, m, w1, w2, Nat.le_of_lt w3⟩
theorem dec32 {S m : Nat} (hS : S ≤ 1) (hm : m < 2139095040) : ∃ s c q, FP.Core.decode FP.Core.b32 (S * 2147483648 + m) = .fin s c q ∧ (m ≠ 0 → c ≠ 0) := by
  obtain ⟨e1, e2, e3, -⟩ := b32f
  have eE : FP.Core.fieldE FP.Core.b32 (S * 2147483648 + m) = m / 8388608 := by unfold FP.Core.fieldE; rw [e1, e2]; omega
  have eT : FP.Core.fieldT FP.Core.b32 (S * 2147483648 + m) = m % 8388608 := by unfold FP.Core.fieldT; rw [e1]; omega
  unfold FP.Core.decode
  rw [eE, eT, e2, if_neg (by omega)]
  by_cases z : m / 8388608 = 0
  · rw [if_pos z]
    exact ⟨_, _, _, rfl, fun w => by omega⟩
  · rw [if_neg z]
    exact ⟨_, _, _, rfl, fun w => by rw [e1]; omega⟩
theorem dec64 {S m : Nat} (hS : S ≤ 1) (hm : m < 9218868437227405312) : ∃ s c q, FP.Core.decode FP.Core.b64 (S * 9223372036854775808 + m) = .fin s c q ∧ (m ≠ 0 → c ≠ 0) := by
  obtain ⟨e1, e2, e3, -⟩ := b64f
  have eE : FP.Core.fieldE FP.Core.b64 (S * 9223372036854775808 + m) = m / 4503599627370496 := by unfold FP.Core.fieldE; rw [e1, e2]; omega
  have eT : FP.Core.fieldT FP.Core.b64 (S * 9223372036854775808 + m) = m % 4503599627370496 := by unfold FP.Core.fieldT; rw [e1]; omega
  unfold FP.Core.decode
  rw [eE, eT, e2, if_neg (by omega)]
  by_cases z : m / 4503599627370496 = 0
  · rw [if_pos z]
    exact ⟨_, _, _, rfl, fun w => by omega⟩
  · rw [if_neg z]
    exact ⟨_, _, _, rfl, fun w => by rw [e1]; omega⟩
theorem int32 (i : Int) (hi : i.natAbs < 2 ^ 64) : ∃ S m, FP.Core.fromInt FP.Core.b32 i = S * 2147483648 + m ∧ S ≤ 1 ∧ m < 2139095040 ∧ (i ≠ 0 → m ≠ 0) := by
  obtain ⟨e1, e2, e3, e4⟩ := b32f
  obtain ⟨c, q, w1, w2, w3, w4⟩ := fp_int (f := FP.Core.b32) (by rw [e1]; decide) (by rw [e1]; decide) (by decide) (by rw [e3]; decide) (by rw [e4]; decide) (s := decide (i < 0)) hi
  rw [e4] at w3
  obtain ⟨S, m, u1, u2, u3, u4⟩ := enc32 (s := decide (i < 0)) (c := c) (q := q) w2 w3
  refine ⟨S, m, ?_, u2, u3, fun h => u4 (w4 (by omega))⟩
  rw [← u1, ← w1]
  rfl
theorem int64 (i : Int) (hi : i.natAbs < 2 ^ 64) : ∃ S m, FP.Core.fromInt FP.Core.b64 i = S * 9223372036854775808 + m ∧ S ≤ 1 ∧ m < 9218868437227405312 ∧ (i ≠ 0 → m ≠ 0) := by
  obtain ⟨e1, e2, e3, e4⟩ := b64f
  obtain ⟨c, q, w1, w2, w3, w4⟩ := fp_int (f := FP.Core.b64) (by rw [e1]; decide) (by rw [e1]; decide) (by decide) (by rw [e3]; decide) (by rw [e4]; decide) (s := decide (i < 0)) hi
  rw [e4] at w3
  obtain ⟨S, m, u1, u2, u3, u4⟩ := enc64 (s := decide (i < 0)) (c := c) (q := q) w2 w3
  refine ⟨S, m, ?_, u2, u3, fun h => u4 (w4 (by omega))⟩
  rw [← u1, ← w1]
  rfl
theorem fp_quot {f : FP.Core.Fmt} (hp : f.tails < 2 ^ f.p) (h0 : f.qmin ≤ f.qmax) {s t : Bool} {c d : Nat} {q r : Int} (hd : d ≠ 0) : fpG f.p f.qmax (FP.Core.quotient f (.fin s c q) (.fin t d r)) := by
  show fpG f.p f.qmax (if d = 0 then (if c = 0 then .nan else .inf (s != t)) else FP.Core.roundRatio f (s != t) c d (q - r))
  rw [if_neg hd]
  exact fp_round hp h0
/-- of floats -/
theorem fdiv_n {x : Int64} {y : Int32} (hy : ¬ y = 0) : vf_n32 (FP.fdiv (FP.l2f x) (FP.i2f y)) := by
  obtain ⟨e1, e2, e3, e4⟩ := b32f
  obtain ⟨S, m, a1, a2, a3, -⟩ := int32 x.toInt (by have h1 := Int64.toInt_lt x; have h2 := Int64.le_toInt x; omega)
  obtain ⟨S2, m2, b1, b2, b3, b4⟩ := int32 y.toInt (by have h1 := Int32.toInt_lt y; have h2 := Int32.le_toInt y; omega)
  obtain ⟨s, c, q, d1, -⟩ := dec32 a2 a3
  obtain ⟨s2, c2, q2, d2, d3⟩ := dec32 b2 b3
  have ey : y.toInt ≠ 0 := fun z => hy (i_eq.mpr z)
  have ex : (FP.l2f x).toNat = S * 2147483648 + m := by
    show (UInt32.ofNat (FP.Core.fromInt FP.Core.b32 x.toInt)).toNat = _
    rw [a1, UInt32.toNat_ofNat']
    omega
  have ey2 : (FP.i2f y).toNat = S2 * 2147483648 + m2 := by
    show (UInt32.ofNat (FP.Core.fromInt FP.Core.b32 y.toInt)).toNat = _
    rw [b1, UInt32.toNat_ofNat']
    omega
  have hG := fp_quot (f := FP.Core.b32) (by rw [e1]; decide) (by rw [e3, e4]; decide) (s := s) (t := s2) (c := c) (q := q) (r := q2) (d3 (b4 ey))
  rw [e4] at hG
  obtain ⟨T, k, g1, g2, g3⟩ := enG32 (d := FP.Core.quotient FP.Core.b32 (.fin s c q) (.fin s2 c2 q2)) hG
  have er : (FP.fdiv (FP.l2f x) (FP.i2f y)).toNat = T * 2147483648 + k := by
    show (UInt32.ofNat (FP.Core.encode FP.Core.b32 (FP.Core.quotient FP.Core.b32 (FP.Core.decode FP.Core.b32 (FP.l2f x).toNat) (FP.Core.decode FP.Core.b32 (FP.i2f y).toNat)))).toNat = _
    rw [ex, ey2, d1, d2, g1, UInt32.toNat_ofNat']
    omega
  unfold vf_n32
  rw [UInt32.le_iff_toNat_le, UInt32.toNat_and, er]
  show (T * 2147483648 + k) &&& (2 ^ 31 - 1) ≤ 2139095040
  rw [Nat.and_two_pow_sub_one_eq_mod]
  omega
/-- of doubles -/
theorem ddiv_n {x : Int64} {y : Int32} (hy : ¬ y = 0) : vf_n64 (FP.ddiv (FP.l2d x) (FP.i2d y)) := by
  obtain ⟨e1, e2, e3, e4⟩ := b64f
  obtain ⟨S, m, a1, a2, a3, -⟩ := int64 x.toInt (by have h1 := Int64.toInt_lt x; have h2 := Int64.le_toInt x; omega)
  obtain ⟨S2, m2, b1, b2, b3, b4⟩ := int64 y.toInt (by have h1 := Int32.toInt_lt y; have h2 := Int32.le_toInt y; omega)
  obtain ⟨s, c, q, d1, -⟩ := dec64 a2 a3
  obtain ⟨s2, c2, q2, d2, d3⟩ := dec64 b2 b3
  have ey : y.toInt ≠ 0 := fun z => hy (i_eq.mpr z)
  have ex : (FP.l2d x).toNat = S * 9223372036854775808 + m := by
    show (UInt64.ofNat (FP.Core.fromInt FP.Core.b64 x.toInt)).toNat = _
    rw [a1, UInt64.toNat_ofNat']
    omega
  have ey2 : (FP.i2d y).toNat = S2 * 9223372036854775808 + m2 := by
    show (UInt64.ofNat (FP.Core.fromInt FP.Core.b64 y.toInt)).toNat = _
    rw [b1, UInt64.toNat_ofNat']
    omega
  have hG := fp_quot (f := FP.Core.b64) (by rw [e1]; decide) (by rw [e3, e4]; decide) (s := s) (t := s2) (c := c) (q := q) (r := q2) (d3 (b4 ey))
  rw [e4] at hG
  obtain ⟨T, k, g1, g2, g3⟩ := enG64 (d := FP.Core.quotient FP.Core.b64 (.fin s c q) (.fin s2 c2 q2)) hG
  have er : (FP.ddiv (FP.l2d x) (FP.i2d y)).toNat = T * 9223372036854775808 + k := by
    show (UInt64.ofNat (FP.Core.encode FP.Core.b64 (FP.Core.quotient FP.Core.b64 (FP.Core.decode FP.Core.b64 (FP.l2d x).toNat) (FP.Core.decode FP.Core.b64 (FP.i2d y).toNat)))).toNat = _
    rw [ex, ey2, d1, d2, g1, UInt64.toNat_ofNat']
    omega
  unfold vf_n64
  rw [UInt64.le_iff_toNat_le, UInt64.toNat_and, er]
  show (T * 9223372036854775808 + k) &&& (2 ^ 63 - 1) ≤ 9218868437227405312
  rw [Nat.and_two_pow_sub_one_eq_mod]
  omega
end FPA
