section FPB
/-! quotients of ints; a double of a float -/
theorem fdiv_ni {x y : Int32} (hy : ¬ y = 0) : vf_n32 (FP.fdiv (FP.i2f x) (FP.i2f y)) := by
  have e : FP.i2f x = FP.l2f x.toInt64 := by
    show UInt32.ofNat (FP.Core.fromInt FP.Core.b32 x.toInt) = UInt32.ofNat (FP.Core.fromInt FP.Core.b32 x.toInt64.toInt)
    rw [Int32.toInt_toInt64]
  rw [e]
  exact fdiv_n hy
theorem ddiv_ni {x y : Int32} (hy : ¬ y = 0) : vf_n64 (FP.ddiv (FP.i2d x) (FP.i2d y)) := by
  have e : FP.i2d x = FP.l2d x.toInt64 := by
    show UInt64.ofNat (FP.Core.fromInt FP.Core.b64 x.toInt) = UInt64.ofNat (FP.Core.fromInt FP.Core.b64 x.toInt64.toInt)
    rw [Int32.toInt_toInt64]
  rw [e]
  exact ddiv_n hy
theorem f2d_n {x : UInt32} (h : vf_n32 x) : vf_n64 (FP.f2d x) := by
  obtain ⟨e1, e2, e3, e4⟩ := b64f
  have hx := UInt32.toNat_lt x
  have hm : x.toNat % 2147483648 ≤ 2139095040 := by
    unfold vf_n32 at h
    rw [UInt32.le_iff_toNat_le, UInt32.toNat_and] at h
    have h2 : x.toNat &&& (2 ^ 31 - 1) ≤ 2139095040 := h
    rw [Nat.and_two_pow_sub_one_eq_mod] at h2
    omega
  have en : x.toNat = x.toNat / 2147483648 * 2147483648 + x.toNat % 2147483648 := by omega
  have hd : FP.Core.decode FP.Core.b32 x.toNat ≠ .nan ∧ fpG 53 971 (FP.Core.round FP.Core.b64 (FP.Core.decode FP.Core.b32 x.toNat)) := by
    by_cases c : x.toNat % 2147483648 < 2139095040
    · obtain ⟨s, k, q, d1, -⟩ := dec32 (S := x.toNat / 2147483648) (m := x.toNat % 2147483648) (by omega) c
      rw [← en] at d1
      rw [d1]
      refine ⟨by simp, ?_⟩
      have hG := fp_round (f := FP.Core.b64) (by rw [e1]; decide) (by rw [e3, e4]; decide) (s := s) (num := k) (den := 1) (e := q)
      rw [e4] at hG
      exact hG
    · have hm2 : x.toNat % 2147483648 = 2139095040 := by omega
      obtain ⟨f1, f2, -⟩ := b32f
      have eE : FP.Core.fieldE FP.Core.b32 x.toNat = 255 := by unfold FP.Core.fieldE; rw [f1, f2]; omega
      have eT : FP.Core.fieldT FP.Core.b32 x.toNat = 0 := by unfold FP.Core.fieldT; rw [f1]; omega
      have d1 : FP.Core.decode FP.Core.b32 x.toNat = .inf (FP.Core.fieldS FP.Core.b32 x.toNat) := by
        unfold FP.Core.decode
        rw [eE, eT, f2, if_pos rfl, if_pos rfl]
      rw [d1]
      exact ⟨by simp, True.intro⟩
  have hf : FP.f2d x = FP.Core.f2d x := by
    unfold FP.f2d
    rw [if_neg]
    unfold FP.Core.fIsNaN FP.Core.isNaN
    simp only [decide_eq_true_eq]
    exact hd.1
  rw [hf]
  obtain ⟨T, k, g1, g2, g3⟩ := enG64 (d := FP.Core.round FP.Core.b64 (FP.Core.decode FP.Core.b32 x.toNat)) hd.2
  have er : (FP.Core.f2d x).toNat = T * 9223372036854775808 + k := by
    show (UInt64.ofNat (FP.Core.encode FP.Core.b64 (FP.Core.round FP.Core.b64 (FP.Core.decode FP.Core.b32 x.toNat)))).toNat = _
    rw [g1, UInt64.toNat_ofNat']
    omega
  unfold vf_n64
  rw [UInt64.le_iff_toNat_le, UInt64.toNat_and, er]
  show (T * 9223372036854775808 + k) &&& (2 ^ 63 - 1) ≤ 9218868437227405312
  rw [Nat.and_two_pow_sub_one_eq_mod]
  omega
end FPB
