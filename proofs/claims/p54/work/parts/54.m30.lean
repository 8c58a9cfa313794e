section MM30
theorem iW_C {D : va_G} {cy : Nat → ClassId} {s : State} {σ00 σ : SG} {H : Heap} {locs : List Loc} {N n9 t0 xe : Nat} {v : Int32} (_hB : sgB D cy s σ00 (sgPI σ t0 4 v) H locs N n9) (h : iW σ xe t0) : iW (sgPI σ t0 4 v) xe t0 := by
  unfold iW at h ⊢
  rw [sgI_nk (j := 2) (by decide), sgI_nk (j := 1) (by decide), sgI_nk (j := 0) (by decide)]
  exact h
theorem wPp_hB4 {D : va_G} {cy : Nat → ClassId} {s : State} {σ00 σ : SG} {H : Heap} {locs : List Loc} {N n9 t1 : Nat} {u : Int32} {K : KM} {g : GH} {x : Int32} {pp l1 t0 xe le : Nat} (_hB : sgB D cy s σ00 (sgPI σ t1 4 u) H locs N n9) (w : wPp K g (sgPI σ t1 4 u) x pp l1 t0 xe le) : wPp K g (sgPI σ t1 4 u) x pp l1 t0 xe le := w
theorem m_ltC {D : va_G} {cy : Nat → ClassId} {s : State} {σ00 σ : SG} {H : Heap} {locs : List Loc} {N n9 t0 xe : Nat} {b v : Int32} (_hB : sgB D cy s σ00 (sgPI (sgPI σ t0 2 (sgI σ t0 2 + b)) t0 4 v) H locs N n9) (hi : iW σ xe t0) (hb1 : 0 ≤ b.toInt) (hb2 : b.toInt ≤ 8) (c : sgI (sgPI (sgPI σ t0 2 (sgI σ t0 2 + b)) t0 4 v) t0 2 < sgI (sgPI (sgPI σ t0 2 (sgI σ t0 2 + b)) t0 4 v) t0 1) : (sgI σ t0 2).toInt + b.toInt < (sgI σ t0 1).toInt := by
  obtain ⟨i1, i2, i3, -⟩ := hi
  have es := m_addb (d := sgI σ t0 2) (b := b) i1 (by omega) hb1 (by omega)
  have q := i_lt c
  rw [sgI_nk (j := 2) (k := 4) (by decide), sgI_nk (j := 1) (k := 4) (by decide), m_stv, sgI_nk (j := 1) (k := 2) (by decide), es] at q
  exact q
end MM30
