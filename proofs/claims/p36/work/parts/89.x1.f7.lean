section VF7
/-- the class's frames, exactly -/
theorem d7_0 : decode cX9_frames 0 = .ok (.aload_n 0, 1) := by decide +kernel
theorem d7_1 : decode cX9_frames 1 = .ok (.getfield 252, 3) := by decide +kernel
theorem d7_4 : decode cX9_frames 4 = .ok (.ireturn, 1) := by decide +kernel
theorem m_frames7 (l : Launch) (D : va_G) (cy : Nat → ClassId) {ad τ : List Nat} {w : va_W} {q0 x0 : Nat} {vs : List Value} {fr0 : Int32} (ht : vi_tw vK cy (fun _ => True) ad τ w) (hw0 : w[q0]? = some (x0, .inr (14, vs))) (hv7 : vs[7]? = some (.int fr0)) (sz : Nat) : Met l yX9_frames (Cond.code yX9_frames cX9_frames 1 (some .int) :: vWall) { frames := 0, cells := 0, slots := 0, locals := 0 } (va_Pc [.ref x0] (PME D cy w sz)) (fun _ st oc t => (∃ w1 : va_W, oc = .returned (some (.int fr0)) ∧ va_P D vwCl w1 t.heap ∧ vi_tw vK cy (fun _ => True) ad τ w1 ∧ vi_kept τ [] w w1) ∧ va_F (va_A w sz) st t) 0 0 (va_A w sz) := by
  refine ro_ofW (cc := cX9_frames) (maxL := 1) (ret := (some .int)) (lv := [(0, .ref x0)]) (by decide) rfl (Nat.le_of_ble_eq_true rfl) rfl ?_
  intro p e s m below meth c ls hx hb hr hml hown hlocks hnm hts hpre hl
  obtain ⟨⟨rfl, hP, hD⟩, hK, hN⟩ := hpre
  have S : CallFix p m c cX9_frames 1 s [Value.ref x0].toArray (Cond.code yX9_frames cX9_frames 1 (some .int) :: vWall) RX9 := ⟨hx, hb, hml, hown, hts⟩
  have hS : va_S (va_A w s.heap.size) s.heap s.heap [] := va_S.rf
  refine lv_aload_n hx hb d7_0 rfl (lv_at hl 0 rfl) ?_
  refine vfg_X9 S hK hN 252 14 7 (by decide) s.heap [] 0 0 w q0 x0 1 vs [] _ ls hP hw0 hv7 d7_1 ?_
  exact W.iret hx hb hr (fun t ht9 _ => ⟨⟨w, rfl, by rw [ht9]; exact hP, ht, vi_kept_rf⟩, hS.F ht9⟩) hS.2.2 d7_4
end VF7
