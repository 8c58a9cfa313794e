section VMK
/-! the class's make, exactly -/
theorem dX9_isWithin_0 : decode cX9_isWithin 0 = .ok (.iload_n 0, 1) := by decide +kernel
theorem dX9_isWithin_1 : decode cX9_isWithin 1 = .ok (.iload_n 1, 1) := by decide +kernel
theorem dX9_isWithin_2 : decode cX9_isWithin 2 = .ok (.if_icmp .lt 12, 3) := by decide +kernel
theorem dX9_isWithin_5 : decode cX9_isWithin 5 = .ok (.iload_n 0, 1) := by decide +kernel
theorem dX9_isWithin_6 : decode cX9_isWithin 6 = .ok (.iload_n 2, 1) := by decide +kernel
theorem dX9_isWithin_7 : decode cX9_isWithin 7 = .ok (.if_icmp .gt 7, 3) := by decide +kernel
theorem dX9_isWithin_10 : decode cX9_isWithin 10 = .ok (.iconst 1, 1) := by decide +kernel
theorem dX9_isWithin_11 : decode cX9_isWithin 11 = .ok (.goto 4, 3) := by decide +kernel
theorem dX9_isWithin_14 : decode cX9_isWithin 14 = .ok (.iconst 0, 1) := by decide +kernel
theorem dX9_isWithin_15 : decode cX9_isWithin 15 = .ok (.ireturn, 1) := by decide +kernel
theorem dX9_isSpeed_0 : decode cX9_isSpeed 0 = .ok (.iload_n 0, 1) := by decide +kernel
theorem dX9_isSpeed_1 : decode cX9_isSpeed 1 = .ok (.bipush 108, 2) := by decide +kernel
theorem dX9_isSpeed_3 : decode cX9_isSpeed 3 = .ok (.if_icmp .eq 15, 3) := by decide +kernel
theorem dX9_isSpeed_6 : decode cX9_isSpeed 6 = .ok (.iload_n 0, 1) := by decide +kernel
theorem dX9_isSpeed_7 : decode cX9_isSpeed 7 = .ok (.bipush 102, 2) := by decide +kernel
theorem dX9_isSpeed_9 : decode cX9_isSpeed 9 = .ok (.if_icmp .eq 9, 3) := by decide +kernel
theorem dX9_isSpeed_12 : decode cX9_isSpeed 12 = .ok (.iload_n 0, 1) := by decide +kernel
theorem dX9_isSpeed_13 : decode cX9_isSpeed 13 = .ok (.bipush 104, 2) := by decide +kernel
theorem dX9_isSpeed_15 : decode cX9_isSpeed 15 = .ok (.if_icmp .ne 7, 3) := by decide +kernel
theorem dX9_isSpeed_18 : decode cX9_isSpeed 18 = .ok (.iconst 1, 1) := by decide +kernel
theorem dX9_isSpeed_19 : decode cX9_isSpeed 19 = .ok (.goto 4, 3) := by decide +kernel
theorem dX9_isSpeed_22 : decode cX9_isSpeed 22 = .ok (.iconst 0, 1) := by decide +kernel
theorem dX9_isSpeed_23 : decode cX9_isSpeed 23 = .ok (.ireturn, 1) := by decide +kernel
theorem dX9_make_0 : decode cX9_make 0 = .ok (.iload_n 1, 1) := by decide +kernel
theorem dX9_make_1 : decode cX9_make 1 = .ok (.invokestatic 84, 3) := by decide +kernel
theorem dX9_make_4 : decode cX9_make 4 = .ok (.ifCond .eq 32, 3) := by decide +kernel
theorem dX9_make_7 : decode cX9_make 7 = .ok (.iload_n 2, 1) := by decide +kernel
theorem dX9_make_8 : decode cX9_make 8 = .ok (.iconst 0, 1) := by decide +kernel
theorem dX9_make_9 : decode cX9_make 9 = .ok (.iconst 4, 1) := by decide +kernel
theorem dX9_make_10 : decode cX9_make 10 = .ok (.invokestatic 88, 3) := by decide +kernel
theorem dX9_make_13 : decode cX9_make 13 = .ok (.ifCond .eq 23, 3) := by decide +kernel
theorem dX9_make_16 : decode cX9_make 16 = .ok (.iload_n 3, 1) := by decide +kernel
theorem dX9_make_17 : decode cX9_make 17 = .ok (.iconst 1, 1) := by decide +kernel
theorem dX9_make_18 : decode cX9_make 18 = .ok (.iconst 5, 1) := by decide +kernel
theorem dX9_make_19 : decode cX9_make 19 = .ok (.invokestatic 88, 3) := by decide +kernel
theorem dX9_make_22 : decode cX9_make 22 = .ok (.ifCond .eq 14, 3) := by decide +kernel
theorem dX9_make_25 : decode cX9_make 25 = .ok (.iload 5, 2) := by decide +kernel
theorem dX9_make_27 : decode cX9_make 27 = .ok (.iconst 0, 1) := by decide +kernel
theorem dX9_make_28 : decode cX9_make 28 = .ok (.bipush 99, 2) := by decide +kernel
theorem dX9_make_30 : decode cX9_make 30 = .ok (.invokestatic 88, 3) := by decide +kernel
theorem dX9_make_33 : decode cX9_make 33 = .ok (.ifCond .ne 13, 3) := by decide +kernel
theorem dX9_make_39 : decode cX9_make 39 = .ok (.dup, 1) := by decide +kernel
theorem dX9_make_46 : decode cX9_make 46 = .ok (.iload_n 1, 1) := by decide +kernel
theorem dX9_make_47 : decode cX9_make 47 = .ok (.bipush 108, 2) := by decide +kernel
theorem dX9_make_49 : decode cX9_make 49 = .ok (.if_icmp .ne 17, 3) := by decide +kernel
theorem dX9_make_52 : decode cX9_make 52 = .ok (.iload_n 2, 1) := by decide +kernel
theorem dX9_make_53 : decode cX9_make 53 = .ok (.ifCond .le 13, 3) := by decide +kernel
theorem dX9_make_59 : decode cX9_make 59 = .ok (.dup, 1) := by decide +kernel
theorem dX9_make_66 : decode cX9_make 66 = .ok (.aload_n 0, 1) := by decide +kernel
theorem dX9_make_67 : decode cX9_make 67 = .ok (.getfield 81, 3) := by decide +kernel
theorem dX9_make_70 : decode cX9_make 70 = .ok (.bipush 16, 2) := by decide +kernel
theorem dX9_make_72 : decode cX9_make 72 = .ok (.if_icmp .lt 13, 3) := by decide +kernel
theorem dX9_make_78 : decode cX9_make 78 = .ok (.dup, 1) := by decide +kernel
theorem dX9_make_85 : decode cX9_make 85 = .ok (.aload_n 0, 1) := by decide +kernel
theorem dX9_make_86 : decode cX9_make 86 = .ok (.getfield 11, 3) := by decide +kernel
theorem dX9_make_89 : decode cX9_make 89 = .ok (.aload_n 0, 1) := by decide +kernel
theorem dX9_make_90 : decode cX9_make 90 = .ok (.getfield 81, 3) := by decide +kernel
theorem dX9_make_93 : decode cX9_make 93 = .ok (.aaload, 1) := by decide +kernel
theorem dX9_make_94 : decode cX9_make 94 = .ok (.astore 6, 2) := by decide +kernel
theorem dX9_make_96 : decode cX9_make 96 = .ok (.aload 6, 2) := by decide +kernel
theorem dX9_make_98 : decode cX9_make 98 = .ok (.iload_n 1, 1) := by decide +kernel
theorem dX9_make_99 : decode cX9_make 99 = .ok (.putfield 106, 3) := by decide +kernel
theorem dX9_make_102 : decode cX9_make 102 = .ok (.aload 6, 2) := by decide +kernel
theorem dX9_make_104 : decode cX9_make 104 = .ok (.iload_n 1, 1) := by decide +kernel
theorem dX9_make_105 : decode cX9_make 105 = .ok (.putfield 109, 3) := by decide +kernel
theorem dX9_make_108 : decode cX9_make 108 = .ok (.aload 6, 2) := by decide +kernel
theorem dX9_make_110 : decode cX9_make 110 = .ok (.iload_n 2, 1) := by decide +kernel
theorem dX9_make_111 : decode cX9_make 111 = .ok (.putfield 67, 3) := by decide +kernel
theorem dX9_make_114 : decode cX9_make 114 = .ok (.aload 6, 2) := by decide +kernel
theorem dX9_make_116 : decode cX9_make 116 = .ok (.iload_n 3, 1) := by decide +kernel
theorem dX9_make_117 : decode cX9_make 117 = .ok (.putfield 112, 3) := by decide +kernel
theorem dX9_make_120 : decode cX9_make 120 = .ok (.aload 6, 2) := by decide +kernel
theorem dX9_make_122 : decode cX9_make 122 = .ok (.iload_n 3, 1) := by decide +kernel
theorem dX9_make_123 : decode cX9_make 123 = .ok (.putfield 115, 3) := by decide +kernel
theorem dX9_make_126 : decode cX9_make 126 = .ok (.aload 6, 2) := by decide +kernel
theorem dX9_make_128 : decode cX9_make 128 = .ok (.iload 4, 2) := by decide +kernel
theorem dX9_make_130 : decode cX9_make 130 = .ok (.putfield 70, 3) := by decide +kernel
theorem dX9_make_133 : decode cX9_make 133 = .ok (.aload 6, 2) := by decide +kernel
theorem dX9_make_135 : decode cX9_make 135 = .ok (.iload 5, 2) := by decide +kernel
theorem dX9_make_137 : decode cX9_make 137 = .ok (.putfield 118, 3) := by decide +kernel
theorem dX9_make_140 : decode cX9_make 140 = .ok (.aload_n 0, 1) := by decide +kernel
theorem dX9_make_141 : decode cX9_make 141 = .ok (.dup, 1) := by decide +kernel
theorem dX9_make_142 : decode cX9_make 142 = .ok (.getfield 81, 3) := by decide +kernel
theorem dX9_make_145 : decode cX9_make 145 = .ok (.iconst 1, 1) := by decide +kernel
theorem dX9_make_146 : decode cX9_make 146 = .ok (.iadd, 1) := by decide +kernel
theorem dX9_make_147 : decode cX9_make 147 = .ok (.putfield 81, 3) := by decide +kernel
theorem dX9_make_150 : decode cX9_make 150 = .ok (.aload 6, 2) := by decide +kernel
theorem dX9_make_152 : decode cX9_make 152 = .ok (.getfield 121, 3) := by decide +kernel
theorem dX9_make_155 : decode cX9_make 155 = .ok (.ireturn, 1) := by decide +kernel
set_option maxRecDepth 100000 in
set_option maxHeartbeats 4000000 in
theorem c_isWithin_t (l : Launch) (D : va_G) (cy : Nat → ClassId) (w : va_W) (v a b : Int32) (h1 : ¬ v < a) (h2 : ¬ b < v) : RO l D cy w yX9_isWithin (Cond.code yX9_isWithin cX9_isWithin 3 (some .boolean) :: vWall) 0 0 [.int v, .int a, .int b] (some (.int 1)) := by
  refine ro_ofW (cc := cX9_isWithin) (maxL := 3) (ret := (some .boolean)) (lv := [(0, .int v), (1, .int a), (2, .int b)]) (by decide) rfl (Nat.le_of_ble_eq_true rfl) rfl ?_
  intro p e s m below meth c ls hx hb hr hml hown hlocks hname hts hv hl
  have hown : s.vm.findClass RX9 = some m.cls := hown
  obtain ⟨hP, hK, hN⟩ := hv
  have hS : va_S (fun _ => False) s.heap s.heap [] := va_S.rf
  refine lv_iload_n hx hb dX9_isWithin_0 rfl (lv_at hl 0 rfl) ?_
  refine lv_iload_n hx hb dX9_isWithin_1 rfl (lv_at hl 1 rfl) ?_
  refine lv_icmp_lt (tgt := 14) hx hb dX9_isWithin_2 (by decide) (fun c => absurd c h1) (fun _ => ?_)
  refine lv_iload_n hx hb dX9_isWithin_5 rfl (lv_at hl 0 rfl) ?_
  refine lv_iload_n hx hb dX9_isWithin_6 rfl (lv_at hl 2 rfl) ?_
  refine lv_icmp_gt (tgt := 14) hx hb dX9_isWithin_7 (by decide) (fun c => absurd c h2) (fun _ => ?_)
  refine lv_iconst (v := 1) hx hb dX9_isWithin_10 (by decide) ?_
  refine lv_goto (tgt := 15) hx hb dX9_isWithin_11 (by decide) ?_
  exact W.zret hx hb hr (by decide) (fun t ht hW => ⟨rfl, hS.F ht⟩) hS.2.2 dX9_isWithin_15


set_option maxRecDepth 100000 in
set_option maxHeartbeats 4000000 in
theorem c_isWithin_f (l : Launch) (D : va_G) (cy : Nat → ClassId) (w : va_W) (v a b : Int32) (h : v < a ∨ b < v) : RO l D cy w yX9_isWithin (Cond.code yX9_isWithin cX9_isWithin 3 (some .boolean) :: vWall) 0 0 [.int v, .int a, .int b] (some (.int 0)) := by
  refine ro_ofW (cc := cX9_isWithin) (maxL := 3) (ret := (some .boolean)) (lv := [(0, .int v), (1, .int a), (2, .int b)]) (by decide) rfl (Nat.le_of_ble_eq_true rfl) rfl ?_
  intro p e s m below meth c ls hx hb hr hml hown hlocks hname hts hv hl
  have hown : s.vm.findClass RX9 = some m.cls := hown
  obtain ⟨hP, hK, hN⟩ := hv
  have hS : va_S (fun _ => False) s.heap s.heap [] := va_S.rf
  refine lv_iload_n hx hb dX9_isWithin_0 rfl (lv_at hl 0 rfl) ?_
  refine lv_iload_n hx hb dX9_isWithin_1 rfl (lv_at hl 1 rfl) ?_
  refine lv_icmp_lt (tgt := 14) hx hb dX9_isWithin_2 (by decide) (fun c2 => ?_) (fun c2 => ?_)
  · refine lv_iconst (v := 0) hx hb dX9_isWithin_14 (by decide) ?_
    exact W.zret hx hb hr (by decide) (fun t ht hW => ⟨rfl, hS.F ht⟩) hS.2.2 dX9_isWithin_15
  · refine lv_iload_n hx hb dX9_isWithin_5 rfl (lv_at hl 0 rfl) ?_
    refine lv_iload_n hx hb dX9_isWithin_6 rfl (lv_at hl 2 rfl) ?_
    refine lv_icmp_gt (tgt := 14) hx hb dX9_isWithin_7 (by decide) (fun _ => ?_) (fun c => absurd (h.resolve_left c2) c)
    refine lv_iconst (v := 0) hx hb dX9_isWithin_14 (by decide) ?_
    exact W.zret hx hb hr (by decide) (fun t ht hW => ⟨rfl, hS.F ht⟩) hS.2.2 dX9_isWithin_15


set_option maxRecDepth 100000 in
set_option maxHeartbeats 4000000 in
theorem c_isSpeed_t (l : Launch) (D : va_G) (cy : Nat → ClassId) (w : va_W) (q : Int32) (h : (q = 108 ∨ q = 102 ∨ q = 104)) : RO l D cy w yX9_isSpeed (Cond.code yX9_isSpeed cX9_isSpeed 1 (some .boolean) :: vWall) 0 0 [.int q] (some (.int 1)) := by
  refine ro_ofW (cc := cX9_isSpeed) (maxL := 1) (ret := (some .boolean)) (lv := [(0, .int q)]) (by decide) rfl (Nat.le_of_ble_eq_true rfl) rfl ?_
  intro p e s m below meth c ls hx hb hr hml hown hlocks hname hts hv hl
  have hown : s.vm.findClass RX9 = some m.cls := hown
  obtain ⟨hP, hK, hN⟩ := hv
  have hS : va_S (fun _ => False) s.heap s.heap [] := va_S.rf
  refine lv_iload_n hx hb dX9_isSpeed_0 rfl (lv_at hl 0 rfl) ?_
  refine lv_bipush (v := 108) hx hb dX9_isSpeed_1 (by decide) ?_
  refine lv_icmp_eq (tgt := 18) hx hb dX9_isSpeed_3 (by decide) (fun c3 => ?_) (fun c3 => ?_)
  · refine lv_iconst (v := 1) hx hb dX9_isSpeed_18 (by decide) ?_
    refine lv_goto (tgt := 23) hx hb dX9_isSpeed_19 (by decide) ?_
    exact W.zret hx hb hr (by decide) (fun t ht hW => ⟨rfl, hS.F ht⟩) hS.2.2 dX9_isSpeed_23
  · refine lv_iload_n hx hb dX9_isSpeed_6 rfl (lv_at hl 0 rfl) ?_
    refine lv_bipush (v := 102) hx hb dX9_isSpeed_7 (by decide) ?_
    refine lv_icmp_eq (tgt := 18) hx hb dX9_isSpeed_9 (by decide) (fun c9 => ?_) (fun c9 => ?_)
    · refine lv_iconst (v := 1) hx hb dX9_isSpeed_18 (by decide) ?_
      refine lv_goto (tgt := 23) hx hb dX9_isSpeed_19 (by decide) ?_
      exact W.zret hx hb hr (by decide) (fun t ht hW => ⟨rfl, hS.F ht⟩) hS.2.2 dX9_isSpeed_23
    · refine lv_iload_n hx hb dX9_isSpeed_12 rfl (lv_at hl 0 rfl) ?_
      refine lv_bipush (v := 104) hx hb dX9_isSpeed_13 (by decide) ?_
      refine lv_icmp_ne (tgt := 22) hx hb dX9_isSpeed_15 (by decide) (fun c => absurd ((h.resolve_left c3).resolve_left c9) c) (fun _ => ?_)
      refine lv_iconst (v := 1) hx hb dX9_isSpeed_18 (by decide) ?_
      refine lv_goto (tgt := 23) hx hb dX9_isSpeed_19 (by decide) ?_
      exact W.zret hx hb hr (by decide) (fun t ht hW => ⟨rfl, hS.F ht⟩) hS.2.2 dX9_isSpeed_23


set_option maxRecDepth 100000 in
set_option maxHeartbeats 4000000 in
theorem c_isSpeed_f (l : Launch) (D : va_G) (cy : Nat → ClassId) (w : va_W) (q : Int32) (h : ¬ (q = 108 ∨ q = 102 ∨ q = 104)) : RO l D cy w yX9_isSpeed (Cond.code yX9_isSpeed cX9_isSpeed 1 (some .boolean) :: vWall) 0 0 [.int q] (some (.int 0)) := by
  refine ro_ofW (cc := cX9_isSpeed) (maxL := 1) (ret := (some .boolean)) (lv := [(0, .int q)]) (by decide) rfl (Nat.le_of_ble_eq_true rfl) rfl ?_
  intro p e s m below meth c ls hx hb hr hml hown hlocks hname hts hv hl
  have hown : s.vm.findClass RX9 = some m.cls := hown
  obtain ⟨hP, hK, hN⟩ := hv
  have hS : va_S (fun _ => False) s.heap s.heap [] := va_S.rf
  refine lv_iload_n hx hb dX9_isSpeed_0 rfl (lv_at hl 0 rfl) ?_
  refine lv_bipush (v := 108) hx hb dX9_isSpeed_1 (by decide) ?_
  refine lv_icmp_eq (tgt := 18) hx hb dX9_isSpeed_3 (by decide) (fun c => absurd c (fun z => h (Or.inl z))) (fun _ => ?_)
  refine lv_iload_n hx hb dX9_isSpeed_6 rfl (lv_at hl 0 rfl) ?_
  refine lv_bipush (v := 102) hx hb dX9_isSpeed_7 (by decide) ?_
  refine lv_icmp_eq (tgt := 18) hx hb dX9_isSpeed_9 (by decide) (fun c => absurd c (fun z => h (Or.inr (Or.inl z)))) (fun _ => ?_)
  refine lv_iload_n hx hb dX9_isSpeed_12 rfl (lv_at hl 0 rfl) ?_
  refine lv_bipush (v := 104) hx hb dX9_isSpeed_13 (by decide) ?_
  refine lv_icmp_ne (tgt := 22) hx hb dX9_isSpeed_15 (by decide) (fun _ => ?_) (fun c => absurd c (fun z => h (Or.inr (Or.inr z))))
  refine lv_iconst (v := 0) hx hb dX9_isSpeed_22 (by decide) ?_
  exact W.zret hx hb hr (by decide) (fun t ht hW => ⟨rfl, hS.F ht⟩) hS.2.2 dX9_isSpeed_23


/-- one field of a cell -/
theorem vi_put {cy : Nat → ClassId} {ad τ : List Nat} {w w0 : va_W} {M : List (Nat × Nat × Nat)} {d ci x k q a : Nat} {fs : List VA} {b : VA} {vd : List Value} {v : Value} (ht : vi_tw vK cy (vi_kept τ M w0) ad τ w) (hq : τ[q]? = some d) (hw : w[q]? = some (a, .inr (ci, vd))) (hk : vK[d]? = some (0, ci, x, fs)) (hb : fs[k]? = some b) (hv : vi_ok ad τ b v) (hM : (ci, k, d) ∈ M) : vi_tw vK cy (vi_kept τ M w0) ad τ (w.set q (a, .inr (ci, vd.set k v))) ∧ (w.set q (a, .inr (ci, vd.set k v)))[q]? = some (a, .inr (ci, vd.set k v)) ∧ k < vd.length := by
  have hadr : ad[q]? = some a := by rw [← ht.1, List.getElem?_map, hw]; rfl
  obtain ⟨ee, kk, g1, g2, g3⟩ := vi_tw_get ht hq hadr
  rw [hk] at g2
  cases (Option.some.inj g2)
  obtain ⟨vs9, e9, l9, ok9⟩ := g3
  have e10 := Option.some.inj (g1.symm.trans hw)
  injection e10 with e11 e12
  rw [e9] at e12
  injection e12 with e13
  have e14 := (Prod.mk.inj e13).2
  subst e14
  have hlt : k < vs9.length := by rw [l9]; exact (List.getElem?_eq_some_iff.mp hb).1
  refine ⟨vi_tw_set ht hq hw hk ⟨_, rfl, by rw [List.length_set]; exact l9, fun i a2 v2 h1 h2 => ?_⟩ (vi_kept_Zp (FP := [(0, ci, k, d)]) (fun q9 h9 => by cases h9 with | head => exact hM | tail _ h => cases h) 0 ci k d List.mem_cons_self w q a vs9 v hq hw ht.2.2.2), List.getElem?_set_self (List.getElem?_eq_some_iff.mp hw).1, hlt⟩
  by_cases c : k = i
  · subst c
    rw [List.getElem?_set_self hlt] at h2
    cases h2
    cases (Option.some.inj (h1.symm.trans hb))
    exact hv
  · rw [List.getElem?_set_ne c] at h2
    exact ok9 i a2 v2 h1 h2

set_option maxRecDepth 100000 in
set_option maxHeartbeats 4000000 in
theorem mk_ia (l : Launch) (D : va_G) (cy : Nat → ClassId) (hst : l.stackTraces = false) {ad τ : List Nat} {w : va_W} {q0 x0 : Nat} {vs : List Value} {cn q a b o z : Int32} (hs : vi_s1 vSG τ) (ht : vi_tw vK cy (fun _ => True) ad τ w) (hr0 : τ[q0]? = some 0) (hw0 : w[q0]? = some (x0, .inr (14, vs))) (hv1 : vs[1]? = some (.int cn)) (hno : ¬ mkOk q a b z) (sz : Nat) : vx_Met l yX9_make (Cond.code yX9_make cX9_make 7 (some .int) :: vWall) { frames := 6, cells := 1, slots := 6 * 1, locals := 90 } (va_Pc [.ref x0, .int q, .int a, .int b, .int o, .int z] (vi_PX D cy w sz)) (fun _ st oc t => (∃ (v : Option Value) (w1 : va_W), oc = .returned v ∧ va_P D vwCl w1 t.heap ∧ vi_tw vK cy (fun _ => True) ad τ w1 ∧ vi_kept τ [] w w1 ∧ False) ∧ va_F (va_A w sz) st t) (vi_Xq D vK cy ad τ [] w sz ["java/lang/IllegalArgumentException"]) 1 (6 * 1) (va_A w sz) := by
  refine th_ofW (cc := cX9_make) (maxL := 7) (ret := (some .int)) (lv := [(0, .ref x0), (1, .int q), (2, .int a), (3, .int b), (4, .int o), (5, .int z)]) (by decide) rfl (Nat.le_of_ble_eq_true rfl) rfl ?_
  intro p e s m below meth c ls hx hb hr hml hown hlocks hout hts hpre hl
  obtain ⟨⟨⟨rfl, hP, hD⟩, hK, hN⟩, hT⟩ := hpre
  have hown : s.vm.findClass RX9 = some m.cls := hown
  have S : CallFix p m c cX9_make 7 s [Value.ref x0, .int q, .int a, .int b, .int o, .int z].toArray (Cond.code yX9_make cX9_make 7 (some .int) :: vWall) RX9 := ⟨hx, hb, hml, hown, hts⟩
  have hDs := hD.self (sz := s.heap.size)
  have hS : va_S (va_A w s.heap.size) s.heap s.heap [] := va_S.rf
  have e0 : (0 : Int32).toInt = 0 := rfl
  have e4 : (4 : Int32).toInt = 4 := rfl
  have e1 : (1 : Int32).toInt = 1 := rfl
  have e5 : (5 : Int32).toInt = 5 := rfl
  have e99 : (99 : Int32).toInt = 99 := rfl
  have hX1 : vi_Xr p l e { frames := 6, cells := 1, slots := 6 * 1, locals := 90 } s m [Value.ref x0, .int q, .int a, .int b, .int o, .int z].toArray below meth c (vx_MQ below (fun _ st oc t => (∃ (v : Option Value) (w1 : va_W), oc = .returned v ∧ va_P D vwCl w1 t.heap ∧ vi_tw vK cy (fun _ => True) ad τ w1 ∧ vi_kept τ [] w w1 ∧ False) ∧ va_F (va_A w s.heap.size) st t) (vi_Xq D vK cy ad τ [] w s.heap.size ["java/lang/IllegalArgumentException"]) [Value.ref x0, .int q, .int a, .int b, .int o, .int z].toArray s 1 (6 * 1) (va_A w s.heap.size)) vK 7 D cy (vi_kept τ [] w) ad τ (va_A w s.heap.size) s.heap 1 36 := vi_throwS (WS := _ :: vWall) (text := "no such device can be made") (ik := 92) (is := 94) (ic := 96) (X := "java/lang/IllegalArgumentException") S.1 S.2.1 hst S.2.2.2.2 S.2.2.2.1 (by decide) (by decide) hT (by decide) (List.mem_cons_of_mem _ (vm_4 _ (List.mem_of_getElem? (i := 14) rfl))) (List.mem_cons_of_mem _ (vm_4 _ (List.mem_of_getElem? (i := 15) rfl))) (fun w h => List.mem_cons_of_mem _ (vmx_2 w h)) (by decide +kernel) (by decide +kernel) (by decide) S.2.2.1 (by decide +kernel) (by decide +kernel) (by decide +kernel) (by decide +kernel) (by decide +kernel) hout hlocks (Nat.le_of_ble_eq_true rfl) (Nat.le_of_ble_eq_true rfl) ⟨Nat.le_refl _, Nat.le_refl _⟩ (Nat.le_refl _) (fun _ h => h)
  have hX2 : vi_Xr p l e { frames := 6, cells := 1, slots := 6 * 1, locals := 90 } s m [Value.ref x0, .int q, .int a, .int b, .int o, .int z].toArray below meth c (vx_MQ below (fun _ st oc t => (∃ (v : Option Value) (w1 : va_W), oc = .returned v ∧ va_P D vwCl w1 t.heap ∧ vi_tw vK cy (fun _ => True) ad τ w1 ∧ vi_kept τ [] w w1 ∧ False) ∧ va_F (va_A w s.heap.size) st t) (vi_Xq D vK cy ad τ [] w s.heap.size ["java/lang/IllegalArgumentException"]) [Value.ref x0, .int q, .int a, .int b, .int o, .int z].toArray s 1 (6 * 1) (va_A w s.heap.size)) vK 7 D cy (vi_kept τ [] w) ad τ (va_A w s.heap.size) s.heap 1 56 := vi_throwS (WS := _ :: vWall) (text := "a hub is not low") (ik := 92) (is := 99) (ic := 96) (X := "java/lang/IllegalArgumentException") S.1 S.2.1 hst S.2.2.2.2 S.2.2.2.1 (by decide) (by decide) hT (by decide) (List.mem_cons_of_mem _ (vm_4 _ (List.mem_of_getElem? (i := 14) rfl))) (List.mem_cons_of_mem _ (vm_4 _ (List.mem_of_getElem? (i := 15) rfl))) (fun w h => List.mem_cons_of_mem _ (vmx_2 w h)) (by decide +kernel) (by decide +kernel) (by decide) S.2.2.1 (by decide +kernel) (by decide +kernel) (by decide +kernel) (by decide +kernel) (by decide +kernel) hout hlocks (Nat.le_of_ble_eq_true rfl) (Nat.le_of_ble_eq_true rfl) ⟨Nat.le_refl _, Nat.le_refl _⟩ (Nat.le_refl _) (fun _ h => h)
  refine lv_iload_n hx hb dX9_make_0 rfl (lv_at hl 1 rfl) ?_
  by_cases s1 : (q = 108 ∨ q = 102 ∨ q = 104)
  · skip
    refine ro_callS (A0 := va_A w s.heap.size) (H0 := s.heap) S (c_isSpeed_t l D cy w q s1) (cwS 1 S.2.2.2.2 (vgS (vm_4 _ (List.mem_of_getElem? (i := 18) rfl)) (vm_4 _ (List.mem_of_getElem? (i := 19) rfl)) (vm_4 _ (List.mem_of_getElem? (i := 20) rfl)) (vm_4 _ (List.mem_of_getElem? (i := 11) rfl))) rfl rfl rfl ⟨rfl, by decide, by decide, by decide +kernel⟩ ⟨Nat.le_of_ble_eq_true rfl, Nat.le_of_ble_eq_true rfl⟩) hK hN hP hS rfl hl.1 rfl (Nat.le_of_ble_eq_true rfl) dX9_make_1 ⟨Nat.le_of_ble_eq_true rfl, Nat.le_of_ble_eq_true rfl⟩ (fun H locs hP hS => ?_)
    refine lv_if_eq (tgt := 36) hx hb dX9_make_4 (by decide) (fun h9 => absurd h9 (by decide)) (fun _ => ?_)
    refine lv_iload_n hx hb dX9_make_7 rfl (lv_at hl 2 rfl) ?_
    refine lv_iconst (v := 0) hx hb dX9_make_8 (by decide) ?_
    refine lv_iconst (v := 4) hx hb dX9_make_9 (by decide) ?_
    by_cases s2 : 0 ≤ a.toInt ∧ a.toInt ≤ 4
    · skip
      refine ro_callS (A0 := va_A w s.heap.size) (H0 := s.heap) S (c_isWithin_t l D cy w a 0 4 (fun h9 => by have := i_lt h9; omega) (fun h9 => by have := i_lt h9; omega)) (cwS 3 S.2.2.2.2 (vgS (vm_4 _ (List.mem_of_getElem? (i := 21) rfl)) (vm_4 _ (List.mem_of_getElem? (i := 22) rfl)) (vm_4 _ (List.mem_of_getElem? (i := 20) rfl)) (vm_4 _ (List.mem_of_getElem? (i := 12) rfl))) rfl rfl rfl ⟨rfl, by decide, by decide, by decide +kernel⟩ ⟨Nat.le_of_ble_eq_true rfl, Nat.le_of_ble_eq_true rfl⟩) hK hN hP hS rfl hl.1 rfl (Nat.le_of_ble_eq_true rfl) dX9_make_10 ⟨Nat.le_of_ble_eq_true rfl, Nat.le_of_ble_eq_true rfl⟩ (fun H locs hP hS => ?_)
      refine lv_if_eq (tgt := 36) hx hb dX9_make_13 (by decide) (fun h9 => absurd h9 (by decide)) (fun _ => ?_)
      refine lv_iload_n hx hb dX9_make_16 rfl (lv_at hl 3 rfl) ?_
      refine lv_iconst (v := 1) hx hb dX9_make_17 (by decide) ?_
      refine lv_iconst (v := 5) hx hb dX9_make_18 (by decide) ?_
      by_cases s3 : 1 ≤ b.toInt ∧ b.toInt ≤ 5
      · skip
        refine ro_callS (A0 := va_A w s.heap.size) (H0 := s.heap) S (c_isWithin_t l D cy w b 1 5 (fun h9 => by have := i_lt h9; omega) (fun h9 => by have := i_lt h9; omega)) (cwS 3 S.2.2.2.2 (vgS (vm_4 _ (List.mem_of_getElem? (i := 21) rfl)) (vm_4 _ (List.mem_of_getElem? (i := 22) rfl)) (vm_4 _ (List.mem_of_getElem? (i := 20) rfl)) (vm_4 _ (List.mem_of_getElem? (i := 12) rfl))) rfl rfl rfl ⟨rfl, by decide, by decide, by decide +kernel⟩ ⟨Nat.le_of_ble_eq_true rfl, Nat.le_of_ble_eq_true rfl⟩) hK hN hP hS rfl hl.1 rfl (Nat.le_of_ble_eq_true rfl) dX9_make_19 ⟨Nat.le_of_ble_eq_true rfl, Nat.le_of_ble_eq_true rfl⟩ (fun H locs hP hS => ?_)
        refine lv_if_eq (tgt := 36) hx hb dX9_make_22 (by decide) (fun h9 => absurd h9 (by decide)) (fun _ => ?_)
        refine lv_iload hx hb dX9_make_25 (lv_at hl 5 rfl) ?_
        refine lv_iconst (v := 0) hx hb dX9_make_27 (by decide) ?_
        refine lv_bipush (v := 99) hx hb dX9_make_28 (by decide) ?_
        by_cases s4 : 0 ≤ z.toInt ∧ z.toInt ≤ 99
        · skip
          refine ro_callS (A0 := va_A w s.heap.size) (H0 := s.heap) S (c_isWithin_t l D cy w z 0 99 (fun h9 => by have := i_lt h9; omega) (fun h9 => by have := i_lt h9; omega)) (cwS 3 S.2.2.2.2 (vgS (vm_4 _ (List.mem_of_getElem? (i := 21) rfl)) (vm_4 _ (List.mem_of_getElem? (i := 22) rfl)) (vm_4 _ (List.mem_of_getElem? (i := 20) rfl)) (vm_4 _ (List.mem_of_getElem? (i := 12) rfl))) rfl rfl rfl ⟨rfl, by decide, by decide, by decide +kernel⟩ ⟨Nat.le_of_ble_eq_true rfl, Nat.le_of_ble_eq_true rfl⟩) hK hN hP hS rfl hl.1 rfl (Nat.le_of_ble_eq_true rfl) dX9_make_30 ⟨Nat.le_of_ble_eq_true rfl, Nat.le_of_ble_eq_true rfl⟩ (fun H locs hP hS => ?_)
          refine lv_if_ne (tgt := 46) hx hb dX9_make_33 (by decide) (fun _ => ?_) (fun h9 => absurd h9 (show ¬ (1 : Int32) = 0 from by decide))
          refine lv_iload_n hx hb dX9_make_46 rfl (lv_at hl 1 rfl) ?_
          refine lv_bipush (v := 108) hx hb dX9_make_47 (by decide) ?_
          refine lv_icmp_ne (tgt := 66) hx hb dX9_make_49 (by decide) (fun h8 => (hno ⟨s1, by rw [e0, e4]; exact s2, by rw [e1, e5]; exact s3, by rw [e0, e99]; exact s4, fun h9 => h8 h9.1⟩).elim) (fun h8 => ?_)
          refine lv_iload_n hx hb dX9_make_52 rfl (lv_at hl 2 rfl) ?_
          refine lv_if_le (tgt := 66) hx hb dX9_make_53 (by decide) (fun h8 => (hno ⟨s1, by rw [e0, e4]; exact s2, by rw [e1, e5]; exact s3, by rw [e0, e99]; exact s4, fun h9 => h9.2 h8⟩).elim) (fun _ => ?_)
          exact hX2 H locs 0 w ls [] hP hDs hS (vi_tw_Z ht vi_kept_rf) (Nat.le_refl _) (Nat.zero_le _) hl.1
        · skip
          refine ro_callS (A0 := va_A w s.heap.size) (H0 := s.heap) S (c_isWithin_f l D cy w z 0 99 (by rcases Classical.em (z < 0) with h9 | h9; exact Or.inl h9; exact Or.inr (Int32.lt_iff_toInt_lt.mpr (by have := i_nlt h9; omega)))) (cwS 3 S.2.2.2.2 (vgS (vm_4 _ (List.mem_of_getElem? (i := 21) rfl)) (vm_4 _ (List.mem_of_getElem? (i := 22) rfl)) (vm_4 _ (List.mem_of_getElem? (i := 20) rfl)) (vm_4 _ (List.mem_of_getElem? (i := 12) rfl))) rfl rfl rfl ⟨rfl, by decide, by decide, by decide +kernel⟩ ⟨Nat.le_of_ble_eq_true rfl, Nat.le_of_ble_eq_true rfl⟩) hK hN hP hS rfl hl.1 rfl (Nat.le_of_ble_eq_true rfl) dX9_make_30 ⟨Nat.le_of_ble_eq_true rfl, Nat.le_of_ble_eq_true rfl⟩ (fun H locs hP hS => ?_)
          refine lv_if_ne (tgt := 46) hx hb dX9_make_33 (by decide) (fun h9 => absurd rfl h9) (fun _ => ?_)
          exact hX1 H locs 0 w ls [] hP hDs hS (vi_tw_Z ht vi_kept_rf) (Nat.le_refl _) (Nat.zero_le _) hl.1
      · skip
        refine ro_callS (A0 := va_A w s.heap.size) (H0 := s.heap) S (c_isWithin_f l D cy w b 1 5 (by rcases Classical.em (b < 1) with h9 | h9; exact Or.inl h9; exact Or.inr (Int32.lt_iff_toInt_lt.mpr (by have := i_nlt h9; omega)))) (cwS 3 S.2.2.2.2 (vgS (vm_4 _ (List.mem_of_getElem? (i := 21) rfl)) (vm_4 _ (List.mem_of_getElem? (i := 22) rfl)) (vm_4 _ (List.mem_of_getElem? (i := 20) rfl)) (vm_4 _ (List.mem_of_getElem? (i := 12) rfl))) rfl rfl rfl ⟨rfl, by decide, by decide, by decide +kernel⟩ ⟨Nat.le_of_ble_eq_true rfl, Nat.le_of_ble_eq_true rfl⟩) hK hN hP hS rfl hl.1 rfl (Nat.le_of_ble_eq_true rfl) dX9_make_19 ⟨Nat.le_of_ble_eq_true rfl, Nat.le_of_ble_eq_true rfl⟩ (fun H locs hP hS => ?_)
        refine lv_if_eq (tgt := 36) hx hb dX9_make_22 (by decide) (fun _ => ?_) (fun h9 => absurd rfl h9)
        exact hX1 H locs 0 w ls [] hP hDs hS (vi_tw_Z ht vi_kept_rf) (Nat.le_refl _) (Nat.zero_le _) hl.1
    · skip
      refine ro_callS (A0 := va_A w s.heap.size) (H0 := s.heap) S (c_isWithin_f l D cy w a 0 4 (by rcases Classical.em (a < 0) with h9 | h9; exact Or.inl h9; exact Or.inr (Int32.lt_iff_toInt_lt.mpr (by have := i_nlt h9; omega)))) (cwS 3 S.2.2.2.2 (vgS (vm_4 _ (List.mem_of_getElem? (i := 21) rfl)) (vm_4 _ (List.mem_of_getElem? (i := 22) rfl)) (vm_4 _ (List.mem_of_getElem? (i := 20) rfl)) (vm_4 _ (List.mem_of_getElem? (i := 12) rfl))) rfl rfl rfl ⟨rfl, by decide, by decide, by decide +kernel⟩ ⟨Nat.le_of_ble_eq_true rfl, Nat.le_of_ble_eq_true rfl⟩) hK hN hP hS rfl hl.1 rfl (Nat.le_of_ble_eq_true rfl) dX9_make_10 ⟨Nat.le_of_ble_eq_true rfl, Nat.le_of_ble_eq_true rfl⟩ (fun H locs hP hS => ?_)
      refine lv_if_eq (tgt := 36) hx hb dX9_make_13 (by decide) (fun _ => ?_) (fun h9 => absurd rfl h9)
      exact hX1 H locs 0 w ls [] hP hDs hS (vi_tw_Z ht vi_kept_rf) (Nat.le_refl _) (Nat.zero_le _) hl.1
  · skip
    refine ro_callS (A0 := va_A w s.heap.size) (H0 := s.heap) S (c_isSpeed_f l D cy w q s1) (cwS 1 S.2.2.2.2 (vgS (vm_4 _ (List.mem_of_getElem? (i := 18) rfl)) (vm_4 _ (List.mem_of_getElem? (i := 19) rfl)) (vm_4 _ (List.mem_of_getElem? (i := 20) rfl)) (vm_4 _ (List.mem_of_getElem? (i := 11) rfl))) rfl rfl rfl ⟨rfl, by decide, by decide, by decide +kernel⟩ ⟨Nat.le_of_ble_eq_true rfl, Nat.le_of_ble_eq_true rfl⟩) hK hN hP hS rfl hl.1 rfl (Nat.le_of_ble_eq_true rfl) dX9_make_1 ⟨Nat.le_of_ble_eq_true rfl, Nat.le_of_ble_eq_true rfl⟩ (fun H locs hP hS => ?_)
    refine lv_if_eq (tgt := 36) hx hb dX9_make_4 (by decide) (fun _ => ?_) (fun h9 => absurd rfl h9)
    exact hX1 H locs 0 w ls [] hP hDs hS (vi_tw_Z ht vi_kept_rf) (Nat.le_refl _) (Nat.zero_le _) hl.1

set_option maxRecDepth 100000 in
set_option maxHeartbeats 4000000 in
theorem mk_is (l : Launch) (D : va_G) (cy : Nat → ClassId) (hst : l.stackTraces = false) {ad τ : List Nat} {w : va_W} {q0 x0 : Nat} {vs : List Value} {cn q a b o z : Int32} (hs : vi_s1 vSG τ) (ht : vi_tw vK cy (fun _ => True) ad τ w) (hr0 : τ[q0]? = some 0) (hw0 : w[q0]? = some (x0, .inr (14, vs))) (hv1 : vs[1]? = some (.int cn)) (hok : mkOk q a b z) (hc16 : cn = 16) (sz : Nat) : vx_Met l yX9_make (Cond.code yX9_make cX9_make 7 (some .int) :: vWall) { frames := 6, cells := 1, slots := 6 * 1, locals := 90 } (va_Pc [.ref x0, .int q, .int a, .int b, .int o, .int z] (vi_PX D cy w sz)) (fun _ st oc t => (∃ (v : Option Value) (w1 : va_W), oc = .returned v ∧ va_P D vwCl w1 t.heap ∧ vi_tw vK cy (fun _ => True) ad τ w1 ∧ vi_kept τ [] w w1 ∧ False) ∧ va_F (va_A w sz) st t) (vi_Xq D vK cy ad τ [] w sz ["java/lang/IllegalStateException"]) 1 (6 * 1) (va_A w sz) := by
  refine th_ofW (cc := cX9_make) (maxL := 7) (ret := (some .int)) (lv := [(0, .ref x0), (1, .int q), (2, .int a), (3, .int b), (4, .int o), (5, .int z)]) (by decide) rfl (Nat.le_of_ble_eq_true rfl) rfl ?_
  intro p e s m below meth c ls hx hb hr hml hown hlocks hout hts hpre hl
  obtain ⟨⟨⟨rfl, hP, hD⟩, hK, hN⟩, hT⟩ := hpre
  have hown : s.vm.findClass RX9 = some m.cls := hown
  have S : CallFix p m c cX9_make 7 s [Value.ref x0, .int q, .int a, .int b, .int o, .int z].toArray (Cond.code yX9_make cX9_make 7 (some .int) :: vWall) RX9 := ⟨hx, hb, hml, hown, hts⟩
  have hDs := hD.self (sz := s.heap.size)
  have hS : va_S (va_A w s.heap.size) s.heap s.heap [] := va_S.rf
  have e0 : (0 : Int32).toInt = 0 := rfl
  have e4 : (4 : Int32).toInt = 4 := rfl
  have e1 : (1 : Int32).toInt = 1 := rfl
  have e5 : (5 : Int32).toInt = 5 := rfl
  have e99 : (99 : Int32).toInt = 99 := rfl
  have hX3 : vi_Xr p l e { frames := 6, cells := 1, slots := 6 * 1, locals := 90 } s m [Value.ref x0, .int q, .int a, .int b, .int o, .int z].toArray below meth c (vx_MQ below (fun _ st oc t => (∃ (v : Option Value) (w1 : va_W), oc = .returned v ∧ va_P D vwCl w1 t.heap ∧ vi_tw vK cy (fun _ => True) ad τ w1 ∧ vi_kept τ [] w w1 ∧ False) ∧ va_F (va_A w s.heap.size) st t) (vi_Xq D vK cy ad τ [] w s.heap.size ["java/lang/IllegalStateException"]) [Value.ref x0, .int q, .int a, .int b, .int o, .int z].toArray s 1 (6 * 1) (va_A w s.heap.size)) vK 7 D cy (vi_kept τ [] w) ad τ (va_A w s.heap.size) s.heap 1 75 := vi_throwS (WS := _ :: vWall) (text := "there are 16 devices") (ik := 101) (is := 103) (ic := 105) (X := "java/lang/IllegalStateException") S.1 S.2.1 hst S.2.2.2.2 S.2.2.2.1 (by decide) (by decide) hT (by decide) (List.mem_cons_of_mem _ (vm_4 _ (List.mem_of_getElem? (i := 16) rfl))) (List.mem_cons_of_mem _ (vm_4 _ (List.mem_of_getElem? (i := 17) rfl))) (fun w h => List.mem_cons_of_mem _ (vmx_3 w h)) (by decide +kernel) (by decide +kernel) (by decide) S.2.2.1 (by decide +kernel) (by decide +kernel) (by decide +kernel) (by decide +kernel) (by decide +kernel) hout hlocks (Nat.le_of_ble_eq_true rfl) (Nat.le_of_ble_eq_true rfl) ⟨Nat.le_refl _, Nat.le_refl _⟩ (Nat.le_refl _) (fun _ h => h)
  have hgo : ∀ (H : Heap) (locs : List Loc), va_P D vwCl w H → va_S (va_A w s.heap.size) s.heap H locs → W p l e { frames := 6, cells := 1, slots := 6 * 1, locals := 90 } s m [Value.ref x0, .int q, .int a, .int b, .int o, .int z].toArray below meth c H locs 0 0 (vx_MQ below (fun _ st oc t => (∃ (v : Option Value) (w1 : va_W), oc = .returned v ∧ va_P D vwCl w1 t.heap ∧ vi_tw vK cy (fun _ => True) ad τ w1 ∧ vi_kept τ [] w w1 ∧ False) ∧ va_F (va_A w s.heap.size) st t) (vi_Xq D vK cy ad τ [] w s.heap.size ["java/lang/IllegalStateException"]) [Value.ref x0, .int q, .int a, .int b, .int o, .int z].toArray s 1 (6 * 1) (va_A w s.heap.size)) (F0 m 66 ls []) := by
    intro H locs hP hS
    refine lv_aload_n hx hb dX9_make_66 rfl (lv_at hl 0 rfl) ?_
    refine vfg_X9 S hK hN 81 14 1 (by decide) H locs 0 0 w q0 x0 67 vs [] _ ls hP hw0 hv1 dX9_make_67 ?_
    refine lv_bipush (v := 16) hx hb dX9_make_70 (by decide) ?_
    refine lv_icmp_lt (tgt := 85) hx hb dX9_make_72 (by decide) (fun h9 => absurd (hc16 ▸ h9) (by decide)) (fun _ => ?_)
    exact hX3 H locs 0 w ls [] hP hDs hS (vi_tw_Z ht vi_kept_rf) (Nat.le_refl _) (Nat.zero_le _) hl.1
  obtain ⟨s1, s2, s3, s4, s5⟩ := hok
  rw [e0, e4] at s2
  rw [e1, e5] at s3
  rw [e0, e99] at s4
  refine lv_iload_n hx hb dX9_make_0 rfl (lv_at hl 1 rfl) ?_
  refine ro_callS (A0 := va_A w s.heap.size) (H0 := s.heap) S (c_isSpeed_t l D cy w q s1) (cwS 1 S.2.2.2.2 (vgS (vm_4 _ (List.mem_of_getElem? (i := 18) rfl)) (vm_4 _ (List.mem_of_getElem? (i := 19) rfl)) (vm_4 _ (List.mem_of_getElem? (i := 20) rfl)) (vm_4 _ (List.mem_of_getElem? (i := 11) rfl))) rfl rfl rfl ⟨rfl, by decide, by decide, by decide +kernel⟩ ⟨Nat.le_of_ble_eq_true rfl, Nat.le_of_ble_eq_true rfl⟩) hK hN hP hS rfl hl.1 rfl (Nat.le_of_ble_eq_true rfl) dX9_make_1 ⟨Nat.le_of_ble_eq_true rfl, Nat.le_of_ble_eq_true rfl⟩ (fun H locs hP hS => ?_)
  refine lv_if_eq (tgt := 36) hx hb dX9_make_4 (by decide) (fun h9 => absurd h9 (by decide)) (fun _ => ?_)
  refine lv_iload_n hx hb dX9_make_7 rfl (lv_at hl 2 rfl) ?_
  refine lv_iconst (v := 0) hx hb dX9_make_8 (by decide) ?_
  refine lv_iconst (v := 4) hx hb dX9_make_9 (by decide) ?_
  refine ro_callS (A0 := va_A w s.heap.size) (H0 := s.heap) S (c_isWithin_t l D cy w a 0 4 (fun h9 => by have := i_lt h9; omega) (fun h9 => by have := i_lt h9; omega)) (cwS 3 S.2.2.2.2 (vgS (vm_4 _ (List.mem_of_getElem? (i := 21) rfl)) (vm_4 _ (List.mem_of_getElem? (i := 22) rfl)) (vm_4 _ (List.mem_of_getElem? (i := 20) rfl)) (vm_4 _ (List.mem_of_getElem? (i := 12) rfl))) rfl rfl rfl ⟨rfl, by decide, by decide, by decide +kernel⟩ ⟨Nat.le_of_ble_eq_true rfl, Nat.le_of_ble_eq_true rfl⟩) hK hN hP hS rfl hl.1 rfl (Nat.le_of_ble_eq_true rfl) dX9_make_10 ⟨Nat.le_of_ble_eq_true rfl, Nat.le_of_ble_eq_true rfl⟩ (fun H locs hP hS => ?_)
  refine lv_if_eq (tgt := 36) hx hb dX9_make_13 (by decide) (fun h9 => absurd h9 (by decide)) (fun _ => ?_)
  refine lv_iload_n hx hb dX9_make_16 rfl (lv_at hl 3 rfl) ?_
  refine lv_iconst (v := 1) hx hb dX9_make_17 (by decide) ?_
  refine lv_iconst (v := 5) hx hb dX9_make_18 (by decide) ?_
  refine ro_callS (A0 := va_A w s.heap.size) (H0 := s.heap) S (c_isWithin_t l D cy w b 1 5 (fun h9 => by have := i_lt h9; omega) (fun h9 => by have := i_lt h9; omega)) (cwS 3 S.2.2.2.2 (vgS (vm_4 _ (List.mem_of_getElem? (i := 21) rfl)) (vm_4 _ (List.mem_of_getElem? (i := 22) rfl)) (vm_4 _ (List.mem_of_getElem? (i := 20) rfl)) (vm_4 _ (List.mem_of_getElem? (i := 12) rfl))) rfl rfl rfl ⟨rfl, by decide, by decide, by decide +kernel⟩ ⟨Nat.le_of_ble_eq_true rfl, Nat.le_of_ble_eq_true rfl⟩) hK hN hP hS rfl hl.1 rfl (Nat.le_of_ble_eq_true rfl) dX9_make_19 ⟨Nat.le_of_ble_eq_true rfl, Nat.le_of_ble_eq_true rfl⟩ (fun H locs hP hS => ?_)
  refine lv_if_eq (tgt := 36) hx hb dX9_make_22 (by decide) (fun h9 => absurd h9 (by decide)) (fun _ => ?_)
  refine lv_iload hx hb dX9_make_25 (lv_at hl 5 rfl) ?_
  refine lv_iconst (v := 0) hx hb dX9_make_27 (by decide) ?_
  refine lv_bipush (v := 99) hx hb dX9_make_28 (by decide) ?_
  refine ro_callS (A0 := va_A w s.heap.size) (H0 := s.heap) S (c_isWithin_t l D cy w z 0 99 (fun h9 => by have := i_lt h9; omega) (fun h9 => by have := i_lt h9; omega)) (cwS 3 S.2.2.2.2 (vgS (vm_4 _ (List.mem_of_getElem? (i := 21) rfl)) (vm_4 _ (List.mem_of_getElem? (i := 22) rfl)) (vm_4 _ (List.mem_of_getElem? (i := 20) rfl)) (vm_4 _ (List.mem_of_getElem? (i := 12) rfl))) rfl rfl rfl ⟨rfl, by decide, by decide, by decide +kernel⟩ ⟨Nat.le_of_ble_eq_true rfl, Nat.le_of_ble_eq_true rfl⟩) hK hN hP hS rfl hl.1 rfl (Nat.le_of_ble_eq_true rfl) dX9_make_30 ⟨Nat.le_of_ble_eq_true rfl, Nat.le_of_ble_eq_true rfl⟩ (fun H locs hP hS => ?_)
  refine lv_if_ne (tgt := 46) hx hb dX9_make_33 (by decide) (fun _ => ?_) (fun h9 => absurd h9 (show ¬ (1 : Int32) = 0 from by decide))
  refine lv_iload_n hx hb dX9_make_46 rfl (lv_at hl 1 rfl) ?_
  refine lv_bipush (v := 108) hx hb dX9_make_47 (by decide) ?_
  refine lv_icmp_ne (tgt := 66) hx hb dX9_make_49 (by decide) (fun _ => hgo H locs hP hS) (fun h8 => ?_)
  refine lv_iload_n hx hb dX9_make_52 rfl (lv_at hl 2 rfl) ?_
  exact lv_if_le (tgt := 66) hx hb dX9_make_53 (by decide) (fun _ => hgo H locs hP hS) (fun h9 => (s5 ⟨h8, h9⟩).elim)

set_option maxRecDepth 100000 in
set_option maxHeartbeats 4000000 in
theorem mk_ok (l : Launch) (D : va_G) (cy : Nat → ClassId) (hst : l.stackTraces = false) {ad τ : List Nat} {w : va_W} {q0 x0 : Nat} {vs : List Value} {cn q a b o z : Int32} (hs : vi_s1 vSG τ) (ht : vi_tw vK cy (fun _ => True) ad τ w) (hr0 : τ[q0]? = some 0) (hw0 : w[q0]? = some (x0, .inr (14, vs))) (hv1 : vs[1]? = some (.int cn)) (hok : mkOk q a b z) (hc1 : 1 ≤ cn.toInt) (hc16 : cn.toInt < 16) {av qv qd dd : Nat} {f : Nat → Option Nat} {vd : List Value} (hv0 : vs[0]? = some (.ref av)) (hwv : w[qv]? = some (av, .inl (cy 4, 16, .inr (.inr (.inr (.inr f)))))) (hfd : f cn.toInt.toNat = some dd) (hwd : w[qd]? = some (dd, .inr (6, vd))) (hrd : τ[qd]? = some 4) (hvd : vd[0]? = some (.int cn)) (hq9 : 0 ≤ q.toInt ∧ q.toInt ≤ 65535) (ho9 : 0 ≤ o.toInt ∧ o.toInt ≤ 1) (sz : Nat) : vx_Met l yX9_make (Cond.code yX9_make cX9_make 7 (some .int) :: vWall) { frames := 6, cells := 1, slots := 6 * 1, locals := 90 } (va_Pc [.ref x0, .int q, .int a, .int b, .int o, .int z] (vi_PX D cy w sz)) (fun _ st oc t => (∃ (v : Option Value) (w1 : va_W), oc = .returned v ∧ va_P D vwCl w1 t.heap ∧ vi_tw vK cy (fun _ => True) ad τ w1 ∧ vi_kept τ [(6, 1, 4), (6, 2, 4), (6, 3, 4), (6, 4, 4), (6, 5, 4), (6, 6, 4), (6, 11, 4), (14, 1, 0)] w w1 ∧ (v = some (.int cn) ∧ w1[q0]? = some (x0, .inr (14, vs.set 1 (.int (cn + 1)))))) ∧ va_F (va_A w sz) st t) (vi_Xq D vK cy ad τ [(6, 1, 4), (6, 2, 4), (6, 3, 4), (6, 4, 4), (6, 5, 4), (6, 6, 4), (6, 11, 4), (14, 1, 0)] w sz []) 1 (6 * 1) (va_A w sz) := by
  refine th_ofW (cc := cX9_make) (maxL := 7) (ret := (some .int)) (lv := [(0, .ref x0), (1, .int q), (2, .int a), (3, .int b), (4, .int o), (5, .int z)]) (by decide) rfl (Nat.le_of_ble_eq_true rfl) rfl ?_
  intro p e s m below meth c ls hx hb hr hml hown hlocks hout hts hpre hl
  obtain ⟨⟨⟨rfl, hP, hD⟩, hK, hN⟩, hT⟩ := hpre
  have hown : s.vm.findClass RX9 = some m.cls := hown
  have S : CallFix p m c cX9_make 7 s [Value.ref x0, .int q, .int a, .int b, .int o, .int z].toArray (Cond.code yX9_make cX9_make 7 (some .int) :: vWall) RX9 := ⟨hx, hb, hml, hown, hts⟩
  have hDs := hD.self (sz := s.heap.size)
  have hS : va_S (va_A w s.heap.size) s.heap s.heap [] := va_S.rf
  have e0 : (0 : Int32).toInt = 0 := rfl
  have e4 : (4 : Int32).toInt = 4 := rfl
  have e1 : (1 : Int32).toInt = 1 := rfl
  have e5 : (5 : Int32).toInt = 5 := rfl
  have e99 : (99 : Int32).toInt = 99 := rfl
  have e16 : (16 : Int32).toInt = 16 := rfl
  have nq : qd ≠ q0 := fun z9 => by rw [z9, hw0] at hwd; injection hwd with h8; injection h8 with h9 h10; injection h10 with h11; exact absurd (Prod.mk.inj h11).1 (by decide)
  obtain ⟨s1, s2, s3, s4, s5⟩ := hok
  rw [e0, e4] at s2
  rw [e1, e5] at s3
  rw [e0, e99] at s4
  have hgo : ∀ (H : Heap) (locs : List Loc), va_P D vwCl w H → va_S (va_A w s.heap.size) s.heap H locs → W p l e { frames := 6, cells := 1, slots := 6 * 1, locals := 90 } s m [Value.ref x0, .int q, .int a, .int b, .int o, .int z].toArray below meth c H locs 0 0 (vx_MQ below (fun _ st oc t => (∃ (v : Option Value) (w1 : va_W), oc = .returned v ∧ va_P D vwCl w1 t.heap ∧ vi_tw vK cy (fun _ => True) ad τ w1 ∧ vi_kept τ [(6, 1, 4), (6, 2, 4), (6, 3, 4), (6, 4, 4), (6, 5, 4), (6, 6, 4), (6, 11, 4), (14, 1, 0)] w w1 ∧ (v = some (.int cn) ∧ w1[q0]? = some (x0, .inr (14, vs.set 1 (.int (cn + 1)))))) ∧ va_F (va_A w s.heap.size) st t) (vi_Xq D vK cy ad τ [(6, 1, 4), (6, 2, 4), (6, 3, 4), (6, 4, 4), (6, 5, 4), (6, 6, 4), (6, 11, 4), (14, 1, 0)] w s.heap.size []) [Value.ref x0, .int q, .int a, .int b, .int o, .int z].toArray s 1 (6 * 1) (va_A w s.heap.size)) (F0 m 66 ls []) := by
    intro H locs hP hS
    refine lv_aload_n hx hb dX9_make_66 rfl (lv_at hl 0 rfl) ?_
    refine vfg_X9 S hK hN 81 14 1 (by decide) H locs 0 0 w q0 x0 67 vs [] _ ls hP hw0 hv1 dX9_make_67 ?_
    refine lv_bipush (v := 16) hx hb dX9_make_70 (by decide) ?_
    refine lv_icmp_lt (tgt := 85) hx hb dX9_make_72 (by decide) (fun _ => ?_) (fun h9 => absurd (Int32.lt_iff_toInt_lt.mpr (by rw [e16]; exact hc16)) h9)
    refine lv_aload_n hx hb dX9_make_85 rfl (lv_at hl 0 rfl) ?_
    refine vfg_X9 S hK hN 11 14 0 (by decide) H locs 0 0 w q0 x0 86 vs [] _ ls hP hw0 hv0 dX9_make_86 ?_
    refine lv_aload_n hx hb dX9_make_89 rfl (lv_at hl 0 rfl) ?_
    refine vfg_X9 S hK hN 81 14 1 (by decide) H locs 0 0 w q0 x0 90 vs [.ref av] _ ls hP hw0 hv1 dX9_make_90 ?_
    refine va_aldq (C := "Hubcascade$Device") hx hb hK hP qv 4 hwv rfl (sg_vpin (by omega) (show cn.toInt < ((16 : Nat) : Int) by omega) (by decide)).1 dX9_make_93 ?_
    rw [show f cn.toNatClampNeg = some dd from hfd]
    refine lv_astore (lv' := [(6, .ref dd), (0, .ref x0), (1, .int q), (2, .int a), (3, .int b), (4, .int o), (5, .int z)]) hx hb dX9_make_94 hl (by decide) rfl (fun ls hl => ?_)
    have ht0 : vi_tw vK cy (vi_kept τ [(6, 1, 4), (6, 2, 4), (6, 3, 4), (6, 4, 4), (6, 5, 4), (6, 6, 4), (6, 11, 4), (14, 1, 0)] w) ad τ w := vi_tw_Z ht vi_kept_rf
    refine lv_aload hx hb dX9_make_96 (lv_at hl 0 rfl) ?_
    refine lv_iload_n hx hb dX9_make_98 rfl (lv_at hl 2 rfl) ?_
    obtain ⟨ht1, hw1, hk1⟩ := vi_put (v := .int q) ht0 hrd hwd rfl (k := 1) rfl (⟨q, rfl, hq9⟩) (by decide)
    refine vfp_X9_106_6_1 (A0 := (va_A w s.heap.size)) (H0 := s.heap) S hK hN (vTy_ok (ad := ad) (τ := τ) (d := 4) (k := 1) rfl rfl (⟨q, rfl, hq9⟩)) H locs 0 0 _ qd dd 99 _ [] ls hP hDs hS hwd hk1 dX9_make_99 (fun H locs hP hD1 hS => ?_)
    refine lv_aload hx hb dX9_make_102 (lv_at hl 0 rfl) ?_
    refine lv_iload_n hx hb dX9_make_104 rfl (lv_at hl 2 rfl) ?_
    obtain ⟨ht2, hw2, hk2⟩ := vi_put (v := .int q) ht1 hrd hw1 rfl (k := 11) rfl (⟨q, rfl, hq9⟩) (by decide)
    refine vfp_X9_109_6_11 (A0 := (va_A w s.heap.size)) (H0 := s.heap) S hK hN (vTy_ok (ad := ad) (τ := τ) (d := 4) (k := 11) rfl rfl (⟨q, rfl, hq9⟩)) H locs 0 0 _ qd dd 105 _ [] ls hP hD1 hS hw1 hk2 dX9_make_105 (fun H locs hP hD2 hS => ?_)
    refine lv_aload hx hb dX9_make_108 (lv_at hl 0 rfl) ?_
    refine lv_iload_n hx hb dX9_make_110 rfl (lv_at hl 3 rfl) ?_
    obtain ⟨ht3, hw3, hk3⟩ := vi_put (v := .int a) ht2 hrd hw2 rfl (k := 2) rfl (vi_okI a) (by decide)
    refine vfp_X9_67_6_2 (A0 := (va_A w s.heap.size)) (H0 := s.heap) S hK hN (vTy_ok (ad := ad) (τ := τ) (d := 4) (k := 2) rfl rfl (vi_okI a)) H locs 0 0 _ qd dd 111 _ [] ls hP hD2 hS hw2 hk3 dX9_make_111 (fun H locs hP hD3 hS => ?_)
    refine lv_aload hx hb dX9_make_114 (lv_at hl 0 rfl) ?_
    refine lv_iload_n hx hb dX9_make_116 rfl (lv_at hl 4 rfl) ?_
    obtain ⟨ht4, hw4, hk4⟩ := vi_put (v := .int b) ht3 hrd hw3 rfl (k := 3) rfl (vi_okI b) (by decide)
    refine vfp_X9_112_6_3 (A0 := (va_A w s.heap.size)) (H0 := s.heap) S hK hN (vTy_ok (ad := ad) (τ := τ) (d := 4) (k := 3) rfl rfl (vi_okI b)) H locs 0 0 _ qd dd 117 _ [] ls hP hD3 hS hw3 hk4 dX9_make_117 (fun H locs hP hD4 hS => ?_)
    refine lv_aload hx hb dX9_make_120 (lv_at hl 0 rfl) ?_
    refine lv_iload_n hx hb dX9_make_122 rfl (lv_at hl 4 rfl) ?_
    obtain ⟨ht5, hw5, hk5⟩ := vi_put (v := .int b) ht4 hrd hw4 rfl (k := 6) rfl (vi_okI b) (by decide)
    refine vfp_X9_115_6_6 (A0 := (va_A w s.heap.size)) (H0 := s.heap) S hK hN (vTy_ok (ad := ad) (τ := τ) (d := 4) (k := 6) rfl rfl (vi_okI b)) H locs 0 0 _ qd dd 123 _ [] ls hP hD4 hS hw4 hk5 dX9_make_123 (fun H locs hP hD5 hS => ?_)
    refine lv_aload hx hb dX9_make_126 (lv_at hl 0 rfl) ?_
    refine lv_iload hx hb dX9_make_128 (lv_at hl 5 rfl) ?_
    obtain ⟨ht6, hw6, hk6⟩ := vi_put (v := .int o) ht5 hrd hw5 rfl (k := 4) rfl (⟨o, rfl, ho9⟩) (by decide)
    refine vfp_X9_70_6_4 (A0 := (va_A w s.heap.size)) (H0 := s.heap) S hK hN (vTy_ok (ad := ad) (τ := τ) (d := 4) (k := 4) rfl rfl (⟨o, rfl, ho9⟩)) H locs 0 0 _ qd dd 130 _ [] ls hP hD5 hS hw5 hk6 dX9_make_130 (fun H locs hP hD6 hS => ?_)
    refine lv_aload hx hb dX9_make_133 (lv_at hl 0 rfl) ?_
    refine lv_iload hx hb dX9_make_135 (lv_at hl 6 rfl) ?_
    obtain ⟨ht7, hw7, hk7⟩ := vi_put (v := .int z) ht6 hrd hw6 rfl (k := 5) rfl (⟨z, rfl, s4⟩) (by decide)
    refine vfp_X9_118_6_5 (A0 := (va_A w s.heap.size)) (H0 := s.heap) S hK hN (vTy_ok (ad := ad) (τ := τ) (d := 4) (k := 5) rfl rfl (⟨z, rfl, s4⟩)) H locs 0 0 _ qd dd 137 _ [] ls hP hD6 hS hw6 hk7 dX9_make_137 (fun H locs hP hD7 hS => ?_)
    have hw07 : (((((((w.set qd (dd, .inr (6, (vd.set 1 (.int q))))).set qd (dd, .inr (6, ((vd.set 1 (.int q)).set 11 (.int q))))).set qd (dd, .inr (6, (((vd.set 1 (.int q)).set 11 (.int q)).set 2 (.int a))))).set qd (dd, .inr (6, ((((vd.set 1 (.int q)).set 11 (.int q)).set 2 (.int a)).set 3 (.int b))))).set qd (dd, .inr (6, (((((vd.set 1 (.int q)).set 11 (.int q)).set 2 (.int a)).set 3 (.int b)).set 6 (.int b))))).set qd (dd, .inr (6, ((((((vd.set 1 (.int q)).set 11 (.int q)).set 2 (.int a)).set 3 (.int b)).set 6 (.int b)).set 4 (.int o))))).set qd (dd, .inr (6, (((((((vd.set 1 (.int q)).set 11 (.int q)).set 2 (.int a)).set 3 (.int b)).set 6 (.int b)).set 4 (.int o)).set 5 (.int z)))))[q0]? = some (x0, .inr (14, vs)) := by
      rw [List.getElem?_set_ne nq, List.getElem?_set_ne nq, List.getElem?_set_ne nq, List.getElem?_set_ne nq, List.getElem?_set_ne nq, List.getElem?_set_ne nq, List.getElem?_set_ne nq]
      exact hw0
    obtain ⟨ht8, hw8, hk8⟩ := vi_put (v := .int (cn + 1)) ht7 hr0 hw07 rfl (k := 1) rfl (b := (1, 1, 16)) ⟨cn + 1, rfl, by rw [m_add1 (by omega) (by omega)]; show (1 : Int) ≤ _; omega, by rw [m_add1 (by omega) (by omega)]; show _ ≤ (16 : Int); omega⟩ (by decide)
    refine lv_aload_n hx hb dX9_make_140 rfl (lv_at hl 1 rfl) ?_
    refine lv_dup hx hb dX9_make_141 rfl ?_
    refine vfg_X9 S hK hN 81 14 1 (by decide) H locs 0 0 _ q0 x0 142 vs [.ref x0] _ ls hP hw07 hv1 dX9_make_142 ?_
    refine lv_iconst (v := 1) hx hb dX9_make_145 (by decide) ?_
    refine lv_iadd hx hb dX9_make_146 ?_
    refine vfp_X9_81_14_1 (A0 := (va_A w s.heap.size)) (H0 := s.heap) S hK hN (vTy_ok (ad := ad) (τ := τ) (d := 0) (k := 1) rfl rfl (b := (1, 1, 16)) ⟨cn + 1, rfl, by rw [m_add1 (by omega) (by omega)]; show (1 : Int) ≤ _; omega, by rw [m_add1 (by omega) (by omega)]; show _ ≤ (16 : Int); omega⟩) H locs 0 0 _ q0 x0 147 vs [] ls hP hD7 hS hw07 hk8 dX9_make_147 (fun H locs hP hD8 hS => ?_)
    have hwd8 : ((((((((w.set qd (dd, .inr (6, (vd.set 1 (.int q))))).set qd (dd, .inr (6, ((vd.set 1 (.int q)).set 11 (.int q))))).set qd (dd, .inr (6, (((vd.set 1 (.int q)).set 11 (.int q)).set 2 (.int a))))).set qd (dd, .inr (6, ((((vd.set 1 (.int q)).set 11 (.int q)).set 2 (.int a)).set 3 (.int b))))).set qd (dd, .inr (6, (((((vd.set 1 (.int q)).set 11 (.int q)).set 2 (.int a)).set 3 (.int b)).set 6 (.int b))))).set qd (dd, .inr (6, ((((((vd.set 1 (.int q)).set 11 (.int q)).set 2 (.int a)).set 3 (.int b)).set 6 (.int b)).set 4 (.int o))))).set qd (dd, .inr (6, (((((((vd.set 1 (.int q)).set 11 (.int q)).set 2 (.int a)).set 3 (.int b)).set 6 (.int b)).set 4 (.int o)).set 5 (.int z))))).set q0 (x0, .inr (14, vs.set 1 (.int (cn + 1)))))[qd]? = some (dd, .inr (6, (((((((vd.set 1 (.int q)).set 11 (.int q)).set 2 (.int a)).set 3 (.int b)).set 6 (.int b)).set 4 (.int o)).set 5 (.int z)))) := by rw [List.getElem?_set_ne (Ne.symm nq)]; exact hw7
    have hvd8 : (((((((vd.set 1 (.int q)).set 11 (.int q)).set 2 (.int a)).set 3 (.int b)).set 6 (.int b)).set 4 (.int o)).set 5 (.int z))[0]? = some (.int cn) := by
      rw [List.getElem?_set_ne (by decide), List.getElem?_set_ne (by decide), List.getElem?_set_ne (by decide), List.getElem?_set_ne (by decide), List.getElem?_set_ne (by decide), List.getElem?_set_ne (by decide), List.getElem?_set_ne (by decide)]
      exact hvd
    refine lv_aload hx hb dX9_make_150 (lv_at hl 0 rfl) ?_
    refine vfg_X9 S hK hN 121 6 0 (by decide) H locs 0 0 _ qd dd 152 _ [] _ ls hP hwd8 hvd8 dX9_make_152 ?_
    refine W.widen (k := 1) (n := 6 * 1) (Nat.le_of_ble_eq_true rfl) (Nat.le_of_ble_eq_true rfl) ?_
    exact vx_ret (W.iret hx hb hr (fun t ht9 _ => ⟨⟨_, _, rfl, by rw [ht9]; exact hP, vi_tw_Z ht8 True.intro, ht8.2.2.2, rfl, hw8⟩, hS.F ht9⟩) hS.2.2 dX9_make_155 hlocks)
  refine lv_iload_n hx hb dX9_make_0 rfl (lv_at hl 1 rfl) ?_
  refine ro_callS (A0 := va_A w s.heap.size) (H0 := s.heap) S (c_isSpeed_t l D cy w q s1) (cwS 1 S.2.2.2.2 (vgS (vm_4 _ (List.mem_of_getElem? (i := 18) rfl)) (vm_4 _ (List.mem_of_getElem? (i := 19) rfl)) (vm_4 _ (List.mem_of_getElem? (i := 20) rfl)) (vm_4 _ (List.mem_of_getElem? (i := 11) rfl))) rfl rfl rfl ⟨rfl, by decide, by decide, by decide +kernel⟩ ⟨Nat.le_of_ble_eq_true rfl, Nat.le_of_ble_eq_true rfl⟩) hK hN hP hS rfl hl.1 rfl (Nat.le_of_ble_eq_true rfl) dX9_make_1 ⟨Nat.le_of_ble_eq_true rfl, Nat.le_of_ble_eq_true rfl⟩ (fun H locs hP hS => ?_)
  refine lv_if_eq (tgt := 36) hx hb dX9_make_4 (by decide) (fun h9 => absurd h9 (by decide)) (fun _ => ?_)
  refine lv_iload_n hx hb dX9_make_7 rfl (lv_at hl 2 rfl) ?_
  refine lv_iconst (v := 0) hx hb dX9_make_8 (by decide) ?_
  refine lv_iconst (v := 4) hx hb dX9_make_9 (by decide) ?_
  refine ro_callS (A0 := va_A w s.heap.size) (H0 := s.heap) S (c_isWithin_t l D cy w a 0 4 (fun h9 => by have := i_lt h9; omega) (fun h9 => by have := i_lt h9; omega)) (cwS 3 S.2.2.2.2 (vgS (vm_4 _ (List.mem_of_getElem? (i := 21) rfl)) (vm_4 _ (List.mem_of_getElem? (i := 22) rfl)) (vm_4 _ (List.mem_of_getElem? (i := 20) rfl)) (vm_4 _ (List.mem_of_getElem? (i := 12) rfl))) rfl rfl rfl ⟨rfl, by decide, by decide, by decide +kernel⟩ ⟨Nat.le_of_ble_eq_true rfl, Nat.le_of_ble_eq_true rfl⟩) hK hN hP hS rfl hl.1 rfl (Nat.le_of_ble_eq_true rfl) dX9_make_10 ⟨Nat.le_of_ble_eq_true rfl, Nat.le_of_ble_eq_true rfl⟩ (fun H locs hP hS => ?_)
  refine lv_if_eq (tgt := 36) hx hb dX9_make_13 (by decide) (fun h9 => absurd h9 (by decide)) (fun _ => ?_)
  refine lv_iload_n hx hb dX9_make_16 rfl (lv_at hl 3 rfl) ?_
  refine lv_iconst (v := 1) hx hb dX9_make_17 (by decide) ?_
  refine lv_iconst (v := 5) hx hb dX9_make_18 (by decide) ?_
  refine ro_callS (A0 := va_A w s.heap.size) (H0 := s.heap) S (c_isWithin_t l D cy w b 1 5 (fun h9 => by have := i_lt h9; omega) (fun h9 => by have := i_lt h9; omega)) (cwS 3 S.2.2.2.2 (vgS (vm_4 _ (List.mem_of_getElem? (i := 21) rfl)) (vm_4 _ (List.mem_of_getElem? (i := 22) rfl)) (vm_4 _ (List.mem_of_getElem? (i := 20) rfl)) (vm_4 _ (List.mem_of_getElem? (i := 12) rfl))) rfl rfl rfl ⟨rfl, by decide, by decide, by decide +kernel⟩ ⟨Nat.le_of_ble_eq_true rfl, Nat.le_of_ble_eq_true rfl⟩) hK hN hP hS rfl hl.1 rfl (Nat.le_of_ble_eq_true rfl) dX9_make_19 ⟨Nat.le_of_ble_eq_true rfl, Nat.le_of_ble_eq_true rfl⟩ (fun H locs hP hS => ?_)
  refine lv_if_eq (tgt := 36) hx hb dX9_make_22 (by decide) (fun h9 => absurd h9 (by decide)) (fun _ => ?_)
  refine lv_iload hx hb dX9_make_25 (lv_at hl 5 rfl) ?_
  refine lv_iconst (v := 0) hx hb dX9_make_27 (by decide) ?_
  refine lv_bipush (v := 99) hx hb dX9_make_28 (by decide) ?_
  refine ro_callS (A0 := va_A w s.heap.size) (H0 := s.heap) S (c_isWithin_t l D cy w z 0 99 (fun h9 => by have := i_lt h9; omega) (fun h9 => by have := i_lt h9; omega)) (cwS 3 S.2.2.2.2 (vgS (vm_4 _ (List.mem_of_getElem? (i := 21) rfl)) (vm_4 _ (List.mem_of_getElem? (i := 22) rfl)) (vm_4 _ (List.mem_of_getElem? (i := 20) rfl)) (vm_4 _ (List.mem_of_getElem? (i := 12) rfl))) rfl rfl rfl ⟨rfl, by decide, by decide, by decide +kernel⟩ ⟨Nat.le_of_ble_eq_true rfl, Nat.le_of_ble_eq_true rfl⟩) hK hN hP hS rfl hl.1 rfl (Nat.le_of_ble_eq_true rfl) dX9_make_30 ⟨Nat.le_of_ble_eq_true rfl, Nat.le_of_ble_eq_true rfl⟩ (fun H locs hP hS => ?_)
  refine lv_if_ne (tgt := 46) hx hb dX9_make_33 (by decide) (fun _ => ?_) (fun h9 => absurd h9 (show ¬ (1 : Int32) = 0 from by decide))
  refine lv_iload_n hx hb dX9_make_46 rfl (lv_at hl 1 rfl) ?_
  refine lv_bipush (v := 108) hx hb dX9_make_47 (by decide) ?_
  refine lv_icmp_ne (tgt := 66) hx hb dX9_make_49 (by decide) (fun _ => hgo H locs hP hS) (fun h8 => ?_)
  refine lv_iload_n hx hb dX9_make_52 rfl (lv_at hl 2 rfl) ?_
  exact lv_if_le (tgt := 66) hx hb dX9_make_53 (by decide) (fun _ => hgo H locs hP hS) (fun h9 => (s5 ⟨h8, h9⟩).elim)

end VMK
