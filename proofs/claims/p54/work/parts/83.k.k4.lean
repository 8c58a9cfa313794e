section CLK4
theorem dX9_endFirst_0 : decode cX9_endFirst 0 = .ok (.aload_n 0, 1) := by decide +kernel
theorem dX9_endFirst_1 : decode cX9_endFirst 1 = .ok (.getfield 52, 3) := by decide +kernel
theorem dX9_endFirst_4 : decode cX9_endFirst 4 = .ok (.iload_n 2, 1) := by decide +kernel
theorem dX9_endFirst_5 : decode cX9_endFirst 5 = .ok (.aload_n 1, 1) := by decide +kernel
theorem dX9_endFirst_6 : decode cX9_endFirst 6 = .ok (.getfield 333, 3) := by decide +kernel
theorem dX9_endFirst_9 : decode cX9_endFirst 9 = .ok (.aload_n 1, 1) := by decide +kernel
theorem dX9_endFirst_10 : decode cX9_endFirst 10 = .ok (.iconst 0, 1) := by decide +kernel
theorem dX9_endFirst_11 : decode cX9_endFirst 11 = .ok (.invokevirtual 374, 3) := by decide +kernel
theorem dX9_endFirst_14 : decode cX9_endFirst 14 = .ok (.getfield 388, 3) := by decide +kernel
theorem dX9_endFirst_17 : decode cX9_endFirst 17 = .ok (.invokevirtual 563, 3) := by decide +kernel
theorem dX9_endFirst_20 : decode cX9_endFirst 20 = .ok (.aload_n 1, 1) := by decide +kernel
theorem dX9_endFirst_21 : decode cX9_endFirst 21 = .ok (.invokevirtual 567, 3) := by decide +kernel
theorem dX9_endFirst_24 : decode cX9_endFirst 24 = .ok (.return_, 1) := by decide +kernel
set_option maxRecDepth 100000 in
set_option maxHeartbeats 4000000 in
theorem k_end (l : Launch) (D : va_G) (cy : Nat → ClassId) {ad τ : List Nat} {Y : CY} {σ : SG} (hst : l.stackTraces = false) (hs : vi_s1 vSG τ) (hV : VL cy ad τ Y σ) {j : Nat} (hj : j < 12) (ch : Int32) (hc : sgF 1 ch) (h1 : 1 ≤ (sgI σ (yp Y j) 13).toInt) (sz : Nat) : clM l D cy ad τ Y σ sz yX9_endFirst (Cond.code yX9_endFirst cX9_endFirst 3 none :: vWall) 1 24 [.ref (yX Y), .ref (yp Y j), .int ch] (fun v s2 => v = none ∧ ∃ σ1, VL cy ad τ Y σ1 ∧ vi_kept τ Mev (cwL cy ad σ) (cwL cy ad σ1) ∧ dropd (yp Y j) σ1 = s2) := by
  refine cl_ofW (cc := cX9_endFirst) (maxL := 3) (ret := none) hV (by decide) rfl (Nat.le_of_ble_eq_true rfl) (lv := [(0, .ref (yX Y)), (1, .ref (yp Y j)), (2, .int ch)]) rfl (fun p e s m below meth c ls H hrt hnm F hB hl => ?_) sz
  have hx := F.1.1
  have hb := F.1.2.1
  have hown := F.1.2.2.2.1
  obtain ⟨LX, LD, Ld, LE, Le, LP9, Lp, Lt, LU, LA, Lz⟩ := hV.2
  obtain ⟨ev, he1, he2, qe, he3, he4⟩ := VT_nn (ci := 14) (k := 11) (kd := 19) hV.1 LX.1 (by decide) rfl (by decide +kernel)
  refine lv_aload_n hx hb dX9_endFirst_0 rfl (lv_at hl 0 rfl) ?_
  refine gr_X9_52 F hB dX9_endFirst_1 LX.1 he1 ?_
  refine lv_iload_n hx hb dX9_endFirst_4 rfl (lv_at hl 2 rfl) ?_
  refine lv_aload_n hx hb dX9_endFirst_5 rfl (lv_at hl 1 rfl) ?_
  refine gf_X9_333 F hB dX9_endFirst_6 (Lp j hj).1 ?_
  refine lv_aload_n hx hb dX9_endFirst_9 rfl (lv_at hl 1 rfl) ?_
  refine lv_iconst (v := 0) hx hb dX9_endFirst_10 (by decide) ?_
  refine cl_callN (ci := 10) F hB (k_trAt l D cy hB.2 hj _ _) ⟨va_cnB 1 F.1.2.2.2.2 (vgN (vm_2 _ (List.mem_of_getElem? (i := 25) rfl))) rfl rfl rfl (F.2.2.1.1 _ nf_129) (F.1.2.2.2.2 _ (List.mem_cons_of_mem _ (vm_2 _ (List.mem_of_getElem? (i := 22) rfl)))) ⟨by decide, by decide, by decide +kernel⟩ ⟨Nat.le_of_ble_eq_true rfl, Nat.le_of_ble_eq_true rfl⟩, F.1.2.2.2.2 _ (List.mem_cons_of_mem _ (vm_2 _ (List.mem_of_getElem? (i := 30) rfl))), F.1.2.2.2.2 _ (List.mem_cons_of_mem _ (vm_2 _ (List.mem_of_getElem? (i := 31) rfl)))⟩ rfl rfl (by decide) rfl hl.1 rfl (Nat.le_of_ble_eq_true rfl) dX9_endFirst_11 ⟨Nat.le_of_ble_eq_true rfl, Nat.le_of_ble_eq_true rfl⟩ (Lp j hj).1 (fun H locs v σ11 hB hP => ?_)
  obtain ⟨rfl, rfl⟩ := hP
  have h3 := c_and3 (sgI σ (yp Y j) 12 + 0)
  refine gf_X9_388 F hB dX9_endFirst_14 ((Lt j hj).2.2 _ (by omega)).2 ?_
  refine cl_vi (n := 0) (NC := 0) (av := [.ref ev, .int ch, .int _, .int _]) hB (vi_crVN F.1 (m_Events_put_0 l D cy hst) ⟨va_cnB 3 F.1.2.2.2.2 (vgN (vm_1 _ (List.mem_of_getElem? (i := 26) rfl))) rfl rfl rfl (F.2.2.1.1 _ nf_130) (F.1.2.2.2.2 _ (List.mem_cons_of_mem _ (vm_3 _ (List.mem_of_getElem? (i := 35) rfl)))) ⟨by decide, by decide, by decide +kernel⟩ ⟨Nat.le_of_ble_eq_true rfl, Nat.le_of_ble_eq_true rfl⟩, F.1.2.2.2.2 _ (List.mem_cons_of_mem _ (vm_5 _ (List.mem_of_getElem? (i := 19) rfl))), F.1.2.2.2.2 _ (List.mem_cons_of_mem _ (vm_5 _ (List.mem_of_getElem? (i := 20) rfl)))⟩ rfl ⟨_, _, _, _, _, _, rfl, rfl, rfl, rfl⟩ F.2.1 F.2.2.1 hs (fun _ _ _ _ => True.intro) (fun q hq => Or.inr hq) ⟨Nat.le_refl _, Nat.le_refl _⟩) hl.1 rfl (by intro j9 a9 x9 g1 g2; exact match j9, g1, g2 with | 0, g1, g2 => by cases g1; cases g2; exact Or.inr ⟨qe, ev, he3, he4, rfl⟩ | 1, g1, g2 => by cases g1; cases g2; exact ⟨ch, rfl, hc.1, hc.2⟩ | 2, g1, g2 => by cases g1; cases g2; exact ⟨_, rfl, cl_full _⟩ | 3, g1, g2 => by cases g1; cases g2; exact ⟨_, rfl, cl_full _⟩ | n + 4, g1, g2 => by cases g1) (fun f hf => by cases hf) (Nat.le_of_ble_eq_true rfl) (by decide +kernel) (by decide) dX9_endFirst_17 rfl (fun alt ha17 H locs v σ17 w17 hB hk17 ht17 hs17 hA17 => ?_)
  obtain rfl := List.mem_singleton.mp ha17
  have hv17 := hA17.1
  have hv17 : v = none := hv17
  subst hv17
  have hV17 := hB.2
  have h13 := kp_I (ci := 10) (t := 0) (k := 13) hV.1 hB.2.1 hk17 (Lp j hj).1 (by decide) rfl (by decide) (fun d _ => M_no (by decide +kernel) d)
  refine lv_aload_n hx hb dX9_endFirst_20 rfl (lv_at hl 1 rfl) ?_
  refine cl_callN (ci := 10) F hB (k_drop l D cy hB.2 hj (by rw [h13]; exact h1) _) ⟨va_cnB 0 F.1.2.2.2.2 (vgN (vm_2 _ (List.mem_of_getElem? (i := 32) rfl))) rfl rfl rfl (F.2.2.1.1 _ nf_131) (F.1.2.2.2.2 _ (List.mem_cons_of_mem _ (vm_2 _ (List.mem_of_getElem? (i := 22) rfl)))) ⟨by decide, by decide, by decide +kernel⟩ ⟨Nat.le_of_ble_eq_true rfl, Nat.le_of_ble_eq_true rfl⟩, F.1.2.2.2.2 _ (List.mem_cons_of_mem _ (vm_5 _ (List.mem_of_getElem? (i := 21) rfl))), F.1.2.2.2.2 _ (List.mem_cons_of_mem _ (vm_5 _ (List.mem_of_getElem? (i := 22) rfl)))⟩ rfl rfl (by decide) rfl hl.1 rfl (Nat.le_of_ble_eq_true rfl) dX9_endFirst_21 ⟨Nat.le_of_ble_eq_true rfl, Nat.le_of_ble_eq_true rfl⟩ (hB.2.2.2.2.2.2.2.2.1 j hj).1 (fun H locs v σ21 hB hP => ?_)
  obtain ⟨rfl, hP⟩ := hP
  exact cl_vret F hB hrt dX9_endFirst_24 (⟨rfl, _, hV17, hk17, hP⟩)
end CLK4
