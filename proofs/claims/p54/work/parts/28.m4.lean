section MM4
theorem sg_aaldR {p : Program} {l : Launch} {e : Env} {R : Room} {s : State} {m : MethodId} {args : Array Value} {below : List Frame} {meth : Method} {c : Code} {H : Heap} {locs : List Loc} {cells slots : Nat} {Q : State → Prop} {cc : ByteArray} {pc : Nat} {ls : Array Slot} {rest : List Value} {D : va_G} {cy : Nat → ClassId} {A0 : Nat → Prop} {H0 : Heap} {σ : SG} {a b : Nat} {i : Int32} (t : Nat) {C : String} (hexec : p.tables.exec = Jvm.exec) (hb : c.code = cc) (hK : va_K D vwCl (tyL cy) s) (hG : sgG D cy A0 H0 σ H locs) (hi : sgIA t = false) (ht : (tyL cy)[t]? = some (cy t, .object C)) (hdg : decode cc pc = .ok (.aaload, 1)) (ha : sgT σ a = 100 + t) (h1 : 0 ≤ i.toInt) (h2 : i.toInt < sgN σ a) (h3 : sgN σ a < 2147483648) (hr : sgR σ a i.toInt.toNat = some b)
    (kk : W p l e R s m args below meth c H locs cells slots Q (F0 m (pc + 1) ls (.ref b :: rest))) : W p l e R s m args below meth c H locs cells slots Q (F0 m pc ls (.int i :: .ref a :: rest)) :=
  sg_aald t hexec hb hK hG hi ht hdg ha h1 h2 h3 (by rw [hr]; exact kk)
theorem m_fr1 {σ : SG} {l0 r sz1 : Nat} {z x : Int32} (ez : z.toInt = (sz1 : Int) - 1) (h0 : 0 < sz1) (hN : sz1 < 1000000) : ∀ j, j + 1 < sz1 → sgR (sgPR (sgPI (sgCp (sgPI σ l0 0 x) r r (0 + 1 : Int32).toInt.toNat (0 : Int32).toInt.toNat (z - 0).toInt.toNat) l0 2 z) r z.toInt.toNat none) r j = sgR σ r (j + 1) := by
  intro j hj
  have h9 := i_sub (x := z) (y := 0) (by show _ ≤ _ - (0 : Int); omega) (by show _ - (0 : Int) ≤ _; omega)
  have e0 : (0 : Int32).toInt = 0 := rfl
  have e1 : (0 + 1 : Int32).toInt.toNat = 1 := rfl
  have e2 : (0 : Int32).toInt.toNat = 0 := rfl
  rw [sgR_PR, if_neg (fun q => by omega)]
  show sgR (sgCp (sgPI σ l0 0 x) r r (0 + 1 : Int32).toInt.toNat (0 : Int32).toInt.toNat (z - 0).toInt.toNat) r j = _
  rw [sgCp_R, if_pos rfl, e1, e2]
  show va_cpy (sgR σ r) (sgR σ r) 1 0 _ j = _
  unfold va_cpy
  rw [if_pos ⟨Nat.zero_le _, by rw [h9, e0]; omega⟩, show 1 + (j - 0) = j + 1 by omega]
theorem m_fr2 {σ : SG} {r n j y sp dp : Nat} (h : sgR (sgCp σ r r sp dp n) r j = some y) : ∃ j2, sgR σ r j2 = some y := by
  rw [sgCp_R, if_pos rfl] at h
  unfold va_cpy at h
  split at h
  · exact ⟨_, h⟩
  · exact ⟨_, h⟩
theorem m_fr3 {σ : SG} {l0 r k n sp dp : Nat} {x z : Int32} (hlr : r ≠ l0) (hr1 : sgR σ l0 1 = some r) : sgR (sgPR (sgPI (sgCp (sgPI σ l0 0 x) r r sp dp n) l0 2 z) r k none) l0 1 = some r := by
  rw [sgR_PR, if_neg (fun q => hlr q.1.symm)]
  show sgR (sgCp (sgPI σ l0 0 x) r r sp dp n) l0 1 = _
  rw [sgCp_R, if_neg (fun q => hlr q.symm)]
  exact hr1
theorem dJx4a65c_fastRemove_b59b0_0 : decode cJx4a65c_fastRemove_b59b0 0 = .ok (.aload_n 0, 1) := by decide +kernel
theorem dJx4a65c_fastRemove_b59b0_1 : decode cJx4a65c_fastRemove_b59b0 1 = .ok (.dup, 1) := by decide +kernel
theorem dJx4a65c_fastRemove_b59b0_2 : decode cJx4a65c_fastRemove_b59b0 2 = .ok (.getfield 63, 3) := by decide +kernel
theorem dJx4a65c_fastRemove_b59b0_5 : decode cJx4a65c_fastRemove_b59b0 5 = .ok (.iconst 1, 1) := by decide +kernel
theorem dJx4a65c_fastRemove_b59b0_6 : decode cJx4a65c_fastRemove_b59b0 6 = .ok (.iadd, 1) := by decide +kernel
theorem dJx4a65c_fastRemove_b59b0_7 : decode cJx4a65c_fastRemove_b59b0 7 = .ok (.putfield 63, 3) := by decide +kernel
theorem dJx4a65c_fastRemove_b59b0_10 : decode cJx4a65c_fastRemove_b59b0 10 = .ok (.aload_n 0, 1) := by decide +kernel
theorem dJx4a65c_fastRemove_b59b0_11 : decode cJx4a65c_fastRemove_b59b0 11 = .ok (.getfield 48, 3) := by decide +kernel
theorem dJx4a65c_fastRemove_b59b0_14 : decode cJx4a65c_fastRemove_b59b0 14 = .ok (.iconst 1, 1) := by decide +kernel
theorem dJx4a65c_fastRemove_b59b0_15 : decode cJx4a65c_fastRemove_b59b0 15 = .ok (.isub, 1) := by decide +kernel
theorem dJx4a65c_fastRemove_b59b0_16 : decode cJx4a65c_fastRemove_b59b0 16 = .ok (.dup, 1) := by decide +kernel
theorem dJx4a65c_fastRemove_b59b0_17 : decode cJx4a65c_fastRemove_b59b0 17 = .ok (.istore_n 3, 1) := by decide +kernel
theorem dJx4a65c_fastRemove_b59b0_18 : decode cJx4a65c_fastRemove_b59b0 18 = .ok (.iload_n 2, 1) := by decide +kernel
theorem dJx4a65c_fastRemove_b59b0_19 : decode cJx4a65c_fastRemove_b59b0 19 = .ok (.if_icmp .le 15, 3) := by decide +kernel
theorem dJx4a65c_fastRemove_b59b0_22 : decode cJx4a65c_fastRemove_b59b0 22 = .ok (.aload_n 1, 1) := by decide +kernel
theorem dJx4a65c_fastRemove_b59b0_23 : decode cJx4a65c_fastRemove_b59b0 23 = .ok (.iload_n 2, 1) := by decide +kernel
theorem dJx4a65c_fastRemove_b59b0_24 : decode cJx4a65c_fastRemove_b59b0 24 = .ok (.iconst 1, 1) := by decide +kernel
theorem dJx4a65c_fastRemove_b59b0_25 : decode cJx4a65c_fastRemove_b59b0 25 = .ok (.iadd, 1) := by decide +kernel
theorem dJx4a65c_fastRemove_b59b0_26 : decode cJx4a65c_fastRemove_b59b0 26 = .ok (.aload_n 1, 1) := by decide +kernel
theorem dJx4a65c_fastRemove_b59b0_27 : decode cJx4a65c_fastRemove_b59b0 27 = .ok (.iload_n 2, 1) := by decide +kernel
theorem dJx4a65c_fastRemove_b59b0_28 : decode cJx4a65c_fastRemove_b59b0 28 = .ok (.iload_n 3, 1) := by decide +kernel
theorem dJx4a65c_fastRemove_b59b0_29 : decode cJx4a65c_fastRemove_b59b0 29 = .ok (.iload_n 2, 1) := by decide +kernel
theorem dJx4a65c_fastRemove_b59b0_30 : decode cJx4a65c_fastRemove_b59b0 30 = .ok (.isub, 1) := by decide +kernel
theorem dJx4a65c_fastRemove_b59b0_31 : decode cJx4a65c_fastRemove_b59b0 31 = .ok (.invokestatic 112, 3) := by decide +kernel
theorem dJx4a65c_fastRemove_b59b0_34 : decode cJx4a65c_fastRemove_b59b0 34 = .ok (.aload_n 1, 1) := by decide +kernel
theorem dJx4a65c_fastRemove_b59b0_35 : decode cJx4a65c_fastRemove_b59b0 35 = .ok (.aload_n 0, 1) := by decide +kernel
theorem dJx4a65c_fastRemove_b59b0_36 : decode cJx4a65c_fastRemove_b59b0 36 = .ok (.iload_n 3, 1) := by decide +kernel
theorem dJx4a65c_fastRemove_b59b0_37 : decode cJx4a65c_fastRemove_b59b0 37 = .ok (.dup_x1, 1) := by decide +kernel
theorem dJx4a65c_fastRemove_b59b0_38 : decode cJx4a65c_fastRemove_b59b0 38 = .ok (.putfield 48, 3) := by decide +kernel
theorem dJx4a65c_fastRemove_b59b0_41 : decode cJx4a65c_fastRemove_b59b0 41 = .ok (.aconst_null, 1) := by decide +kernel
theorem dJx4a65c_fastRemove_b59b0_42 : decode cJx4a65c_fastRemove_b59b0 42 = .ok (.aastore, 1) := by decide +kernel
theorem dJx4a65c_fastRemove_b59b0_43 : decode cJx4a65c_fastRemove_b59b0 43 = .ok (.return_, 1) := by decide +kernel
set_option maxRecDepth 100000 in
set_option maxHeartbeats 4000000 in
theorem m_fastRemove (l : Launch) (D : va_G) (cy : Nat → ClassId) {eda ca : Nat} {ia : Nat → Nat} {σ : SG} {l0 r sz1 : Nat} (hL : sgLs σ l0 r sz1) (h0 : 0 < sz1) (hel : ∀ j y : Nat, j < sz1 → sgR σ r j = some y → sgK ia σ y) (sz : Nat) : sgM l D cy eda ca ia σ sz yJx4a65c_fastRemove_b59b0 (Cond.code yJx4a65c_fastRemove_b59b0 cJx4a65c_fastRemove_b59b0 4 none :: mWall) 1 40 0 0 [.ref l0, .ref r, .int 0] (fun v σ2 => v = none ∧ sgOn l0 r σ σ2 ∧ (sgI σ2 l0 2).toInt = (sz1 : Int) - 1 ∧ (∀ j, j + 1 < sz1 → sgR σ2 r j = sgR σ r (j + 1)) ∧ sgR σ2 l0 1 = some r ∧ (∀ j y, sgR σ2 r j = some y → ∃ j2, sgR σ r j2 = some y)) := by
  refine sg_ofW (cc := cJx4a65c_fastRemove_b59b0) (maxL := 4) (ret := none) (by decide) rfl (Nat.le_of_ble_eq_true rfl) (lv := [(0, .ref l0), (1, .ref r), (2, .int 0)]) rfl (fun p e s m below meth c ls H N hrt hnm F hB hl => ?_) sz
  have hx := F.1.1
  have hb := F.1.2.1
  have hown := F.1.2.2.2.1
  obtain ⟨ht, hr1, htr, hsz, hle, hN9⟩ := id hL
  have hlr : r ≠ l0 := fun z => by rw [z, ht] at htr; exact absurd htr (by decide)
  refine lv_aload_n hx hb dJx4a65c_fastRemove_b59b0_0 rfl (lv_at hl 0 rfl) ?_
  refine lv_dup hx hb dJx4a65c_fastRemove_b59b0_1 rfl ?_
  refine gf_Jx4a65c_63 F hB dJx4a65c_fastRemove_b59b0_2 (by assumption) ?_
  refine lv_iconst (v := 1) hx hb dJx4a65c_fastRemove_b59b0_5 (by decide) ?_
  refine lv_iadd hx hb dJx4a65c_fastRemove_b59b0_6 ?_
  refine pf_Jx4a65c_63 (d := 0) F hB dJx4a65c_fastRemove_b59b0_7 (by assumption) sgPot_mod (fun H locs hBn => ?_)
  clear hB; have hB := hBn; clear hBn
  refine lv_aload_n hx hb dJx4a65c_fastRemove_b59b0_10 rfl (lv_at hl 0 rfl) ?_
  refine gf_Jx4a65c_48 F hB dJx4a65c_fastRemove_b59b0_11 (by assumption) ?_
  refine lv_iconst (v := 1) hx hb dJx4a65c_fastRemove_b59b0_14 (by decide) ?_
  refine lv_isub hx hb dJx4a65c_fastRemove_b59b0_15 ?_
  refine lv_dup hx hb dJx4a65c_fastRemove_b59b0_16 rfl ?_
  refine lv_istore_n (lv' := [(3, .int _), (0, .ref _), (1, .ref _), (2, .int _)]) hx hb dJx4a65c_fastRemove_b59b0_17 rfl hl (by decide) rfl (fun ls hl => ?_)
  have hs2 : (sgI (sgPI σ l0 0 (sgI σ l0 0 + 1)) l0 2).toInt = sz1 := by rw [sgI_PI, if_neg (fun z => by cases z.2)]; exact hsz
  have ez : (sgI (sgPI σ l0 0 (sgI σ l0 0 + 1)) l0 2 - 1).toInt = (sz1 : Int) - 1 := by have h9 := i_sub (x := sgI (sgPI σ l0 0 (sgI σ l0 0 + 1)) l0 2) (y := 1) (by show _ ≤ _ - (1 : Int); omega) (by show _ - (1 : Int) ≤ _; omega); rw [h9, hs2]; rfl
  generalize hzz : sgI (sgPI σ l0 0 (sgI σ l0 0 + 1)) l0 2 - 1 = z at hl ez ⊢
  clear hzz
  refine lv_iload_n hx hb dJx4a65c_fastRemove_b59b0_18 rfl (lv_at hl 3 rfl) ?_
  refine lv_icmp_le (tgt := 34) hx hb dJx4a65c_fastRemove_b59b0_19 (by decide) (fun c19 => ?_) (fun c19 => ?_)
  · refine lv_aload_n hx hb dJx4a65c_fastRemove_b59b0_34 rfl (lv_at hl 2 rfl) ?_
    refine lv_aload_n hx hb dJx4a65c_fastRemove_b59b0_35 rfl (lv_at hl 1 rfl) ?_
    refine lv_iload_n hx hb dJx4a65c_fastRemove_b59b0_36 rfl (lv_at hl 0 rfl) ?_
    refine lv_dup_x1 hx hb dJx4a65c_fastRemove_b59b0_37 rfl rfl ?_
    refine pf_Jx4a65c_48 (d := 0) F hB dJx4a65c_fastRemove_b59b0_38 (by assumption) (sgPot_size (e := 0) (by show z.toInt.toNat ≤ (sgI (sgPI σ l0 0 (sgI σ l0 0 + 1)) l0 2).toInt.toNat + 0; omega)) (fun H locs hBn => ?_)
    clear hB; have hB := hBn; clear hBn
    refine lv_null hx hb dJx4a65c_fastRemove_b59b0_41 ?_
    refine sg_aastN 10 hx hb F.2.1 hB.1 rfl rfl dJx4a65c_fastRemove_b59b0_42 htr (by omega) (by show _ < ((sgN σ r : Nat) : Int); omega) (by show sgN σ r < _; omega) (fun H locs hs1 => ?_)
    have hBn := sgB_w hB hs1 (fun _ => rfl) (fun _ => rfl) (Nat.le_of_eq (sgPot_R (fun z9 => absurd ((Eq.symm (show sgT σ r = 110 from htr)).trans z9) (by decide))))
    clear hB; have hB := hBn; clear hBn
    exact sg_vret F hB hrt dJx4a65c_fastRemove_b59b0_43 (by decide) (by decide) (by first | exact ⟨rfl, sgOn_R (sgOn_I (sgOn_C (sgOn_I sgOn_rf))), (by show (if l0 = l0 ∧ 2 = 2 then z else _ : Int32).toInt = _; rw [if_pos ⟨rfl, rfl⟩]; exact ez), m_fr1 ez h0 (by omega), m_fr3 hlr hr1, fun j y h9 => m_fr2 (m_pn h9)⟩ | exact ⟨rfl, sgOn_R (sgOn_I (sgOn_I sgOn_rf)), (by show (if l0 = l0 ∧ 2 = 2 then z else _ : Int32).toInt = _; rw [if_pos ⟨rfl, rfl⟩]; exact ez), fun j hj => by have h9 : z.toInt ≤ (0 : Int) := i_le c19; omega, (show (if l0 = r ∧ 1 = _ then none else sgR σ l0 1) = some r by rw [if_neg (fun q => hlr q.1.symm)]; exact hr1), fun j y h9 => ⟨j, m_pn h9⟩⟩)
  · refine lv_aload_n hx hb dJx4a65c_fastRemove_b59b0_22 rfl (lv_at hl 2 rfl) ?_
    refine lv_iload_n hx hb dJx4a65c_fastRemove_b59b0_23 rfl (lv_at hl 3 rfl) ?_
    refine lv_iconst (v := 1) hx hb dJx4a65c_fastRemove_b59b0_24 (by decide) ?_
    refine lv_iadd hx hb dJx4a65c_fastRemove_b59b0_25 ?_
    refine lv_aload_n hx hb dJx4a65c_fastRemove_b59b0_26 rfl (lv_at hl 2 rfl) ?_
    refine lv_iload_n hx hb dJx4a65c_fastRemove_b59b0_27 rfl (lv_at hl 3 rfl) ?_
    refine lv_iload_n hx hb dJx4a65c_fastRemove_b59b0_28 rfl (lv_at hl 0 rfl) ?_
    refine lv_iload_n hx hb dJx4a65c_fastRemove_b59b0_29 rfl (lv_at hl 3 rfl) ?_
    refine lv_isub hx hb dJx4a65c_fastRemove_b59b0_30 ?_
    refine sg_copy F hB hl.1 (F.1.2.2.2.2 _ (List.mem_cons_of_mem _ (mm_5 _ (List.mem_of_getElem? (i := 20) rfl)))) (F.1.2.2.2.2 _ (List.mem_cons_of_mem _ (mm_1 _ (List.mem_of_getElem? (i := 37) rfl)))) (F.1.2.2.2.2 _ (List.mem_cons_of_mem _ (mm_1 _ (List.mem_of_getElem? (i := 38) rfl)))) (F.1.2.2.2.2 _ (List.mem_cons_of_mem _ (mm_1 _ (List.mem_of_getElem? (i := 39) rfl)))) dJx4a65c_fastRemove_b59b0_31 htr htr (by decide) (by decide) (by have h9 := i_sub (x := z) (y := 0) (by show _ ≤ _ - (0 : Int); omega) (by show _ - (0 : Int) ≤ _; omega); rw [h9]; show 0 ≤ _ - (0 : Int); omega) (by have h9 := i_sub (x := z) (y := 0) (by show _ ≤ _ - (0 : Int); omega) (by show _ - (0 : Int) ≤ _; omega); rw [h9]; show (1 : Int) + (_ - (0 : Int)) ≤ (sgN σ r : Int); omega) (by have h9 := i_sub (x := z) (y := 0) (by show _ ≤ _ - (0 : Int); omega) (by show _ - (0 : Int) ≤ _; omega); rw [h9]; show (0 : Int) + (_ - (0 : Int)) ≤ (sgN σ r : Int); omega) (fun i y hi hy => hel (1 + i) y (by have h9 := i_sub (x := z) (y := 0) (by show _ ≤ _ - (0 : Int); omega) (by show _ - (0 : Int) ≤ _; omega); rw [h9] at hi; have hi : i < ((z.toInt - (0 : Int)).toNat) := hi; omega) hy) (Nat.le_of_ble_eq_true rfl) (Nat.le_of_ble_eq_true rfl) (fun H locs hBn => ?_)
    clear hB; have hB := hBn; clear hBn
    refine lv_aload_n hx hb dJx4a65c_fastRemove_b59b0_34 rfl (lv_at hl 2 rfl) ?_
    refine lv_aload_n hx hb dJx4a65c_fastRemove_b59b0_35 rfl (lv_at hl 1 rfl) ?_
    refine lv_iload_n hx hb dJx4a65c_fastRemove_b59b0_36 rfl (lv_at hl 0 rfl) ?_
    refine lv_dup_x1 hx hb dJx4a65c_fastRemove_b59b0_37 rfl rfl ?_
    refine pf_Jx4a65c_48 (d := 0) F hB dJx4a65c_fastRemove_b59b0_38 (by assumption) (sgPot_size (e := 0) (by show z.toInt.toNat ≤ (sgI (sgPI σ l0 0 (sgI σ l0 0 + 1)) l0 2).toInt.toNat + 0; omega)) (fun H locs hBn => ?_)
    clear hB; have hB := hBn; clear hBn
    refine lv_null hx hb dJx4a65c_fastRemove_b59b0_41 ?_
    refine sg_aastN 10 hx hb F.2.1 hB.1 rfl rfl dJx4a65c_fastRemove_b59b0_42 htr (by omega) (by show _ < ((sgN σ r : Nat) : Int); omega) (by show sgN σ r < _; omega) (fun H locs hs1 => ?_)
    have hBn := sgB_w hB hs1 (fun _ => rfl) (fun _ => rfl) (Nat.le_of_eq (sgPot_R (fun z9 => absurd ((Eq.symm (show sgT σ r = 110 from htr)).trans z9) (by decide))))
    clear hB; have hB := hBn; clear hBn
    exact sg_vret F hB hrt dJx4a65c_fastRemove_b59b0_43 (by decide) (by decide) (by first | exact ⟨rfl, sgOn_R (sgOn_I (sgOn_C (sgOn_I sgOn_rf))), (by show (if l0 = l0 ∧ 2 = 2 then z else _ : Int32).toInt = _; rw [if_pos ⟨rfl, rfl⟩]; exact ez), m_fr1 ez h0 (by omega), m_fr3 hlr hr1, fun j y h9 => m_fr2 (m_pn h9)⟩ | exact ⟨rfl, sgOn_R (sgOn_I (sgOn_I sgOn_rf)), (by show (if l0 = l0 ∧ 2 = 2 then z else _ : Int32).toInt = _; rw [if_pos ⟨rfl, rfl⟩]; exact ez), fun j hj => by have h9 : z.toInt ≤ (0 : Int) := i_le c19; omega, (show (if l0 = r ∧ 1 = _ then none else sgR σ l0 1) = some r by rw [if_neg (fun q => hlr q.1.symm)]; exact hr1), fun j y h9 => ⟨j, m_pn h9⟩⟩)
theorem dJx4a65c_remove_915e3_0 : decode cJx4a65c_remove_915e3 0 = .ok (.iload_n 1, 1) := by decide +kernel
theorem dJx4a65c_remove_915e3_1 : decode cJx4a65c_remove_915e3 1 = .ok (.aload_n 0, 1) := by decide +kernel
theorem dJx4a65c_remove_915e3_2 : decode cJx4a65c_remove_915e3 2 = .ok (.getfield 48, 3) := by decide +kernel
theorem dJx4a65c_remove_915e3_5 : decode cJx4a65c_remove_915e3 5 = .ok (.invokestatic 118, 3) := by decide +kernel
theorem dJx4a65c_remove_915e3_8 : decode cJx4a65c_remove_915e3 8 = .ok (.pop, 1) := by decide +kernel
theorem dJx4a65c_remove_915e3_9 : decode cJx4a65c_remove_915e3 9 = .ok (.aload_n 0, 1) := by decide +kernel
theorem dJx4a65c_remove_915e3_10 : decode cJx4a65c_remove_915e3 10 = .ok (.getfield 9, 3) := by decide +kernel
theorem dJx4a65c_remove_915e3_13 : decode cJx4a65c_remove_915e3 13 = .ok (.astore_n 2, 1) := by decide +kernel
theorem dJx4a65c_remove_915e3_14 : decode cJx4a65c_remove_915e3 14 = .ok (.aload_n 2, 1) := by decide +kernel
theorem dJx4a65c_remove_915e3_15 : decode cJx4a65c_remove_915e3 15 = .ok (.iload_n 1, 1) := by decide +kernel
theorem dJx4a65c_remove_915e3_16 : decode cJx4a65c_remove_915e3 16 = .ok (.aaload, 1) := by decide +kernel
theorem dJx4a65c_remove_915e3_17 : decode cJx4a65c_remove_915e3 17 = .ok (.astore_n 3, 1) := by decide +kernel
theorem dJx4a65c_remove_915e3_18 : decode cJx4a65c_remove_915e3 18 = .ok (.aload_n 0, 1) := by decide +kernel
theorem dJx4a65c_remove_915e3_19 : decode cJx4a65c_remove_915e3 19 = .ok (.aload_n 2, 1) := by decide +kernel
theorem dJx4a65c_remove_915e3_20 : decode cJx4a65c_remove_915e3 20 = .ok (.iload_n 1, 1) := by decide +kernel
theorem dJx4a65c_remove_915e3_21 : decode cJx4a65c_remove_915e3 21 = .ok (.invokevirtual 144, 3) := by decide +kernel
theorem dJx4a65c_remove_915e3_24 : decode cJx4a65c_remove_915e3 24 = .ok (.aload_n 3, 1) := by decide +kernel
theorem dJx4a65c_remove_915e3_25 : decode cJx4a65c_remove_915e3 25 = .ok (.areturn, 1) := by decide +kernel
set_option maxRecDepth 100000 in
set_option maxHeartbeats 4000000 in
theorem m_remove0 (l : Launch) (D : va_G) (cy : Nat → ClassId) {eda ca : Nat} {ia : Nat → Nat} {σ : SG} {l0 r sz1 : Nat} (hL : sgLs σ l0 r sz1) (h0 : 0 < sz1) (hel : ∀ j y : Nat, j < sz1 → sgR σ r j = some y → sgK ia σ y) {y0 : Nat} (hy : sgR σ r 0 = some y0) (sz : Nat) : sgM l D cy eda ca ia σ sz yJx4a65c_remove_915e3 (Cond.code yJx4a65c_remove_915e3 cJx4a65c_remove_915e3 4 (some (.object "java/lang/Object")) :: mWall) 2 63 0 0 [.ref l0, .int 0] (fun v σ2 => v = some (.ref y0) ∧ sgOn l0 r σ σ2 ∧ (sgI σ2 l0 2).toInt = (sz1 : Int) - 1 ∧ (∀ j, j + 1 < sz1 → sgR σ2 r j = sgR σ r (j + 1)) ∧ sgR σ2 l0 1 = some r ∧ (∀ j y, sgR σ2 r j = some y → ∃ j2, sgR σ r j2 = some y)) := by
  refine sg_ofW (cc := cJx4a65c_remove_915e3) (maxL := 4) (ret := (some (.object "java/lang/Object"))) (by decide) rfl (Nat.le_of_ble_eq_true rfl) (lv := [(0, .ref l0), (1, .int 0)]) rfl (fun p e s m below meth c ls H N hrt hnm F hB hl => ?_) sz
  have hx := F.1.1
  have hb := F.1.2.1
  have hown := F.1.2.2.2.1
  obtain ⟨ht, hr1, htr, hsz, hle, hN9⟩ := id hL
  have hlr : r ≠ l0 := fun z => by rw [z, ht] at htr; exact absurd htr (by decide)
  refine lv_iload_n hx hb dJx4a65c_remove_915e3_0 rfl (lv_at hl 1 rfl) ?_
  refine lv_aload_n hx hb dJx4a65c_remove_915e3_1 rfl (lv_at hl 0 rfl) ?_
  refine gf_Jx4a65c_48 F hB dJx4a65c_remove_915e3_2 (by assumption) ?_
  refine sg_callS F hB (m_chk l D cy 0 (sgI σ l0 2) (by decide) (by show (0 : Int) < _; omega) _) (va_cwS 2 F.1.2.2.2.2 (mgS2 (mm_3 _ (List.mem_of_getElem? (i := 35) rfl)) (mm_3 _ (List.mem_of_getElem? (i := 36) rfl)) (mm_3 _ (List.mem_of_getElem? (i := 37) rfl)) (mm_3 _ (List.mem_of_getElem? (i := 29) rfl))) rfl rfl rfl ⟨by decide, by decide, by decide +kernel⟩ ⟨Nat.le_of_ble_eq_true rfl, Nat.le_of_ble_eq_true rfl⟩) rfl hl.1 rfl (Nat.le_of_ble_eq_true rfl) dJx4a65c_remove_915e3_5 (Nat.le_of_ble_eq_true rfl) (Nat.add_le_add_right (Nat.le_of_ble_eq_true rfl) _)  (fun H locs v σ5 N hBn hX5 hP => ?_)
  clear hB; have hB := hBn; clear hBn
  obtain ⟨rfl, rfl⟩ := hP
  refine lv_pop hx hb dJx4a65c_remove_915e3_8 rfl ?_
  refine lv_aload_n hx hb dJx4a65c_remove_915e3_9 rfl (lv_at hl 0 rfl) ?_
  refine gr_Jx4a65c_9 F hB dJx4a65c_remove_915e3_10 (by assumption) hr1 ?_
  refine lv_astore_n (lv' := [(2, .ref _), (0, .ref _), (1, .int _)]) hx hb dJx4a65c_remove_915e3_13 rfl hl (by decide) rfl (fun ls hl => ?_)
  refine lv_aload_n hx hb dJx4a65c_remove_915e3_14 rfl (lv_at hl 0 rfl) ?_
  refine lv_iload_n hx hb dJx4a65c_remove_915e3_15 rfl (lv_at hl 2 rfl) ?_
  refine sg_aaldR 10 hx hb F.2.1 hB.1 rfl rfl dJx4a65c_remove_915e3_16 (by assumption) (by decide) (by show (0 : Int) < _; omega) (by omega) (show sgR σ r _ = _ from hy) ?_
  refine lv_astore_n (lv' := [(3, .ref _), (2, .ref _), (0, .ref _), (1, .int _)]) hx hb dJx4a65c_remove_915e3_17 rfl hl (by decide) rfl (fun ls hl => ?_)
  refine lv_aload_n hx hb dJx4a65c_remove_915e3_18 rfl (lv_at hl 2 rfl) ?_
  refine lv_aload_n hx hb dJx4a65c_remove_915e3_19 rfl (lv_at hl 1 rfl) ?_
  refine lv_iload_n hx hb dJx4a65c_remove_915e3_20 rfl (lv_at hl 3 rfl) ?_
  refine sg_callV (ci := 4) F hB (m_fastRemove l D cy hL h0 hel _) (cwV 2 F.1.2.2.2.2 (mgV (mm_5 _ (List.mem_of_getElem? (i := 22) rfl)) (mm_5 _ (List.mem_of_getElem? (i := 23) rfl)) (mm_5 _ (List.mem_of_getElem? (i := 24) rfl)) (mm_0 _ (List.mem_of_getElem? (i := 35) rfl)) (mm_5 _ (List.mem_of_getElem? (i := 19) rfl))) rfl rfl rfl ⟨rfl, by decide, by decide, by decide +kernel⟩ ⟨Nat.le_of_ble_eq_true rfl, Nat.le_of_ble_eq_true rfl⟩) rfl rfl (by decide) rfl hl.1 rfl (Nat.le_of_ble_eq_true rfl) dJx4a65c_remove_915e3_21 (Nat.le_of_ble_eq_true rfl) (Nat.add_le_add_right (Nat.le_of_ble_eq_true rfl) _) (by assumption) (fun H locs v σ21 N hBn hX21 hP => ?_)
  clear hB; have hB := hBn; clear hBn
  obtain ⟨rfl, hP⟩ := hP
  refine lv_aload_n hx hb dJx4a65c_remove_915e3_24 rfl (lv_at hl 0 rfl) ?_
  exact sg_aret F hB hrt (Or.inl ⟨_, rfl⟩) (Or.inr ⟨_, rfl⟩) dJx4a65c_remove_915e3_25 (by decide) (by decide) (⟨rfl, hP⟩)
end MM4
