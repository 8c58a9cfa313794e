section MM17
section MM17A
variable {eda n S hw : Nat} {ia : Nat → Nat} {K : KM} {g : GH} {σ σ2 : SG} {l0 a k : Nat} {x : Int32}
theorem sgSz_nk (hk : 2 ≠ k) : sgSz (sgPI σ a k x) l0 = sgSz σ l0 := by unfold sgSz; rw [sgI_nk hk]
theorem sgSz_Qt (hq : sgQt σ σ2) (ht : sgT σ l0 = 5) : sgSz σ2 l0 = sgSz σ l0 := by unfold sgSz; rw [((hq.1 l0 (by rw [ht]; decide)).2.2 2).1]
theorem inv_szT (h : Inv eda ia K g n S hw σ) : (sgI σ (kT K) 2).toInt = sgSz σ (kT K) ∧ sgSz σ (kT K) ≤ 16 := by
  obtain ⟨q1, q2, -⟩ := inv_lsz h (inv_tT h).1
  rw [(inv_tT h).2] at q2
  exact ⟨q1, q2⟩
theorem inv_szR (h : Inv eda ia K g n S hw σ) : (sgI σ (kR K) 2).toInt = sgSz σ (kR K) ∧ sgSz σ (kR K) ≤ 8 := by
  obtain ⟨q1, q2, -⟩ := inv_lsz h (inv_tR h).1
  rw [(inv_tR h).2] at q2
  exact ⟨q1, q2⟩
theorem inv_szE (h : Inv eda ia K g n S hw σ) : (sgI σ (kE K) 2).toInt = sgSz σ (kE K) ∧ sgSz σ (kE K) ≤ 6 := by
  obtain ⟨q1, q2, -⟩ := inv_lsz h (inv_tE h).1
  rw [(inv_tE h).2] at q2
  exact ⟨q1, q2⟩
theorem inv_szG (h : Inv eda ia K g n S hw σ) : (sgI σ (kG K) 2).toInt = sgSz σ (kG K) ∧ sgSz σ (kG K) ≤ S - hw := by
  obtain ⟨q1, q2, -⟩ := inv_lsz h (inv_tG h).1
  rw [(inv_tG h).2] at q2
  exact ⟨q1, q2⟩
theorem inv_nD (h : Inv eda ia K g n S hw σ) (hr : gRo g l0 ≠ 1) : l0 ≠ kD K := fun z => hr (by rw [z]; exact (inv_tD h).2)
theorem nr7 {r : Nat} {P : Prop} (h : gRo g l0 = r) (h7 : r ≠ 7) : gRo g l0 = 7 → P := fun z => absurd (h.symm.trans z) h7
/-- an open pipe -/
theorem inv_pp (h : Inv eda ia K g n S hw σ) {j p : Nat} (hj : j < 12) (hp : sgR σ (kP K) j = some p) : sgT σ p = 18 := (inv_O h j p hj hp).1
/-- an End's list -/
theorem inv_el (h : Inv eda ia K g n S hw σ) (hx : sgT σ a = 17) : ∃ l : Nat, sgR σ a 3 = some l ∧ sgT σ l = 5 ∧ gRo g l = 6 ∧ gOw g l = a ∧ (sgI σ l 2).toInt = sgSz σ l ∧ sgSz σ l ≤ S - hw := by
  obtain ⟨l, q1, q2, q3, q4, -⟩ := inv_E h a hx
  obtain ⟨w1, w2, -⟩ := inv_lsz h q2
  rw [q3] at w2
  exact ⟨l, q1, q2, q3, q4, w1, w2⟩
/-- a Pipe's list -/
theorem inv_pl (h : Inv eda ia K g n S hw σ) (hx : sgT σ a = 18) : ∃ l : Nat, sgR σ a 9 = some l ∧ sgT σ l = 5 ∧ gRo g l = 7 ∧ gOw g l = a ∧ (sgI σ l 2).toInt = sgSz σ l ∧ sgSz σ l ≤ 4 := by
  obtain ⟨l, e, y, q1, q2, q3, q4, -⟩ := inv_P h a hx
  obtain ⟨w1, w2, -⟩ := inv_lsz h q2
  rw [q3] at w2
  exact ⟨l, q1, q2, q3, q4, w1, w2⟩
/-- one step of a check of bits -/
def m_chkv (c b z y : Int32) : Int32 := if (c >>> ((z - 1) &&& 31)) &&& 1 = b then (c <<< ((1 : Int32) &&& 31)) &&& ((((1 : Int32) <<< (z &&& 31))) - 1) else ((c <<< ((1 : Int32) &&& 31)) &&& ((((1 : Int32) <<< (z &&& 31))) - 1)) ^^^ y
def m_fv (x : Int32) : Nat → Int32
  | 0 => 31
  | k + 1 => m_chkv (m_fv x k) ((x >>> ((Int32.ofNat k) &&& 31)) &&& 1) 5 5
theorem m_ltN {N n : Nat} {z : Int} (h : N = n) (hz : z < (n : Int)) : z < (N : Int) := by rw [h]; exact hz
theorem m_ltM {N n : Nat} (h : N = n) (hz : n < 2147483648) : N < 2147483648 := by rw [h]; exact hz
theorem m_minI {x y : Int32} : (if y < x then y else x).toInt = min x.toInt y.toInt := by
  by_cases q : y < x
  · rw [if_pos q]
    have := i_lt q
    omega
  · rw [if_neg q]
    have := i_nlt q
    omega
theorem m_sub1 {x : Int32} (h1 : -1000000 ≤ x.toInt) (h2 : x.toInt ≤ 1000000) : (x - 1).toInt = x.toInt - 1 := by
  have e1 : (1 : Int32).toInt = 1 := rfl
  rw [i_sub (by rw [e1]; omega) (by rw [e1]; omega), e1]
theorem m_add1 {x : Int32} (h1 : -1000000 ≤ x.toInt) (h2 : x.toInt ≤ 1000000) : (x + 1).toInt = x.toInt + 1 := by
  have e1 : (1 : Int32).toInt = 1 := rfl
  rw [i_add (by rw [e1]; omega) (by rw [e1]; omega), e1]
theorem m_i0 : (0 : Int32).toInt = 0 := rfl
end MM17A
theorem dX14_isSound_0 : decode cX14_isSound 0 = .ok (.aload_n 0, 1) := by decide +kernel
theorem dX14_isSound_1 : decode cX14_isSound 1 = .ok (.iconst 0, 1) := by decide +kernel
theorem dX14_isSound_2 : decode cX14_isSound 2 = .ok (.putfield 61, 3) := by decide +kernel
theorem dX14_isSound_5 : decode cX14_isSound 5 = .ok (.iconst 1, 1) := by decide +kernel
theorem dX14_isSound_6 : decode cX14_isSound 6 = .ok (.ireturn, 1) := by decide +kernel
set_option maxRecDepth 100000 in
set_option maxHeartbeats 4000000 in
theorem m_isSound (l : Launch) (D : va_G) (cy : Nat → ClassId) {eda ca : Nat} {ia : Nat → Nat} {σ : SG} {K : KM} {g : GH} {n S hw : Nat} (h : Inv eda ia K g n S hw σ) (sz : Nat) : sgM l D cy eda ca ia σ sz yX14_isSound (Cond.code yX14_isSound cX14_isSound 1 (some .boolean) :: mWall) 0 0 0 0 [.ref (kA K)] (fun v σ2 => v = some (.int 1) ∧ Inv eda ia K g n S hw σ2) := by
  refine sg_ofW (cc := cX14_isSound) (maxL := 1) (ret := (some .boolean)) (by decide) rfl (Nat.le_of_ble_eq_true rfl) (lv := [(0, .ref (kA K))]) rfl (fun p e s m below meth c ls H N hrt hnm F hB hl => ?_) sz
  have hx := F.1.1
  have hb := F.1.2.1
  have hown := F.1.2.2.2.1
  refine lv_aload_n hx hb dX14_isSound_0 rfl (lv_at hl 0 rfl) ?_
  refine lv_iconst (v := 0) hx hb dX14_isSound_1 (by decide) ?_
  refine pf_X14_61 F hB dX14_isSound_2 (inv_A h) (fun H locs hBn => ?_)
  clear hB; have hB := hBn; clear hBn
  have hI2 := inv_PIc (t := 20) hB h (inv_A h) (by unfold iCn; omega)
  refine lv_iconst (v := 1) hx hb dX14_isSound_5 (by decide) ?_
  exact sg_zret F hB hrt dX14_isSound_6 (by decide) (by decide) rfl (⟨rfl, hI2⟩)
theorem dX14_check_0 : decode cX14_check 0 = .ok (.iload_n 0, 1) := by decide +kernel
theorem dX14_check_1 : decode cX14_check 1 = .ok (.iload_n 2, 1) := by decide +kernel
theorem dX14_check_2 : decode cX14_check 2 = .ok (.iconst 1, 1) := by decide +kernel
theorem dX14_check_3 : decode cX14_check 3 = .ok (.isub, 1) := by decide +kernel
theorem dX14_check_4 : decode cX14_check 4 = .ok (.ishr, 1) := by decide +kernel
theorem dX14_check_5 : decode cX14_check 5 = .ok (.iconst 1, 1) := by decide +kernel
theorem dX14_check_6 : decode cX14_check 6 = .ok (.iand, 1) := by decide +kernel
theorem dX14_check_7 : decode cX14_check 7 = .ok (.istore 4, 2) := by decide +kernel
theorem dX14_check_9 : decode cX14_check 9 = .ok (.iload_n 0, 1) := by decide +kernel
theorem dX14_check_10 : decode cX14_check 10 = .ok (.iconst 1, 1) := by decide +kernel
theorem dX14_check_11 : decode cX14_check 11 = .ok (.ishl, 1) := by decide +kernel
theorem dX14_check_12 : decode cX14_check 12 = .ok (.iconst 1, 1) := by decide +kernel
theorem dX14_check_13 : decode cX14_check 13 = .ok (.iload_n 2, 1) := by decide +kernel
theorem dX14_check_14 : decode cX14_check 14 = .ok (.ishl, 1) := by decide +kernel
theorem dX14_check_15 : decode cX14_check 15 = .ok (.iconst 1, 1) := by decide +kernel
theorem dX14_check_16 : decode cX14_check 16 = .ok (.isub, 1) := by decide +kernel
theorem dX14_check_17 : decode cX14_check 17 = .ok (.iand, 1) := by decide +kernel
theorem dX14_check_18 : decode cX14_check 18 = .ok (.istore 5, 2) := by decide +kernel
theorem dX14_check_20 : decode cX14_check 20 = .ok (.iload 4, 2) := by decide +kernel
theorem dX14_check_22 : decode cX14_check 22 = .ok (.iload_n 1, 1) := by decide +kernel
theorem dX14_check_23 : decode cX14_check 23 = .ok (.if_icmp .ne 8, 3) := by decide +kernel
theorem dX14_check_26 : decode cX14_check 26 = .ok (.iload 5, 2) := by decide +kernel
theorem dX14_check_28 : decode cX14_check 28 = .ok (.goto 7, 3) := by decide +kernel
theorem dX14_check_31 : decode cX14_check 31 = .ok (.iload 5, 2) := by decide +kernel
theorem dX14_check_33 : decode cX14_check 33 = .ok (.iload_n 3, 1) := by decide +kernel
theorem dX14_check_34 : decode cX14_check 34 = .ok (.ixor, 1) := by decide +kernel
theorem dX14_check_35 : decode cX14_check 35 = .ok (.ireturn, 1) := by decide +kernel
set_option maxRecDepth 100000 in
set_option maxHeartbeats 4000000 in
theorem m_check (l : Launch) (D : va_G) (cy : Nat → ClassId) {eda ca : Nat} {ia : Nat → Nat} {σ : SG} (c b z y : Int32) (sz : Nat) : sgM l D cy eda ca ia σ sz yX14_check (Cond.code yX14_check cX14_check 6 (some .int) :: mWall) 0 0 0 0 [.int c, .int b, .int z, .int y] (fun v σ2 => v = some (.int (m_chkv c b z y)) ∧ σ = σ2) := by
  refine sg_ofW (cc := cX14_check) (maxL := 6) (ret := (some .int)) (by decide) rfl (Nat.le_of_ble_eq_true rfl) (lv := [(0, .int c), (1, .int b), (2, .int z), (3, .int y)]) rfl (fun p e s m below meth c ls H N hrt hnm F hB hl => ?_) sz
  have hx := F.1.1
  have hb := F.1.2.1
  have hown := F.1.2.2.2.1
  refine lv_iload_n hx hb dX14_check_0 rfl (lv_at hl 0 rfl) ?_
  refine lv_iload_n hx hb dX14_check_1 rfl (lv_at hl 2 rfl) ?_
  refine lv_iconst (v := 1) hx hb dX14_check_2 (by decide) ?_
  refine lv_isub hx hb dX14_check_3 ?_
  refine lv_ishr hx hb dX14_check_4 ?_
  refine lv_iconst (v := 1) hx hb dX14_check_5 (by decide) ?_
  refine lv_iand hx hb dX14_check_6 ?_
  refine lv_istore (lv' := [(4, .int _), (0, .int _), (1, .int _), (2, .int _), (3, .int _)]) hx hb dX14_check_7 hl (by decide) rfl (fun ls hl => ?_)
  refine lv_iload_n hx hb dX14_check_9 rfl (lv_at hl 1 rfl) ?_
  refine lv_iconst (v := 1) hx hb dX14_check_10 (by decide) ?_
  refine lv_ishl hx hb dX14_check_11 ?_
  refine lv_iconst (v := 1) hx hb dX14_check_12 (by decide) ?_
  refine lv_iload_n hx hb dX14_check_13 rfl (lv_at hl 3 rfl) ?_
  refine lv_ishl hx hb dX14_check_14 ?_
  refine lv_iconst (v := 1) hx hb dX14_check_15 (by decide) ?_
  refine lv_isub hx hb dX14_check_16 ?_
  refine lv_iand hx hb dX14_check_17 ?_
  refine lv_istore (lv' := [(5, .int _), (4, .int _), (0, .int _), (1, .int _), (2, .int _), (3, .int _)]) hx hb dX14_check_18 hl (by decide) rfl (fun ls hl => ?_)
  refine lv_iload hx hb dX14_check_20 (lv_at hl 1 rfl) ?_
  refine lv_iload_n hx hb dX14_check_22 rfl (lv_at hl 3 rfl) ?_
  refine lv_icmp_ne (tgt := 31) hx hb dX14_check_23 (by decide) (fun c23 => ?_) (fun c23 => ?_)
  · refine lv_iload hx hb dX14_check_31 (lv_at hl 0 rfl) ?_
    refine lv_iload_n hx hb dX14_check_33 rfl (lv_at hl 5 rfl) ?_
    refine lv_ixor hx hb dX14_check_34 ?_
    exact sg_iret F hB hrt dX14_check_35 (by decide) (by decide) (by unfold m_chkv; first | (rw [if_pos c23]; exact ⟨rfl, rfl⟩) | (rw [if_neg c23]; exact ⟨rfl, rfl⟩))
  · refine lv_iload hx hb dX14_check_26 (lv_at hl 0 rfl) ?_
    refine lv_goto (tgt := 35) hx hb dX14_check_28 (by decide) ?_
    exact sg_iret F hB hrt dX14_check_35 (by decide) (by decide) (by unfold m_chkv; first | (rw [if_pos c23]; exact ⟨rfl, rfl⟩) | (rw [if_neg c23]; exact ⟨rfl, rfl⟩))
theorem dX14_five_0 : decode cX14_five 0 = .ok (.aload_n 0, 1) := by decide +kernel
theorem dX14_five_1 : decode cX14_five 1 = .ok (.iload_n 1, 1) := by decide +kernel
theorem dX14_five_2 : decode cX14_five 2 = .ok (.iconst 0, 1) := by decide +kernel
theorem dX14_five_3 : decode cX14_five 3 = .ok (.sipush 2047, 3) := by decide +kernel
theorem dX14_five_6 : decode cX14_five 6 = .ok (.invokestatic 68, 3) := by decide +kernel
theorem dX14_five_9 : decode cX14_five 9 = .ok (.ifCond .eq 7, 3) := by decide +kernel
theorem dX14_five_12 : decode cX14_five 12 = .ok (.iconst 0, 1) := by decide +kernel
theorem dX14_five_13 : decode cX14_five 13 = .ok (.goto 4, 3) := by decide +kernel
theorem dX14_five_16 : decode cX14_five 16 = .ok (.iconst 1, 1) := by decide +kernel
theorem dX14_five_17 : decode cX14_five 17 = .ok (.putfield 61, 3) := by decide +kernel
theorem dX14_five_20 : decode cX14_five 20 = .ok (.bipush 31, 2) := by decide +kernel
theorem dX14_five_22 : decode cX14_five 22 = .ok (.istore_n 2, 1) := by decide +kernel
theorem dX14_five_23 : decode cX14_five 23 = .ok (.iconst 0, 1) := by decide +kernel
theorem dX14_five_24 : decode cX14_five 24 = .ok (.istore_n 3, 1) := by decide +kernel
theorem dX14_five_25 : decode cX14_five 25 = .ok (.iload_n 3, 1) := by decide +kernel
theorem dX14_five_26 : decode cX14_five 26 = .ok (.bipush 11, 2) := by decide +kernel
theorem dX14_five_28 : decode cX14_five 28 = .ok (.if_icmp .ge 21, 3) := by decide +kernel
theorem dX14_five_31 : decode cX14_five 31 = .ok (.iload_n 2, 1) := by decide +kernel
theorem dX14_five_32 : decode cX14_five 32 = .ok (.iload_n 1, 1) := by decide +kernel
theorem dX14_five_33 : decode cX14_five 33 = .ok (.iload_n 3, 1) := by decide +kernel
theorem dX14_five_34 : decode cX14_five 34 = .ok (.ishr, 1) := by decide +kernel
theorem dX14_five_35 : decode cX14_five 35 = .ok (.iconst 1, 1) := by decide +kernel
theorem dX14_five_36 : decode cX14_five 36 = .ok (.iand, 1) := by decide +kernel
theorem dX14_five_37 : decode cX14_five 37 = .ok (.iconst 5, 1) := by decide +kernel
theorem dX14_five_38 : decode cX14_five 38 = .ok (.iconst 5, 1) := by decide +kernel
theorem dX14_five_39 : decode cX14_five 39 = .ok (.invokestatic 208, 3) := by decide +kernel
theorem dX14_five_42 : decode cX14_five 42 = .ok (.istore_n 2, 1) := by decide +kernel
theorem dX14_five_43 : decode cX14_five 43 = .ok (.iinc 3 1, 3) := by decide +kernel
theorem dX14_five_46 : decode cX14_five 46 = .ok (.goto (-21), 3) := by decide +kernel
theorem dX14_five_49 : decode cX14_five 49 = .ok (.aload_n 0, 1) := by decide +kernel
theorem dX14_five_50 : decode cX14_five 50 = .ok (.getfield 61, 3) := by decide +kernel
theorem dX14_five_53 : decode cX14_five 53 = .ok (.ifCond .le 7, 3) := by decide +kernel
theorem dX14_five_56 : decode cX14_five 56 = .ok (.iconst 0, 1) := by decide +kernel
theorem dX14_five_57 : decode cX14_five 57 = .ok (.goto 7, 3) := by decide +kernel
theorem dX14_five_60 : decode cX14_five 60 = .ok (.bipush 31, 2) := by decide +kernel
theorem dX14_five_62 : decode cX14_five 62 = .ok (.iload_n 2, 1) := by decide +kernel
theorem dX14_five_63 : decode cX14_five 63 = .ok (.isub, 1) := by decide +kernel
theorem dX14_five_64 : decode cX14_five 64 = .ok (.ireturn, 1) := by decide +kernel
set_option maxRecDepth 100000 in
set_option maxHeartbeats 4000000 in
theorem m_five (l : Launch) (D : va_G) (cy : Nat → ClassId) {eda ca : Nat} {ia : Nat → Nat} {σ : SG} {K : KM} {g : GH} {n S hw : Nat} (h : Inv eda ia K g n S hw σ) (x : Int32) (sz : Nat) : sgM l D cy eda ca ia σ sz yX14_five (Cond.code yX14_five cX14_five 4 (some .int) :: mWall) 1 25 0 0 [.ref (kA K), .int x] (fun v σ2 => Inv eda ia K g n S hw σ2 ∧ ((¬ (0 ≤ x.toInt ∧ x.toInt ≤ 2047) ∧ v = some (.int 0) ∧ sgI σ2 (kA K) 0 = 1) ∨ ((0 ≤ x.toInt ∧ x.toInt ≤ 2047) ∧ v = some (.int (31 - m_fv x 11)) ∧ sgI σ2 (kA K) 0 = 0))) := by
  refine sg_ofW (cc := cX14_five) (maxL := 4) (ret := (some .int)) (by decide) rfl (Nat.le_of_ble_eq_true rfl) (lv := [(0, .ref (kA K)), (1, .int x)]) rfl (fun p e s m below meth c ls H N hrt hnm F hB hl => ?_) sz
  have hx := F.1.1
  have hb := F.1.2.1
  have hown := F.1.2.2.2.1
  generalize hlo : ([] : List Loc) = locs at hB ⊢
  clear hlo
  refine lv_aload_n hx hb dX14_five_0 rfl (lv_at hl 0 rfl) ?_
  refine lv_iload_n hx hb dX14_five_1 rfl (lv_at hl 1 rfl) ?_
  refine lv_iconst (v := 0) hx hb dX14_five_2 (by decide) ?_
  refine lv_sipush (v := 2047) hx hb dX14_five_3 (by decide) ?_
  refine sg_callS F hB (m_in l D cy x 0 2047 _) (cwS 3 F.1.2.2.2.2 (mgS (mm_3 _ (List.mem_of_getElem? (i := 21) rfl)) (mm_3 _ (List.mem_of_getElem? (i := 22) rfl)) (mm_3 _ (List.mem_of_getElem? (i := 23) rfl)) (mm_1 _ (List.mem_of_getElem? (i := 19) rfl))) rfl rfl rfl ⟨rfl, by decide, by decide, by decide +kernel⟩ ⟨Nat.le_of_ble_eq_true rfl, Nat.le_of_ble_eq_true rfl⟩) rfl hl.1 rfl (Nat.le_of_ble_eq_true rfl) dX14_five_6 (Nat.le_of_ble_eq_true rfl) (Nat.add_le_add_right (Nat.le_of_ble_eq_true rfl) _)  (fun H locs v σ6 N hBn hX6 hP => ?_)
  clear hB; have hB := hBn; clear hBn
  obtain ⟨b6, rfl, rfl, hb6⟩ := hP
  refine lv_if_eq (tgt := 16) hx hb dX14_five_9 (by decide) (fun c9 => ?_) (fun c9 => ?_)
  · refine lv_iconst (v := 1) hx hb dX14_five_16 (by decide) ?_
    refine pf_X14_61 F hB dX14_five_17 (inv_A h) (fun H locs hBn => ?_)
    clear hB; have hB := hBn; clear hBn
    have hI17 := inv_PIc (t := 20) hB h (inv_A h) (by unfold iCn; omega)
    refine lv_bipush (v := 31) hx hb dX14_five_20 (by decide) ?_
    refine lv_istore_n (lv' := [(2, .int _), (0, .ref _), (1, .int _)]) hx hb dX14_five_22 rfl hl (by decide) rfl (fun ls hl => ?_)
    refine lv_iconst (v := 0) hx hb dX14_five_23 (by decide) ?_
    refine lv_istore_n (lv' := [(3, .int _), (2, .int _), (0, .ref _), (1, .int _)]) hx hb dX14_five_24 rfl hl (by decide) rfl (fun ls hl => ?_)
    have key25 : ∃ kk : Nat, sgB D cy s σ (sgPI σ (kA K) 0 1) H locs N 0 ∧ lv_has ls 4 [(3, .int (Int32.ofNat kk)), (2, .int (m_fv x kk)), (1, .int x), (0, .ref (kA K))] ∧ kk ≤ 11 := ⟨0, hB, (lv_sub hl [0, 1, 3, 2] rfl), Nat.zero_le _⟩
    clear hB hl
    obtain ⟨kk, hB, hl, hkk⟩ := key25
    obtain ⟨d, hd⟩ : ∃ d : Nat, d = 11 - kk := ⟨_, rfl⟩
    induction d using Nat.strongRecOn generalizing H locs ls N kk
    rename_i d ih
    have ekk : (Int32.ofNat kk).toInt = kk := Int32.toInt_ofNat_of_lt (by omega)
    refine lv_iload_n hx hb dX14_five_25 rfl (lv_at hl 0 rfl) ?_
    refine lv_bipush (v := 11) hx hb dX14_five_26 (by decide) ?_
    refine lv_icmp_ge (tgt := 49) hx hb dX14_five_28 (by decide) (fun c28 => ?_) (fun c28 => ?_)
    · refine lv_aload_n hx hb dX14_five_49 rfl (lv_at hl 3 rfl) ?_
      refine gf_X14_61 F hB dX14_five_50 (inv_A hI17) ?_
      rw [sgI_PI, if_pos ⟨rfl, rfl⟩]
      refine lv_if_le (tgt := 60) hx hb dX14_five_53 (by decide) (fun c53 => (by first | exact absurd c53 (by decide) | exact (c53 (by decide)).elim)) (fun c53 => ?_)
      refine lv_iconst (v := 0) hx hb dX14_five_56 (by decide) ?_
      refine lv_goto (tgt := 64) hx hb dX14_five_57 (by decide) ?_
      exact sg_iret F hB hrt dX14_five_64 (by decide) (by decide) (by first | exact ⟨hI17, Or.inl ⟨sgb_f hb6 c9, rfl, by rw [sgI_PI, if_pos ⟨rfl, rfl⟩]⟩⟩ | (have q11 : kk = 11 := (by have q := i_le c28; rw [ekk] at q; have : (11 : Int32).toInt = 11 := rfl; omega); subst q11; exact ⟨hI17, Or.inr ⟨sgb_t hb6 c9, rfl, by rw [sgI_PI, if_pos ⟨rfl, rfl⟩]⟩⟩))
    · refine lv_iload_n hx hb dX14_five_31 rfl (lv_at hl 1 rfl) ?_
      refine lv_iload_n hx hb dX14_five_32 rfl (lv_at hl 2 rfl) ?_
      refine lv_iload_n hx hb dX14_five_33 rfl (lv_at hl 0 rfl) ?_
      refine lv_ishr hx hb dX14_five_34 ?_
      refine lv_iconst (v := 1) hx hb dX14_five_35 (by decide) ?_
      refine lv_iand hx hb dX14_five_36 ?_
      refine lv_iconst (v := 5) hx hb dX14_five_37 (by decide) ?_
      refine lv_iconst (v := 5) hx hb dX14_five_38 (by decide) ?_
      refine sg_callS F hB (m_check l D cy (m_fv x kk) ((x >>> ((Int32.ofNat kk) &&& 31)) &&& 1) 5 5 _) (cwS 4 F.1.2.2.2.2 (mgS (mm_7 _ (List.mem_of_getElem? (i := 16) rfl)) (mm_7 _ (List.mem_of_getElem? (i := 17) rfl)) (mm_3 _ (List.mem_of_getElem? (i := 23) rfl)) (mm_7 _ (List.mem_of_getElem? (i := 14) rfl))) rfl rfl rfl ⟨rfl, by decide, by decide, by decide +kernel⟩ ⟨Nat.le_of_ble_eq_true rfl, Nat.le_of_ble_eq_true rfl⟩) rfl hl.1 rfl (Nat.le_of_ble_eq_true rfl) dX14_five_39 (Nat.le_of_ble_eq_true rfl) (Nat.add_le_add_right (Nat.le_of_ble_eq_true rfl) _)  (fun H locs v σ39 N hBn hX39 hP => ?_)
      clear hB; have hB := hBn; clear hBn
      obtain ⟨rfl, rfl⟩ := hP
      refine lv_istore_n (lv' := [(2, .int _), (3, .int _), (1, .int _), (0, .ref _)]) hx hb dX14_five_42 rfl hl (by decide) rfl (fun ls hl => ?_)
      refine lv_iinc (lv' := [(3, .int _), (2, .int _), (1, .int _), (0, .ref _)]) hx hb dX14_five_43 hl (k := 1) rfl rfl (by decide) rfl (fun ls hl => ?_)
      refine lv_goto (tgt := 25) hx hb dX14_five_46 (by decide) ?_
      have e1 : Int32.ofNat kk + 1 = Int32.ofNat (kk + 1) := by
        have q := i_add (x := Int32.ofNat kk) (y := 1) (by rw [ekk]; show _ ≤ _ + (1 : Int); omega) (by rw [ekk]; show _ + (1 : Int) ≤ _; omega)
        refine i_eq.mpr ?_
        rw [q, ekk, Int32.toInt_ofNat_of_lt (by omega)]; rfl
      rw [show Int32.ofInt 1 = 1 from by decide, e1] at hl
      exact ih _ (by subst hd; have q := i_nle c28; rw [ekk] at q; have : (11 : Int32).toInt = 11 := rfl; omega) _ _ _ _ _ hB (lv_sub hl [0, 1, 2, 3] rfl) (by have q := i_nle c28; rw [ekk] at q; have : (11 : Int32).toInt = 11 := rfl; omega) rfl
  · refine lv_iconst (v := 0) hx hb dX14_five_12 (by decide) ?_
    refine lv_goto (tgt := 17) hx hb dX14_five_13 (by decide) ?_
    refine pf_X14_61 F hB dX14_five_17 (inv_A h) (fun H locs hBn => ?_)
    clear hB; have hB := hBn; clear hBn
    have hI17 := inv_PIc (t := 20) hB h (inv_A h) (by unfold iCn; omega)
    refine lv_bipush (v := 31) hx hb dX14_five_20 (by decide) ?_
    refine lv_istore_n (lv' := [(2, .int _), (0, .ref _), (1, .int _)]) hx hb dX14_five_22 rfl hl (by decide) rfl (fun ls hl => ?_)
    refine lv_iconst (v := 0) hx hb dX14_five_23 (by decide) ?_
    refine lv_istore_n (lv' := [(3, .int _), (2, .int _), (0, .ref _), (1, .int _)]) hx hb dX14_five_24 rfl hl (by decide) rfl (fun ls hl => ?_)
    have key25 : ∃ kk : Nat, sgB D cy s σ (sgPI σ (kA K) 0 0) H locs N 0 ∧ lv_has ls 4 [(3, .int (Int32.ofNat kk)), (2, .int (m_fv x kk)), (1, .int x), (0, .ref (kA K))] ∧ kk ≤ 11 := ⟨0, hB, (lv_sub hl [0, 1, 3, 2] rfl), Nat.zero_le _⟩
    clear hB hl
    obtain ⟨kk, hB, hl, hkk⟩ := key25
    obtain ⟨d, hd⟩ : ∃ d : Nat, d = 11 - kk := ⟨_, rfl⟩
    induction d using Nat.strongRecOn generalizing H locs ls N kk
    rename_i d ih
    have ekk : (Int32.ofNat kk).toInt = kk := Int32.toInt_ofNat_of_lt (by omega)
    refine lv_iload_n hx hb dX14_five_25 rfl (lv_at hl 0 rfl) ?_
    refine lv_bipush (v := 11) hx hb dX14_five_26 (by decide) ?_
    refine lv_icmp_ge (tgt := 49) hx hb dX14_five_28 (by decide) (fun c28 => ?_) (fun c28 => ?_)
    · refine lv_aload_n hx hb dX14_five_49 rfl (lv_at hl 3 rfl) ?_
      refine gf_X14_61 F hB dX14_five_50 (inv_A hI17) ?_
      rw [sgI_PI, if_pos ⟨rfl, rfl⟩]
      refine lv_if_le (tgt := 60) hx hb dX14_five_53 (by decide) (fun c53 => ?_) (fun c53 => (by first | exact absurd c53 (by decide) | exact (c53 (by decide)).elim))
      refine lv_bipush (v := 31) hx hb dX14_five_60 (by decide) ?_
      refine lv_iload_n hx hb dX14_five_62 rfl (lv_at hl 1 rfl) ?_
      refine lv_isub hx hb dX14_five_63 ?_
      exact sg_iret F hB hrt dX14_five_64 (by decide) (by decide) (by first | exact ⟨hI17, Or.inl ⟨sgb_f hb6 c9, rfl, by rw [sgI_PI, if_pos ⟨rfl, rfl⟩]⟩⟩ | (have q11 : kk = 11 := (by have q := i_le c28; rw [ekk] at q; have : (11 : Int32).toInt = 11 := rfl; omega); subst q11; exact ⟨hI17, Or.inr ⟨sgb_t hb6 c9, rfl, by rw [sgI_PI, if_pos ⟨rfl, rfl⟩]⟩⟩))
    · refine lv_iload_n hx hb dX14_five_31 rfl (lv_at hl 1 rfl) ?_
      refine lv_iload_n hx hb dX14_five_32 rfl (lv_at hl 2 rfl) ?_
      refine lv_iload_n hx hb dX14_five_33 rfl (lv_at hl 0 rfl) ?_
      refine lv_ishr hx hb dX14_five_34 ?_
      refine lv_iconst (v := 1) hx hb dX14_five_35 (by decide) ?_
      refine lv_iand hx hb dX14_five_36 ?_
      refine lv_iconst (v := 5) hx hb dX14_five_37 (by decide) ?_
      refine lv_iconst (v := 5) hx hb dX14_five_38 (by decide) ?_
      refine sg_callS F hB (m_check l D cy (m_fv x kk) ((x >>> ((Int32.ofNat kk) &&& 31)) &&& 1) 5 5 _) (cwS 4 F.1.2.2.2.2 (mgS (mm_7 _ (List.mem_of_getElem? (i := 16) rfl)) (mm_7 _ (List.mem_of_getElem? (i := 17) rfl)) (mm_3 _ (List.mem_of_getElem? (i := 23) rfl)) (mm_7 _ (List.mem_of_getElem? (i := 14) rfl))) rfl rfl rfl ⟨rfl, by decide, by decide, by decide +kernel⟩ ⟨Nat.le_of_ble_eq_true rfl, Nat.le_of_ble_eq_true rfl⟩) rfl hl.1 rfl (Nat.le_of_ble_eq_true rfl) dX14_five_39 (Nat.le_of_ble_eq_true rfl) (Nat.add_le_add_right (Nat.le_of_ble_eq_true rfl) _)  (fun H locs v σ39 N hBn hX39 hP => ?_)
      clear hB; have hB := hBn; clear hBn
      obtain ⟨rfl, rfl⟩ := hP
      refine lv_istore_n (lv' := [(2, .int _), (3, .int _), (1, .int _), (0, .ref _)]) hx hb dX14_five_42 rfl hl (by decide) rfl (fun ls hl => ?_)
      refine lv_iinc (lv' := [(3, .int _), (2, .int _), (1, .int _), (0, .ref _)]) hx hb dX14_five_43 hl (k := 1) rfl rfl (by decide) rfl (fun ls hl => ?_)
      refine lv_goto (tgt := 25) hx hb dX14_five_46 (by decide) ?_
      have e1 : Int32.ofNat kk + 1 = Int32.ofNat (kk + 1) := by
        have q := i_add (x := Int32.ofNat kk) (y := 1) (by rw [ekk]; show _ ≤ _ + (1 : Int); omega) (by rw [ekk]; show _ + (1 : Int) ≤ _; omega)
        refine i_eq.mpr ?_
        rw [q, ekk, Int32.toInt_ofNat_of_lt (by omega)]; rfl
      rw [show Int32.ofInt 1 = 1 from by decide, e1] at hl
      exact ih _ (by subst hd; have q := i_nle c28; rw [ekk] at q; have : (11 : Int32).toInt = 11 := rfl; omega) _ _ _ _ _ hB (lv_sub hl [0, 1, 2, 3] rfl) (by have q := i_nle c28; rw [ekk] at q; have : (11 : Int32).toInt = 11 := rfl; omega) rfl
theorem dX14_type_0 : decode cX14_type 0 = .ok (.aload_n 0, 1) := by decide +kernel
theorem dX14_type_1 : decode cX14_type 1 = .ok (.iload_n 1, 1) := by decide +kernel
theorem dX14_type_2 : decode cX14_type 2 = .ok (.iconst 0, 1) := by decide +kernel
theorem dX14_type_3 : decode cX14_type 3 = .ok (.sipush 255, 3) := by decide +kernel
theorem dX14_type_6 : decode cX14_type 6 = .ok (.invokestatic 68, 3) := by decide +kernel
theorem dX14_type_9 : decode cX14_type 9 = .ok (.ifCond .ne 7, 3) := by decide +kernel
theorem dX14_type_12 : decode cX14_type 12 = .ok (.iconst 1, 1) := by decide +kernel
theorem dX14_type_13 : decode cX14_type 13 = .ok (.goto 20, 3) := by decide +kernel
theorem dX14_type_16 : decode cX14_type 16 = .ok (.aload_n 0, 1) := by decide +kernel
theorem dX14_type_17 : decode cX14_type 17 = .ok (.getfield 25, 3) := by decide +kernel
theorem dX14_type_20 : decode cX14_type 20 = .ok (.invokevirtual 64, 3) := by decide +kernel
theorem dX14_type_23 : decode cX14_type 23 = .ok (.bipush 16, 2) := by decide +kernel
theorem dX14_type_25 : decode cX14_type 25 = .ok (.if_icmp .ne 7, 3) := by decide +kernel
theorem dX14_type_28 : decode cX14_type 28 = .ok (.iconst 2, 1) := by decide +kernel
theorem dX14_type_29 : decode cX14_type 29 = .ok (.goto 4, 3) := by decide +kernel
theorem dX14_type_32 : decode cX14_type 32 = .ok (.iconst 0, 1) := by decide +kernel
theorem dX14_type_33 : decode cX14_type 33 = .ok (.putfield 61, 3) := by decide +kernel
theorem dX14_type_36 : decode cX14_type 36 = .ok (.aload_n 0, 1) := by decide +kernel
theorem dX14_type_37 : decode cX14_type 37 = .ok (.getfield 61, 3) := by decide +kernel
theorem dX14_type_40 : decode cX14_type 40 = .ok (.ifCond .le 5, 3) := by decide +kernel
theorem dX14_type_43 : decode cX14_type 43 = .ok (.iconst 0, 1) := by decide +kernel
theorem dX14_type_44 : decode cX14_type 44 = .ok (.ireturn, 1) := by decide +kernel
theorem dX14_type_45 : decode cX14_type 45 = .ok (.aload_n 0, 1) := by decide +kernel
theorem dX14_type_46 : decode cX14_type 46 = .ok (.getfield 25, 3) := by decide +kernel
theorem dX14_type_49 : decode cX14_type 49 = .ok (.iload_n 1, 1) := by decide +kernel
theorem dX14_type_50 : decode cX14_type 50 = .ok (.invokestatic 212, 3) := by decide +kernel
theorem dX14_type_53 : decode cX14_type 53 = .ok (.invokevirtual 57, 3) := by decide +kernel
theorem dX14_type_56 : decode cX14_type 56 = .ok (.pop, 1) := by decide +kernel
theorem dX14_type_57 : decode cX14_type 57 = .ok (.aload_n 0, 1) := by decide +kernel
theorem dX14_type_58 : decode cX14_type 58 = .ok (.getfield 25, 3) := by decide +kernel
theorem dX14_type_61 : decode cX14_type 61 = .ok (.invokevirtual 64, 3) := by decide +kernel
theorem dX14_type_64 : decode cX14_type 64 = .ok (.ireturn, 1) := by decide +kernel
set_option maxRecDepth 100000 in
set_option maxHeartbeats 4000000 in
theorem m_type (l : Launch) (D : va_G) (cy : Nat → ClassId) {eda ca : Nat} {ia : Nat → Nat} {σ : SG} {K : KM} {g : GH} {n S hw : Nat} (h : Inv eda ia K g n S hw σ) (x : Int32) (sz : Nat) : sgM l D cy eda ca ia σ sz yX14_type (Cond.code yX14_type cX14_type 2 (some .int) :: mWall) 7 171 2 16 [.ref (kA K), .int x] (fun v σ2 => (∃ y : Int32, v = some (.int y)) ∧ Inv eda ia K g n S hw σ2) := by
  refine sg_ofW (cc := cX14_type) (maxL := 2) (ret := (some .int)) (by decide) rfl (Nat.le_of_ble_eq_true rfl) (lv := [(0, .ref (kA K)), (1, .int x)]) rfl (fun p e s m below meth c ls H N hrt hnm F hB hl => ?_) sz
  have hx := F.1.1
  have hb := F.1.2.1
  have hown := F.1.2.2.2.1
  have hz := inv_szT h
  refine lv_aload_n hx hb dX14_type_0 rfl (lv_at hl 0 rfl) ?_
  refine lv_iload_n hx hb dX14_type_1 rfl (lv_at hl 1 rfl) ?_
  refine lv_iconst (v := 0) hx hb dX14_type_2 (by decide) ?_
  refine lv_sipush (v := 255) hx hb dX14_type_3 (by decide) ?_
  refine sg_callS F hB (m_in l D cy x 0 255 _) (cwS 3 F.1.2.2.2.2 (mgS (mm_3 _ (List.mem_of_getElem? (i := 21) rfl)) (mm_3 _ (List.mem_of_getElem? (i := 22) rfl)) (mm_3 _ (List.mem_of_getElem? (i := 23) rfl)) (mm_1 _ (List.mem_of_getElem? (i := 19) rfl))) rfl rfl rfl ⟨rfl, by decide, by decide, by decide +kernel⟩ ⟨Nat.le_of_ble_eq_true rfl, Nat.le_of_ble_eq_true rfl⟩) rfl hl.1 rfl (Nat.le_of_ble_eq_true rfl) dX14_type_6 (Nat.le_of_ble_eq_true rfl) (Nat.add_le_add_right (Nat.le_of_ble_eq_true rfl) _)  (fun H locs v σ6 N hBn hX6 hP => ?_)
  clear hB; have hB := hBn; clear hBn
  obtain ⟨b6, rfl, rfl, hb6⟩ := hP
  refine lv_if_ne (tgt := 16) hx hb dX14_type_9 (by decide) (fun c9 => ?_) (fun c9 => ?_)
  · refine lv_aload_n hx hb dX14_type_16 rfl (lv_at hl 0 rfl) ?_
    refine gr_X14_25 F hB dX14_type_17 (inv_A h) (inv_r4 h) ?_
    refine sg_callV (ci := 4) F hB (m_size l D cy (by exact (inv_tT h).1) _) (cwV 0 F.1.2.2.2.2 (mgV (mm_3 _ (List.mem_of_getElem? (i := 18) rfl)) (mm_3 _ (List.mem_of_getElem? (i := 19) rfl)) (mm_3 _ (List.mem_of_getElem? (i := 20) rfl)) (mm_0 _ (List.mem_of_getElem? (i := 35) rfl)) (mm_3 _ (List.mem_of_getElem? (i := 16) rfl))) rfl rfl rfl ⟨rfl, by decide, by decide, by decide +kernel⟩ ⟨Nat.le_of_ble_eq_true rfl, Nat.le_of_ble_eq_true rfl⟩) rfl rfl (by decide) rfl hl.1 rfl (Nat.le_of_ble_eq_true rfl) dX14_type_20 (Nat.le_of_ble_eq_true rfl) (Nat.add_le_add_right (Nat.le_of_ble_eq_true rfl) _) (inv_tT h).1 (fun H locs v σ20 N hBn hX20 hP => ?_)
    clear hB; have hB := hBn; clear hBn
    obtain ⟨rfl, rfl⟩ := hP
    refine lv_bipush (v := 16) hx hb dX14_type_23 (by decide) ?_
    refine lv_icmp_ne (tgt := 32) hx hb dX14_type_25 (by decide) (fun c25 => ?_) (fun c25 => ?_)
    · refine lv_iconst (v := 0) hx hb dX14_type_32 (by decide) ?_
      refine pf_X14_61 F hB dX14_type_33 (inv_A h) (fun H locs hBn => ?_)
      clear hB; have hB := hBn; clear hBn
      have hI33 := inv_PIc (t := 20) hB h (inv_A h) (by unfold iCn; omega)
      refine lv_aload_n hx hb dX14_type_36 rfl (lv_at hl 0 rfl) ?_
      refine gf_X14_61 F hB dX14_type_37 (inv_A hI33) ?_
      rw [sgI_PI, if_pos ⟨rfl, rfl⟩]
      refine lv_if_le (tgt := 45) hx hb dX14_type_40 (by decide) (fun c40 => ?_) (fun c40 => (by first | exact absurd c40 (by decide) | exact (c40 (by decide)).elim))
      refine lv_aload_n hx hb dX14_type_45 rfl (lv_at hl 0 rfl) ?_
      refine gr_X14_25 F hB dX14_type_46 (inv_A hI33) (inv_r4 hI33) ?_
      refine lv_iload_n hx hb dX14_type_49 rfl (lv_at hl 1 rfl) ?_
      refine sg_callS F hB (m_box l D cy x _) (va_cwS 1 F.1.2.2.2.2 (mgS2 (mm_7 _ (List.mem_of_getElem? (i := 33) rfl)) (mm_7 _ (List.mem_of_getElem? (i := 34) rfl)) (mm_7 _ (List.mem_of_getElem? (i := 30) rfl)) (mm_7 _ (List.mem_of_getElem? (i := 25) rfl))) rfl rfl rfl ⟨by decide, by decide, by decide +kernel⟩ ⟨Nat.le_of_ble_eq_true rfl, Nat.le_of_ble_eq_true rfl⟩) rfl hl.1 rfl (Nat.le_of_ble_eq_true rfl) dX14_type_50 (Nat.le_of_ble_eq_true rfl) (Nat.add_le_add_right (Nat.le_of_ble_eq_true rfl) _)  (fun H locs v σ50 N hBn hX50 hP => ?_)
      clear hB; have hB := hBn; clear hBn
      obtain ⟨yb, rfl, hbx, hqt⟩ := hP
      have hI50 := inv_Qt hI33 hqt (sg_eda F hB)
      have esz : sgSz _ (kT K) = sgSz σ (kT K) := (sgSz_Qt hqt (inv_tT hI33).1).trans (sgSz_nk (by decide))
      obtain ⟨ra53, za53, zb53⟩ := (inv_LS hI50).1 _ (inv_tT hI50).1 id
      refine sg_callV (ci := 4) F hB (m_add l D cy za53 (fun j y h1 h2 => (inv_LS hI50).2.2.1 ra53 j y h1 h2) yb (iEl_K (l0 := _) (g := g) (j := 0) (by unfold iEl; rw [(inv_tT hI50).2]; exact hbx)) zb53 _) (cwV 1 F.1.2.2.2.2 (mgV (mm_3 _ (List.mem_of_getElem? (i := 9) rfl)) (mm_3 _ (List.mem_of_getElem? (i := 10) rfl)) (mm_3 _ (List.mem_of_getElem? (i := 11) rfl)) (mm_0 _ (List.mem_of_getElem? (i := 35) rfl)) (mm_2 _ (List.mem_of_getElem? (i := 29) rfl))) rfl rfl rfl ⟨rfl, by decide, by decide, by decide +kernel⟩ ⟨Nat.le_of_ble_eq_true rfl, Nat.le_of_ble_eq_true rfl⟩) rfl rfl (by decide) rfl hl.1 rfl (Nat.le_of_ble_eq_true rfl) dX14_type_53 (Nat.le_of_ble_eq_true rfl) (Nat.add_le_add_right (Nat.le_of_ble_eq_true rfl) _) (inv_tT hI50).1 (fun H locs v σ53 N hBn hX53 hP => ?_)
      clear hB; have hB := hBn; clear hBn
      obtain ⟨rfl, hAd53⟩ := hP
      obtain ⟨hI53, ada53, adb53, adc53, add53, ade53, adf53, adg53, adh53⟩ := inv_ad hI50 (inv_tT hI50).1 za53 hAd53 (sg_eda F hB) (by unfold iEl; rw [(inv_tT hI50).2]; exact hbx) (by rw [(inv_tT hI50).2]; show _ ≤ 16; rw [esz]; have q := m_neI c25; have q2 : (16 : Int32).toInt = 16 := rfl; rw [q2, hz.1] at q; omega) (Or.inl ⟨inv_nD hI50 (by rw [(inv_tT hI50).2]; decide), rfl⟩) (nr7 (inv_tT hI50).2 (by decide))
      refine lv_pop hx hb dX14_type_56 rfl ?_
      refine lv_aload_n hx hb dX14_type_57 rfl (lv_at hl 0 rfl) ?_
      refine gr_X14_25 F hB dX14_type_58 (inv_A hI53) (inv_r4 hI53) ?_
      refine sg_callV (ci := 4) F hB (m_size l D cy (by exact (inv_tT hI53).1) _) (cwV 0 F.1.2.2.2.2 (mgV (mm_3 _ (List.mem_of_getElem? (i := 18) rfl)) (mm_3 _ (List.mem_of_getElem? (i := 19) rfl)) (mm_3 _ (List.mem_of_getElem? (i := 20) rfl)) (mm_0 _ (List.mem_of_getElem? (i := 35) rfl)) (mm_3 _ (List.mem_of_getElem? (i := 16) rfl))) rfl rfl rfl ⟨rfl, by decide, by decide, by decide +kernel⟩ ⟨Nat.le_of_ble_eq_true rfl, Nat.le_of_ble_eq_true rfl⟩) rfl rfl (by decide) rfl hl.1 rfl (Nat.le_of_ble_eq_true rfl) dX14_type_61 (Nat.le_of_ble_eq_true rfl) (Nat.add_le_add_right (Nat.le_of_ble_eq_true rfl) _) (inv_tT hI53).1 (fun H locs v σ61 N hBn hX61 hP => ?_)
      clear hB; have hB := hBn; clear hBn
      obtain ⟨rfl, rfl⟩ := hP
      exact sg_iret F hB hrt dX14_type_64 (by decide) (by decide) (⟨⟨_, rfl⟩, hI53⟩)
    · refine lv_iconst (v := 2) hx hb dX14_type_28 (by decide) ?_
      refine lv_goto (tgt := 33) hx hb dX14_type_29 (by decide) ?_
      refine pf_X14_61 F hB dX14_type_33 (inv_A h) (fun H locs hBn => ?_)
      clear hB; have hB := hBn; clear hBn
      have hI33 := inv_PIc (t := 20) hB h (inv_A h) (by unfold iCn; omega)
      refine lv_aload_n hx hb dX14_type_36 rfl (lv_at hl 0 rfl) ?_
      refine gf_X14_61 F hB dX14_type_37 (inv_A hI33) ?_
      rw [sgI_PI, if_pos ⟨rfl, rfl⟩]
      refine lv_if_le (tgt := 45) hx hb dX14_type_40 (by decide) (fun c40 => (by first | exact absurd c40 (by decide) | exact (c40 (by decide)).elim)) (fun c40 => ?_)
      refine lv_iconst (v := 0) hx hb dX14_type_43 (by decide) ?_
      exact sg_iret F hB hrt dX14_type_44 (by decide) (by decide) (⟨⟨_, rfl⟩, hI33⟩)
  · refine lv_iconst (v := 1) hx hb dX14_type_12 (by decide) ?_
    refine lv_goto (tgt := 33) hx hb dX14_type_13 (by decide) ?_
    refine pf_X14_61 F hB dX14_type_33 (inv_A h) (fun H locs hBn => ?_)
    clear hB; have hB := hBn; clear hBn
    have hI33 := inv_PIc (t := 20) hB h (inv_A h) (by unfold iCn; omega)
    refine lv_aload_n hx hb dX14_type_36 rfl (lv_at hl 0 rfl) ?_
    refine gf_X14_61 F hB dX14_type_37 (inv_A hI33) ?_
    rw [sgI_PI, if_pos ⟨rfl, rfl⟩]
    refine lv_if_le (tgt := 45) hx hb dX14_type_40 (by decide) (fun c40 => (by first | exact absurd c40 (by decide) | exact (c40 (by decide)).elim)) (fun c40 => ?_)
    refine lv_iconst (v := 0) hx hb dX14_type_43 (by decide) ?_
    exact sg_iret F hB hrt dX14_type_44 (by decide) (by decide) (⟨⟨_, rfl⟩, hI33⟩)
theorem dX14_wipe_0 : decode cX14_wipe 0 = .ok (.aload_n 0, 1) := by decide +kernel
theorem dX14_wipe_1 : decode cX14_wipe 1 = .ok (.iconst 0, 1) := by decide +kernel
theorem dX14_wipe_2 : decode cX14_wipe 2 = .ok (.putfield 61, 3) := by decide +kernel
theorem dX14_wipe_5 : decode cX14_wipe 5 = .ok (.aload_n 0, 1) := by decide +kernel
theorem dX14_wipe_6 : decode cX14_wipe 6 = .ok (.getfield 25, 3) := by decide +kernel
theorem dX14_wipe_9 : decode cX14_wipe 9 = .ok (.invokevirtual 64, 3) := by decide +kernel
theorem dX14_wipe_12 : decode cX14_wipe 12 = .ok (.istore_n 1, 1) := by decide +kernel
theorem dX14_wipe_13 : decode cX14_wipe 13 = .ok (.aload_n 0, 1) := by decide +kernel
theorem dX14_wipe_14 : decode cX14_wipe 14 = .ok (.getfield 25, 3) := by decide +kernel
theorem dX14_wipe_17 : decode cX14_wipe 17 = .ok (.invokevirtual 218, 3) := by decide +kernel
theorem dX14_wipe_20 : decode cX14_wipe 20 = .ok (.iload_n 1, 1) := by decide +kernel
theorem dX14_wipe_21 : decode cX14_wipe 21 = .ok (.ireturn, 1) := by decide +kernel
set_option maxRecDepth 100000 in
set_option maxHeartbeats 4000000 in
theorem m_wipe (l : Launch) (D : va_G) (cy : Nat → ClassId) {eda ca : Nat} {ia : Nat → Nat} {σ : SG} {K : KM} {g : GH} {n S hw : Nat} (h : Inv eda ia K g n S hw σ) (sz : Nat) : sgM l D cy eda ca ia σ sz yX14_wipe (Cond.code yX14_wipe cX14_wipe 2 (some .int) :: mWall) 1 23 0 0 [.ref (kA K)] (fun v σ2 => (∃ y : Int32, v = some (.int y)) ∧ Inv eda ia K g n S hw σ2) := by
  refine sg_ofW (cc := cX14_wipe) (maxL := 2) (ret := (some .int)) (by decide) rfl (Nat.le_of_ble_eq_true rfl) (lv := [(0, .ref (kA K))]) rfl (fun p e s m below meth c ls H N hrt hnm F hB hl => ?_) sz
  have hx := F.1.1
  have hb := F.1.2.1
  have hown := F.1.2.2.2.1
  refine lv_aload_n hx hb dX14_wipe_0 rfl (lv_at hl 0 rfl) ?_
  refine lv_iconst (v := 0) hx hb dX14_wipe_1 (by decide) ?_
  refine pf_X14_61 F hB dX14_wipe_2 (inv_A h) (fun H locs hBn => ?_)
  clear hB; have hB := hBn; clear hBn
  have hI2 := inv_PIc (t := 20) hB h (inv_A h) (by unfold iCn; omega)
  refine lv_aload_n hx hb dX14_wipe_5 rfl (lv_at hl 0 rfl) ?_
  refine gr_X14_25 F hB dX14_wipe_6 (inv_A hI2) (inv_r4 hI2) ?_
  refine sg_callV (ci := 4) F hB (m_size l D cy (by exact (inv_tT hI2).1) _) (cwV 0 F.1.2.2.2.2 (mgV (mm_3 _ (List.mem_of_getElem? (i := 18) rfl)) (mm_3 _ (List.mem_of_getElem? (i := 19) rfl)) (mm_3 _ (List.mem_of_getElem? (i := 20) rfl)) (mm_0 _ (List.mem_of_getElem? (i := 35) rfl)) (mm_3 _ (List.mem_of_getElem? (i := 16) rfl))) rfl rfl rfl ⟨rfl, by decide, by decide, by decide +kernel⟩ ⟨Nat.le_of_ble_eq_true rfl, Nat.le_of_ble_eq_true rfl⟩) rfl rfl (by decide) rfl hl.1 rfl (Nat.le_of_ble_eq_true rfl) dX14_wipe_9 (Nat.le_of_ble_eq_true rfl) (Nat.add_le_add_right (Nat.le_of_ble_eq_true rfl) _) (inv_tT hI2).1 (fun H locs v σ9 N hBn hX9 hP => ?_)
  clear hB; have hB := hBn; clear hBn
  obtain ⟨rfl, rfl⟩ := hP
  refine lv_istore_n (lv' := [(1, .int _), (0, .ref _)]) hx hb dX14_wipe_12 rfl hl (by decide) rfl (fun ls hl => ?_)
  refine lv_aload_n hx hb dX14_wipe_13 rfl (lv_at hl 1 rfl) ?_
  refine gr_X14_25 F hB dX14_wipe_14 (inv_A hI2) (inv_r4 hI2) ?_
  obtain ⟨ra, za, zb⟩ := (inv_LS hI2).1 _ (inv_tT hI2).1 id
  refine sg_callV (ci := 4) F hB (m_clr l D cy za _) (cwV 0 F.1.2.2.2.2 (mgV (mm_7 _ (List.mem_of_getElem? (i := 38) rfl)) (mm_7 _ (List.mem_of_getElem? (i := 39) rfl)) (mm_8 _ (List.mem_of_getElem? (i := 0) rfl)) (mm_0 _ (List.mem_of_getElem? (i := 35) rfl)) (mm_7 _ (List.mem_of_getElem? (i := 36) rfl))) rfl rfl rfl ⟨rfl, by decide, by decide, by decide +kernel⟩ ⟨Nat.le_of_ble_eq_true rfl, Nat.le_of_ble_eq_true rfl⟩) rfl rfl (by decide) rfl hl.1 rfl (Nat.le_of_ble_eq_true rfl) dX14_wipe_17 (Nat.le_of_ble_eq_true rfl) (Nat.add_le_add_right (Nat.le_of_ble_eq_true rfl) _) (inv_tT hI2).1 (fun H locs v σ17 N hBn hX17 hP => ?_)
  clear hB; have hB := hBn; clear hBn
  obtain ⟨rfl, ho, ho2, ho3, ho4⟩ := hP
  obtain ⟨hI17, -⟩ := inv_clr hI2 (inv_tT hI2).1 za ho ho2 ho3 ho4 (inv_tT hI2).2 (inv_nD hI2 (by rw [(inv_tT hI2).2]; decide))
  refine lv_iload_n hx hb dX14_wipe_20 rfl (lv_at hl 0 rfl) ?_
  exact sg_iret F hB hrt dX14_wipe_21 (by decide) (by decide) (⟨⟨_, rfl⟩, hI17⟩)
theorem dX14_lastOf_0 : decode cX14_lastOf 0 = .ok (.aload_n 0, 1) := by decide +kernel
theorem dX14_lastOf_1 : decode cX14_lastOf 1 = .ok (.iload_n 2, 1) := by decide +kernel
theorem dX14_lastOf_2 : decode cX14_lastOf 2 = .ok (.iconst 0, 1) := by decide +kernel
theorem dX14_lastOf_3 : decode cX14_lastOf 3 = .ok (.bipush 32, 2) := by decide +kernel
theorem dX14_lastOf_5 : decode cX14_lastOf 5 = .ok (.aload_n 1, 1) := by decide +kernel
theorem dX14_lastOf_6 : decode cX14_lastOf 6 = .ok (.invokevirtual 64, 3) := by decide +kernel
theorem dX14_lastOf_9 : decode cX14_lastOf 9 = .ok (.invokestatic 341, 3) := by decide +kernel
theorem dX14_lastOf_12 : decode cX14_lastOf 12 = .ok (.iconst 1, 1) := by decide +kernel
theorem dX14_lastOf_13 : decode cX14_lastOf 13 = .ok (.isub, 1) := by decide +kernel
theorem dX14_lastOf_14 : decode cX14_lastOf 14 = .ok (.invokestatic 68, 3) := by decide +kernel
theorem dX14_lastOf_17 : decode cX14_lastOf 17 = .ok (.ifCond .eq 7, 3) := by decide +kernel
theorem dX14_lastOf_20 : decode cX14_lastOf 20 = .ok (.iconst 0, 1) := by decide +kernel
theorem dX14_lastOf_21 : decode cX14_lastOf 21 = .ok (.goto 4, 3) := by decide +kernel
theorem dX14_lastOf_24 : decode cX14_lastOf 24 = .ok (.iload_n 3, 1) := by decide +kernel
theorem dX14_lastOf_25 : decode cX14_lastOf 25 = .ok (.putfield 61, 3) := by decide +kernel
theorem dX14_lastOf_28 : decode cX14_lastOf 28 = .ok (.aload_n 0, 1) := by decide +kernel
theorem dX14_lastOf_29 : decode cX14_lastOf 29 = .ok (.getfield 61, 3) := by decide +kernel
theorem dX14_lastOf_32 : decode cX14_lastOf 32 = .ok (.ifCond .le 7, 3) := by decide +kernel
theorem dX14_lastOf_35 : decode cX14_lastOf 35 = .ok (.iconst 0, 1) := by decide +kernel
theorem dX14_lastOf_36 : decode cX14_lastOf 36 = .ok (.goto 21, 3) := by decide +kernel
theorem dX14_lastOf_39 : decode cX14_lastOf 39 = .ok (.aload_n 1, 1) := by decide +kernel
theorem dX14_lastOf_40 : decode cX14_lastOf 40 = .ok (.aload_n 1, 1) := by decide +kernel
theorem dX14_lastOf_41 : decode cX14_lastOf 41 = .ok (.invokevirtual 64, 3) := by decide +kernel
theorem dX14_lastOf_44 : decode cX14_lastOf 44 = .ok (.iconst 1, 1) := by decide +kernel
theorem dX14_lastOf_45 : decode cX14_lastOf 45 = .ok (.isub, 1) := by decide +kernel
theorem dX14_lastOf_46 : decode cX14_lastOf 46 = .ok (.iload_n 2, 1) := by decide +kernel
theorem dX14_lastOf_47 : decode cX14_lastOf 47 = .ok (.isub, 1) := by decide +kernel
theorem dX14_lastOf_48 : decode cX14_lastOf 48 = .ok (.invokevirtual 76, 3) := by decide +kernel
theorem dX14_lastOf_51 : decode cX14_lastOf 51 = .ok (.checkcast 213, 3) := by decide +kernel
theorem dX14_lastOf_54 : decode cX14_lastOf 54 = .ok (.invokevirtual 222, 3) := by decide +kernel
theorem dX14_lastOf_57 : decode cX14_lastOf 57 = .ok (.ireturn, 1) := by decide +kernel
set_option maxRecDepth 100000 in
set_option maxHeartbeats 4000000 in
theorem m_lastOf (l : Launch) (D : va_G) (cy : Nat → ClassId) {eda ca : Nat} {ia : Nat → Nat} {σ : SG} {K : KM} {g : GH} {n S hw : Nat} (h : Inv eda ia K g n S hw σ) {l0 : Nat} (ht : sgT σ l0 = 5) (hr : gRo g l0 = 5 ∨ gRo g l0 = 6) (x nn : Int32) (hn0 : nn = 1 ∨ nn = 3) (sz : Nat) : sgM l D cy eda ca ia σ sz yX14_lastOf (Cond.code yX14_lastOf cX14_lastOf 4 (some .int) :: mWall) 3 64 0 0 [.ref (kA K), .ref l0, .int x, .int nn] (fun v σ2 => (∃ y : Int32, v = some (.int y)) ∧ Inv eda ia K g n S hw σ2) := by
  refine sg_ofW (cc := cX14_lastOf) (maxL := 4) (ret := (some .int)) (by decide) rfl (Nat.le_of_ble_eq_true rfl) (lv := [(0, .ref (kA K)), (1, .ref l0), (2, .int x), (3, .int nn)]) rfl (fun p e s m below meth c ls H N hrt hnm F hB hl => ?_) sz
  have hx := F.1.1
  have hb := F.1.2.1
  have hown := F.1.2.2.2.1
  obtain ⟨ls1, ls2, ls3⟩ := inv_lsz h ht
  have m32 : (32 : Int32).toInt = 32 := rfl
  refine lv_aload_n hx hb dX14_lastOf_0 rfl (lv_at hl 0 rfl) ?_
  refine lv_iload_n hx hb dX14_lastOf_1 rfl (lv_at hl 2 rfl) ?_
  refine lv_iconst (v := 0) hx hb dX14_lastOf_2 (by decide) ?_
  refine lv_bipush (v := 32) hx hb dX14_lastOf_3 (by decide) ?_
  refine lv_aload_n hx hb dX14_lastOf_5 rfl (lv_at hl 1 rfl) ?_
  refine sg_callV (ci := 4) F hB (m_size l D cy (by exact ht) _) (cwV 0 F.1.2.2.2.2 (mgV (mm_3 _ (List.mem_of_getElem? (i := 18) rfl)) (mm_3 _ (List.mem_of_getElem? (i := 19) rfl)) (mm_3 _ (List.mem_of_getElem? (i := 20) rfl)) (mm_0 _ (List.mem_of_getElem? (i := 35) rfl)) (mm_3 _ (List.mem_of_getElem? (i := 16) rfl))) rfl rfl rfl ⟨rfl, by decide, by decide, by decide +kernel⟩ ⟨Nat.le_of_ble_eq_true rfl, Nat.le_of_ble_eq_true rfl⟩) rfl rfl (by decide) rfl hl.1 rfl (Nat.le_of_ble_eq_true rfl) dX14_lastOf_6 (Nat.le_of_ble_eq_true rfl) (Nat.add_le_add_right (Nat.le_of_ble_eq_true rfl) _) ht (fun H locs v σ6 N hBn hX6 hP => ?_)
  clear hB; have hB := hBn; clear hBn
  obtain ⟨rfl, rfl⟩ := hP
  refine va_mmin hx hb (F.1.2.2.1.trans hl.1.symm) hown (F.1.2.2.2.2 _ (List.mem_cons_of_mem _ (mm_11 _ (List.mem_of_getElem? (i := 37) rfl)))) (F.1.2.2.2.2 _ (List.mem_cons_of_mem _ (mm_1 _ (List.mem_of_getElem? (i := 34) rfl)))) (F.1.2.2.2.2 _ (List.mem_cons_of_mem _ (mm_1 _ (List.mem_of_getElem? (i := 25) rfl)))) (F.1.2.2.2.2 _ (List.mem_cons_of_mem _ (mm_1 _ (List.mem_of_getElem? (i := 35) rfl)))) (Nat.le_of_ble_eq_true rfl) (Nat.le_of_ble_eq_true rfl) (Nat.le_of_ble_eq_true rfl) (Nat.le_trans (Nat.le_trans (Nat.le_add_right _ _) hB.2.2) (Nat.add_le_add_right (Nat.le_of_ble_eq_true rfl) _)) dX14_lastOf_9 ?_
  refine lv_iconst (v := 1) hx hb dX14_lastOf_12 (by decide) ?_
  refine lv_isub hx hb dX14_lastOf_13 ?_
  refine sg_callS F hB (m_in l D cy x 0 _ _) (cwS 3 F.1.2.2.2.2 (mgS (mm_3 _ (List.mem_of_getElem? (i := 21) rfl)) (mm_3 _ (List.mem_of_getElem? (i := 22) rfl)) (mm_3 _ (List.mem_of_getElem? (i := 23) rfl)) (mm_1 _ (List.mem_of_getElem? (i := 19) rfl))) rfl rfl rfl ⟨rfl, by decide, by decide, by decide +kernel⟩ ⟨Nat.le_of_ble_eq_true rfl, Nat.le_of_ble_eq_true rfl⟩) rfl hl.1 rfl (Nat.le_of_ble_eq_true rfl) dX14_lastOf_14 (Nat.le_of_ble_eq_true rfl) (Nat.add_le_add_right (Nat.le_of_ble_eq_true rfl) _)  (fun H locs v σ14 N hBn hX14 hP => ?_)
  clear hB; have hB := hBn; clear hBn
  obtain ⟨b14, rfl, rfl, hb14⟩ := hP
  refine lv_if_eq (tgt := 24) hx hb dX14_lastOf_17 (by decide) (fun c17 => ?_) (fun c17 => ?_)
  · refine lv_iload_n hx hb dX14_lastOf_24 rfl (lv_at hl 3 rfl) ?_
    refine pf_X14_61 F hB dX14_lastOf_25 (inv_A h) (fun H locs hBn => ?_)
    clear hB; have hB := hBn; clear hBn
    have hI25 := inv_PIc (t := 20) hB h (inv_A h) (by unfold iCn; omega)
    refine lv_aload_n hx hb dX14_lastOf_28 rfl (lv_at hl 0 rfl) ?_
    refine gf_X14_61 F hB dX14_lastOf_29 (inv_A hI25) ?_
    rw [sgI_PI, if_pos ⟨rfl, rfl⟩]
    refine lv_if_le (tgt := 39) hx hb dX14_lastOf_32 (by decide) (fun c32 => (absurd c32 (by rcases hn0 with rfl | rfl <;> decide) : False).elim) (fun c32 => ?_)
    refine lv_iconst (v := 0) hx hb dX14_lastOf_35 (by decide) ?_
    refine lv_goto (tgt := 57) hx hb dX14_lastOf_36 (by decide) ?_
    exact sg_iret F hB hrt dX14_lastOf_57 (by decide) (by decide) (⟨⟨_, rfl⟩, hI25⟩)
  · refine lv_iconst (v := 0) hx hb dX14_lastOf_20 (by decide) ?_
    refine lv_goto (tgt := 25) hx hb dX14_lastOf_21 (by decide) ?_
    refine pf_X14_61 F hB dX14_lastOf_25 (inv_A h) (fun H locs hBn => ?_)
    clear hB; have hB := hBn; clear hBn
    have hI25 := inv_PIc (t := 20) hB h (inv_A h) (by unfold iCn; omega)
    refine lv_aload_n hx hb dX14_lastOf_28 rfl (lv_at hl 0 rfl) ?_
    refine gf_X14_61 F hB dX14_lastOf_29 (inv_A hI25) ?_
    rw [sgI_PI, if_pos ⟨rfl, rfl⟩]
    refine lv_if_le (tgt := 39) hx hb dX14_lastOf_32 (by decide) (fun c32 => ?_) (fun c32 => (by first | exact absurd c32 (by decide) | exact (c32 (by decide)).elim))
    have hx5 := sgb_t hb14 c17
    rw [m_sub1 (by rw [m_minI, m32]; omega) (by rw [m_minI, m32]; omega), m_minI, m32, m_i0] at hx5
    have esz : sgSz (sgPI σ (kA K) 0 0) l0 = sgSz σ l0 := sgSz_nk (by decide)
    have ei : sgI (sgPI σ (kA K) 0 0) l0 2 = sgI σ l0 2 := sgI_nk (by decide)
    have hx4 : (sgI σ l0 2 - 1 - x).toInt = (sgSz σ l0 : Int) - 1 - x.toInt := by
      have q1 := m_sub1 (x := sgI σ l0 2) (by omega) (by omega)
      rw [i_sub (by rw [q1]; omega) (by rw [q1]; omega), q1, ls1]
    have hx6 : 0 ≤ (sgI (sgPI σ (kA K) 0 0) l0 2 - 1 - x).toInt := by rw [ei, hx4]; omega
    have hx7 : (sgI (sgPI σ (kA K) 0 0) l0 2 - 1 - x).toInt < sgSz (sgPI σ (kA K) 0 0) l0 := by rw [ei, hx4, esz]; omega
    obtain ⟨yb, hy8, hyE⟩ := inv_L hI25 l0 ht _ ((Int.toNat_lt hx6).mpr hx7)
    have hbx : sgBx ia (sgPI σ (kA K) 0 0) yb := by
      unfold iEl at hyE
      rcases hr with q | q <;> (rw [q] at hyE; exact hyE)
    refine lv_aload_n hx hb dX14_lastOf_39 rfl (lv_at hl 1 rfl) ?_
    refine lv_aload_n hx hb dX14_lastOf_40 rfl (lv_at hl 1 rfl) ?_
    refine sg_callV (ci := 4) F hB (m_size l D cy (by exact ht) _) (cwV 0 F.1.2.2.2.2 (mgV (mm_3 _ (List.mem_of_getElem? (i := 18) rfl)) (mm_3 _ (List.mem_of_getElem? (i := 19) rfl)) (mm_3 _ (List.mem_of_getElem? (i := 20) rfl)) (mm_0 _ (List.mem_of_getElem? (i := 35) rfl)) (mm_3 _ (List.mem_of_getElem? (i := 16) rfl))) rfl rfl rfl ⟨rfl, by decide, by decide, by decide +kernel⟩ ⟨Nat.le_of_ble_eq_true rfl, Nat.le_of_ble_eq_true rfl⟩) rfl rfl (by decide) rfl hl.1 rfl (Nat.le_of_ble_eq_true rfl) dX14_lastOf_41 (Nat.le_of_ble_eq_true rfl) (Nat.add_le_add_right (Nat.le_of_ble_eq_true rfl) _) ht (fun H locs v σ41 N hBn hX41 hP => ?_)
    clear hB; have hB := hBn; clear hBn
    obtain ⟨rfl, rfl⟩ := hP
    refine lv_iconst (v := 1) hx hb dX14_lastOf_44 (by decide) ?_
    refine lv_isub hx hb dX14_lastOf_45 ?_
    refine lv_iload_n hx hb dX14_lastOf_46 rfl (lv_at hl 2 rfl) ?_
    refine lv_isub hx hb dX14_lastOf_47 ?_
    refine sg_callV (ci := 4) F hB (m_getL l D cy (inv_LS hI25) (by exact ht) id _ hx6 hx7 hy8 _) (cwV 1 F.1.2.2.2.2 (mgV (mm_4 _ (List.mem_of_getElem? (i := 3) rfl)) (mm_4 _ (List.mem_of_getElem? (i := 4) rfl)) (mm_4 _ (List.mem_of_getElem? (i := 5) rfl)) (mm_0 _ (List.mem_of_getElem? (i := 35) rfl)) (mm_3 _ (List.mem_of_getElem? (i := 34) rfl))) rfl rfl rfl ⟨rfl, by decide, by decide, by decide +kernel⟩ ⟨Nat.le_of_ble_eq_true rfl, Nat.le_of_ble_eq_true rfl⟩) rfl rfl (by decide) rfl hl.1 rfl (Nat.le_of_ble_eq_true rfl) dX14_lastOf_48 (Nat.le_of_ble_eq_true rfl) (Nat.add_le_add_right (Nat.le_of_ble_eq_true rfl) _) ht (fun H locs v σ48 N hBn hX48 hP => ?_)
    clear hB; have hB := hBn; clear hBn
    obtain ⟨rfl, rfl⟩ := hP
    refine va_castY hx hb hown (F.1.2.2.2.2 _ (List.mem_cons_of_mem _ (mm_8 _ (List.mem_of_getElem? (i := 3) rfl)))) (F.2.2.1.2.2 ("java/lang/Integer", "java/lang/Integer") (by decide +kernel)) (sg_rbx F hB hbx) dX14_lastOf_51 ?_
    refine sg_callVr F hB (m_unbox l D cy (by exact hbx) _) (cwV 0 F.1.2.2.2.2 (mgV (mm_8 _ (List.mem_of_getElem? (i := 5) rfl)) (mm_8 _ (List.mem_of_getElem? (i := 6) rfl)) (mm_8 _ (List.mem_of_getElem? (i := 7) rfl)) (mm_7 _ (List.mem_of_getElem? (i := 30) rfl)) (mm_8 _ (List.mem_of_getElem? (i := 1) rfl))) rfl rfl rfl ⟨rfl, by decide, by decide, by decide +kernel⟩ ⟨Nat.le_of_ble_eq_true rfl, Nat.le_of_ble_eq_true rfl⟩) rfl hl.1 rfl (Nat.le_of_ble_eq_true rfl) dX14_lastOf_54 (Nat.le_of_ble_eq_true rfl) (Nat.add_le_add_right (Nat.le_of_ble_eq_true rfl) _) (sg_rbx F hB hbx) (fun H locs v σ54 N hBn hX54 hP => ?_)
    clear hB; have hB := hBn; clear hBn
    obtain ⟨⟨w, rfl⟩, rfl⟩ := hP
    exact sg_iret F hB hrt dX14_lastOf_57 (by decide) (by decide) (⟨⟨_, rfl⟩, hI25⟩)
theorem dX14_gotAt_0 : decode cX14_gotAt 0 = .ok (.aload_n 0, 1) := by decide +kernel
theorem dX14_gotAt_1 : decode cX14_gotAt 1 = .ok (.aload_n 0, 1) := by decide +kernel
theorem dX14_gotAt_2 : decode cX14_gotAt 2 = .ok (.getfield 35, 3) := by decide +kernel
theorem dX14_gotAt_5 : decode cX14_gotAt 5 = .ok (.iload_n 1, 1) := by decide +kernel
theorem dX14_gotAt_6 : decode cX14_gotAt 6 = .ok (.iconst 1, 1) := by decide +kernel
theorem dX14_gotAt_7 : decode cX14_gotAt 7 = .ok (.invokevirtual 407, 3) := by decide +kernel
theorem dX14_gotAt_10 : decode cX14_gotAt 10 = .ok (.ireturn, 1) := by decide +kernel
set_option maxRecDepth 100000 in
set_option maxHeartbeats 4000000 in
theorem m_gotAt (l : Launch) (D : va_G) (cy : Nat → ClassId) {eda ca : Nat} {ia : Nat → Nat} {σ : SG} {K : KM} {g : GH} {n S hw : Nat} (h : Inv eda ia K g n S hw σ) (x : Int32) (sz : Nat) : sgM l D cy eda ca ia σ sz yX14_gotAt (Cond.code yX14_gotAt cX14_gotAt 2 (some .int) :: mWall) 4 87 0 0 [.ref (kA K), .int x] (fun v σ2 => (∃ y : Int32, v = some (.int y)) ∧ Inv eda ia K g n S hw σ2) := by
  refine sg_ofW (cc := cX14_gotAt) (maxL := 2) (ret := (some .int)) (by decide) rfl (Nat.le_of_ble_eq_true rfl) (lv := [(0, .ref (kA K)), (1, .int x)]) rfl (fun p e s m below meth c ls H N hrt hnm F hB hl => ?_) sz
  have hx := F.1.1
  have hb := F.1.2.1
  have hown := F.1.2.2.2.1
  refine lv_aload_n hx hb dX14_gotAt_0 rfl (lv_at hl 0 rfl) ?_
  refine lv_aload_n hx hb dX14_gotAt_1 rfl (lv_at hl 0 rfl) ?_
  refine gr_X14_35 F hB dX14_gotAt_2 (inv_A h) (inv_r8 h) ?_
  refine lv_iload_n hx hb dX14_gotAt_5 rfl (lv_at hl 1 rfl) ?_
  refine lv_iconst (v := 1) hx hb dX14_gotAt_6 (by decide) ?_
  refine sg_callV (ci := 19) F hB (m_lastOf l D cy h (inv_tG h).1 (Or.inl (inv_tG h).2) x 1 (Or.inl rfl) _) (cwV 3 F.1.2.2.2.2 (mgV (mm_13 _ (List.mem_of_getElem? (i := 23) rfl)) (mm_13 _ (List.mem_of_getElem? (i := 24) rfl)) (mm_13 _ (List.mem_of_getElem? (i := 25) rfl)) (mm_3 _ (List.mem_of_getElem? (i := 23) rfl)) (mm_13 _ (List.mem_of_getElem? (i := 22) rfl))) rfl rfl rfl ⟨rfl, by decide, by decide, by decide +kernel⟩ ⟨Nat.le_of_ble_eq_true rfl, Nat.le_of_ble_eq_true rfl⟩) rfl rfl (by decide) rfl hl.1 rfl (Nat.le_of_ble_eq_true rfl) dX14_gotAt_7 (Nat.le_of_ble_eq_true rfl) (Nat.add_le_add_right (Nat.le_of_ble_eq_true rfl) _) (inv_A h) (fun H locs v σ7 N hBn hX7 hP => ?_)
  clear hB; have hB := hBn; clear hBn
  obtain ⟨⟨w, rfl⟩, hI7⟩ := hP
  exact sg_iret F hB hrt dX14_gotAt_10 (by decide) (by decide) (⟨⟨_, rfl⟩, hI7⟩)
theorem dX14_taken__0 : decode cX14_taken_ 0 = .ok (.aload_n 0, 1) := by decide +kernel
theorem dX14_taken__1 : decode cX14_taken_ 1 = .ok (.iload_n 1, 1) := by decide +kernel
theorem dX14_taken__2 : decode cX14_taken_ 2 = .ok (.iload_n 2, 1) := by decide +kernel
theorem dX14_taken__3 : decode cX14_taken_ 3 = .ok (.iconst 0, 1) := by decide +kernel
theorem dX14_taken__4 : decode cX14_taken_ 4 = .ok (.invokevirtual 403, 3) := by decide +kernel
theorem dX14_taken__7 : decode cX14_taken_ 7 = .ok (.ifCond .eq 7, 3) := by decide +kernel
theorem dX14_taken__10 : decode cX14_taken_ 10 = .ok (.iconst 0, 1) := by decide +kernel
theorem dX14_taken__11 : decode cX14_taken_ 11 = .ok (.goto 25, 3) := by decide +kernel
theorem dX14_taken__14 : decode cX14_taken_ 14 = .ok (.aload_n 0, 1) := by decide +kernel
theorem dX14_taken__15 : decode cX14_taken_ 15 = .ok (.getfield 10, 3) := by decide +kernel
theorem dX14_taken__18 : decode cX14_taken_ 18 = .ok (.iload_n 1, 1) := by decide +kernel
theorem dX14_taken__19 : decode cX14_taken_ 19 = .ok (.invokevirtual 76, 3) := by decide +kernel
theorem dX14_taken__22 : decode cX14_taken_ 22 = .ok (.checkcast 48, 3) := by decide +kernel
theorem dX14_taken__25 : decode cX14_taken_ 25 = .ok (.getfield 96, 3) := by decide +kernel
theorem dX14_taken__28 : decode cX14_taken_ 28 = .ok (.iload_n 2, 1) := by decide +kernel
theorem dX14_taken__29 : decode cX14_taken_ 29 = .ok (.aaload, 1) := by decide +kernel
theorem dX14_taken__30 : decode cX14_taken_ 30 = .ok (.getfield 320, 3) := by decide +kernel
theorem dX14_taken__33 : decode cX14_taken_ 33 = .ok (.invokevirtual 64, 3) := by decide +kernel
theorem dX14_taken__36 : decode cX14_taken_ 36 = .ok (.ireturn, 1) := by decide +kernel
set_option maxRecDepth 100000 in
set_option maxHeartbeats 4000000 in
theorem m_taken_ (l : Launch) (D : va_G) (cy : Nat → ClassId) {eda ca : Nat} {ia : Nat → Nat} {σ : SG} {K : KM} {g : GH} {n S hw : Nat} (h : Inv eda ia K g n S hw σ) (x y : Int32) (sz : Nat) : sgM l D cy eda ca ia σ sz yX14_taken_ (Cond.code yX14_taken_ cX14_taken_ 3 (some .int) :: mWall) 5 109 0 0 [.ref (kA K), .int x, .int y] (fun v σ2 => (∃ y : Int32, v = some (.int y)) ∧ Inv eda ia K g n S hw σ2) := by
  refine sg_ofW (cc := cX14_taken_) (maxL := 3) (ret := (some .int)) (by decide) rfl (Nat.le_of_ble_eq_true rfl) (lv := [(0, .ref (kA K)), (1, .int x), (2, .int y)]) rfl (fun p e s m below meth c ls H N hrt hnm F hB hl => ?_) sz
  have hx := F.1.1
  have hb := F.1.2.1
  have hown := F.1.2.2.2.1
  refine lv_aload_n hx hb dX14_taken__0 rfl (lv_at hl 0 rfl) ?_
  refine lv_iload_n hx hb dX14_taken__1 rfl (lv_at hl 1 rfl) ?_
  refine lv_iload_n hx hb dX14_taken__2 rfl (lv_at hl 2 rfl) ?_
  refine lv_iconst (v := 0) hx hb dX14_taken__3 (by decide) ?_
  refine sg_callV (ci := 19) F hB (m_noEnd l D cy h x y 0 _) (cwV 3 F.1.2.2.2.2 (mgV (mm_13 _ (List.mem_of_getElem? (i := 18) rfl)) (mm_13 _ (List.mem_of_getElem? (i := 19) rfl)) (mm_13 _ (List.mem_of_getElem? (i := 20) rfl)) (mm_3 _ (List.mem_of_getElem? (i := 23) rfl)) (mm_13 _ (List.mem_of_getElem? (i := 17) rfl))) rfl rfl rfl ⟨rfl, by decide, by decide, by decide +kernel⟩ ⟨Nat.le_of_ble_eq_true rfl, Nat.le_of_ble_eq_true rfl⟩) rfl rfl (by decide) rfl hl.1 rfl (Nat.le_of_ble_eq_true rfl) dX14_taken__4 (Nat.le_of_ble_eq_true rfl) (Nat.add_le_add_right (Nat.le_of_ble_eq_true rfl) _) (inv_A h) (fun H locs v σ4 N hBn hX4 hP => ?_)
  clear hB; have hB := hBn; clear hBn
  obtain ⟨y4, b4, rfl, rfl, hb4⟩ := hP
  have hI4 := inv_th h y4
  refine lv_if_eq (tgt := 14) hx hb dX14_taken__7 (by decide) (fun c7 => ?_) (fun c7 => ?_)
  · obtain ⟨⟨hx5, hy5, q5, hq5⟩, -⟩ := Classical.not_not.mp (sgb_f hb4 c7)
    obtain ⟨e, f, lf, en1, en2, en3, en4, en5, en6, en7, en8, en9⟩ := inv_ends hI4 (k := x.toInt.toNat) (by omega)
    have hq6 := (iEn_of (j := y.toInt.toNat) en1).symm.trans hq5
    have hq7 := inv_en hI4 (k := x.toInt.toNat) (by omega) (by omega) hq5
    obtain ⟨l1, el1, el2, el3, el4, el5, el6⟩ := inv_el hI4 hq7
    refine lv_aload_n hx hb dX14_taken__14 rfl (lv_at hl 0 rfl) ?_
    refine gr_X14_10 F hB dX14_taken__15 (inv_A hI4) (inv_r1 hI4) ?_
    refine lv_iload_n hx hb dX14_taken__18 rfl (lv_at hl 1 rfl) ?_
    refine sg_callV (ci := 4) F hB (m_getD l D cy hI4 x (by omega) (by omega) _) (cwV 1 F.1.2.2.2.2 (mgV (mm_4 _ (List.mem_of_getElem? (i := 3) rfl)) (mm_4 _ (List.mem_of_getElem? (i := 4) rfl)) (mm_4 _ (List.mem_of_getElem? (i := 5) rfl)) (mm_0 _ (List.mem_of_getElem? (i := 35) rfl)) (mm_3 _ (List.mem_of_getElem? (i := 34) rfl))) rfl rfl rfl ⟨rfl, by decide, by decide, by decide +kernel⟩ ⟨Nat.le_of_ble_eq_true rfl, Nat.le_of_ble_eq_true rfl⟩) rfl rfl (by decide) rfl hl.1 rfl (Nat.le_of_ble_eq_true rfl) dX14_taken__19 (Nat.le_of_ble_eq_true rfl) (Nat.add_le_add_right (Nat.le_of_ble_eq_true rfl) _) (inv_tD hI4).1 (fun H locs v σ19 N hBn hX19 hP => ?_)
    clear hB; have hB := hBn; clear hBn
    obtain ⟨rfl, rfl⟩ := hP
    have dv19 := (inv_dv hI4 (k := (x : Int32).toInt.toNat) (by omega)).2.1
    refine va_castY hx hb hown (F.1.2.2.2.2 _ (List.mem_cons_of_mem _ (mm_4 _ (List.mem_of_getElem? (i := 2) rfl)))) (F.2.2.1.2.2 ("HubcascadeModel$Device", "HubcascadeModel$Device") (by decide +kernel)) (sg_recv (ci := 15) F.2.1 hB (by assumption) (by decide) rfl) dX14_taken__22 ?_
    refine gr_X14_96 F hB dX14_taken__25 (by assumption) en1 ?_
    refine lv_iload_n hx hb dX14_taken__28 rfl (lv_at hl 2 rfl) ?_
    refine sg_aaldR 8 hx hb F.2.1 hB.1 rfl rfl dX14_taken__29 (by assumption) (by omega) (by rw [en5]; omega) (by rw [en5]; omega) hq6 ?_
    refine gr_X14_320 F hB dX14_taken__30 (by assumption) el1 ?_
    refine sg_callV (ci := 4) F hB (m_size l D cy (by exact el2) _) (cwV 0 F.1.2.2.2.2 (mgV (mm_3 _ (List.mem_of_getElem? (i := 18) rfl)) (mm_3 _ (List.mem_of_getElem? (i := 19) rfl)) (mm_3 _ (List.mem_of_getElem? (i := 20) rfl)) (mm_0 _ (List.mem_of_getElem? (i := 35) rfl)) (mm_3 _ (List.mem_of_getElem? (i := 16) rfl))) rfl rfl rfl ⟨rfl, by decide, by decide, by decide +kernel⟩ ⟨Nat.le_of_ble_eq_true rfl, Nat.le_of_ble_eq_true rfl⟩) rfl rfl (by decide) rfl hl.1 rfl (Nat.le_of_ble_eq_true rfl) dX14_taken__33 (Nat.le_of_ble_eq_true rfl) (Nat.add_le_add_right (Nat.le_of_ble_eq_true rfl) _) el2 (fun H locs v σ33 N hBn hX33 hP => ?_)
    clear hB; have hB := hBn; clear hBn
    obtain ⟨rfl, rfl⟩ := hP
    exact sg_iret F hB hrt dX14_taken__36 (by decide) (by decide) (⟨⟨_, rfl⟩, hI4⟩)
  · refine lv_iconst (v := 0) hx hb dX14_taken__10 (by decide) ?_
    refine lv_goto (tgt := 36) hx hb dX14_taken__11 (by decide) ?_
    exact sg_iret F hB hrt dX14_taken__36 (by decide) (by decide) (⟨⟨_, rfl⟩, hI4⟩)
theorem dX14_waiting_0 : decode cX14_waiting 0 = .ok (.aload_n 0, 1) := by decide +kernel
theorem dX14_waiting_1 : decode cX14_waiting 1 = .ok (.iload_n 1, 1) := by decide +kernel
theorem dX14_waiting_2 : decode cX14_waiting 2 = .ok (.iload_n 2, 1) := by decide +kernel
theorem dX14_waiting_3 : decode cX14_waiting 3 = .ok (.iconst 1, 1) := by decide +kernel
theorem dX14_waiting_4 : decode cX14_waiting 4 = .ok (.invokevirtual 403, 3) := by decide +kernel
theorem dX14_waiting_7 : decode cX14_waiting 7 = .ok (.ifCond .eq 7, 3) := by decide +kernel
theorem dX14_waiting_10 : decode cX14_waiting 10 = .ok (.iconst 0, 1) := by decide +kernel
theorem dX14_waiting_11 : decode cX14_waiting 11 = .ok (.goto 25, 3) := by decide +kernel
theorem dX14_waiting_14 : decode cX14_waiting 14 = .ok (.aload_n 0, 1) := by decide +kernel
theorem dX14_waiting_15 : decode cX14_waiting 15 = .ok (.getfield 10, 3) := by decide +kernel
theorem dX14_waiting_18 : decode cX14_waiting 18 = .ok (.iload_n 1, 1) := by decide +kernel
theorem dX14_waiting_19 : decode cX14_waiting 19 = .ok (.invokevirtual 76, 3) := by decide +kernel
theorem dX14_waiting_22 : decode cX14_waiting 22 = .ok (.checkcast 48, 3) := by decide +kernel
theorem dX14_waiting_25 : decode cX14_waiting 25 = .ok (.getfield 96, 3) := by decide +kernel
theorem dX14_waiting_28 : decode cX14_waiting 28 = .ok (.iload_n 2, 1) := by decide +kernel
theorem dX14_waiting_29 : decode cX14_waiting 29 = .ok (.aaload, 1) := by decide +kernel
theorem dX14_waiting_30 : decode cX14_waiting 30 = .ok (.getfield 320, 3) := by decide +kernel
theorem dX14_waiting_33 : decode cX14_waiting 33 = .ok (.invokevirtual 64, 3) := by decide +kernel
theorem dX14_waiting_36 : decode cX14_waiting 36 = .ok (.ireturn, 1) := by decide +kernel
set_option maxRecDepth 100000 in
set_option maxHeartbeats 4000000 in
theorem m_waiting (l : Launch) (D : va_G) (cy : Nat → ClassId) {eda ca : Nat} {ia : Nat → Nat} {σ : SG} {K : KM} {g : GH} {n S hw : Nat} (h : Inv eda ia K g n S hw σ) (x y : Int32) (sz : Nat) : sgM l D cy eda ca ia σ sz yX14_waiting (Cond.code yX14_waiting cX14_waiting 3 (some .int) :: mWall) 5 109 0 0 [.ref (kA K), .int x, .int y] (fun v σ2 => (∃ y : Int32, v = some (.int y)) ∧ Inv eda ia K g n S hw σ2) := by
  refine sg_ofW (cc := cX14_waiting) (maxL := 3) (ret := (some .int)) (by decide) rfl (Nat.le_of_ble_eq_true rfl) (lv := [(0, .ref (kA K)), (1, .int x), (2, .int y)]) rfl (fun p e s m below meth c ls H N hrt hnm F hB hl => ?_) sz
  have hx := F.1.1
  have hb := F.1.2.1
  have hown := F.1.2.2.2.1
  refine lv_aload_n hx hb dX14_waiting_0 rfl (lv_at hl 0 rfl) ?_
  refine lv_iload_n hx hb dX14_waiting_1 rfl (lv_at hl 1 rfl) ?_
  refine lv_iload_n hx hb dX14_waiting_2 rfl (lv_at hl 2 rfl) ?_
  refine lv_iconst (v := 1) hx hb dX14_waiting_3 (by decide) ?_
  refine sg_callV (ci := 19) F hB (m_noEnd l D cy h x y 1 _) (cwV 3 F.1.2.2.2.2 (mgV (mm_13 _ (List.mem_of_getElem? (i := 18) rfl)) (mm_13 _ (List.mem_of_getElem? (i := 19) rfl)) (mm_13 _ (List.mem_of_getElem? (i := 20) rfl)) (mm_3 _ (List.mem_of_getElem? (i := 23) rfl)) (mm_13 _ (List.mem_of_getElem? (i := 17) rfl))) rfl rfl rfl ⟨rfl, by decide, by decide, by decide +kernel⟩ ⟨Nat.le_of_ble_eq_true rfl, Nat.le_of_ble_eq_true rfl⟩) rfl rfl (by decide) rfl hl.1 rfl (Nat.le_of_ble_eq_true rfl) dX14_waiting_4 (Nat.le_of_ble_eq_true rfl) (Nat.add_le_add_right (Nat.le_of_ble_eq_true rfl) _) (inv_A h) (fun H locs v σ4 N hBn hX4 hP => ?_)
  clear hB; have hB := hBn; clear hBn
  obtain ⟨y4, b4, rfl, rfl, hb4⟩ := hP
  have hI4 := inv_th h y4
  refine lv_if_eq (tgt := 14) hx hb dX14_waiting_7 (by decide) (fun c7 => ?_) (fun c7 => ?_)
  · obtain ⟨⟨hx5, hy5, q5, hq5⟩, -⟩ := Classical.not_not.mp (sgb_f hb4 c7)
    obtain ⟨e, f, lf, en1, en2, en3, en4, en5, en6, en7, en8, en9⟩ := inv_ends hI4 (k := x.toInt.toNat) (by omega)
    have hq6 := (iEn_of (j := y.toInt.toNat) en1).symm.trans hq5
    have hq7 := inv_en hI4 (k := x.toInt.toNat) (by omega) (by omega) hq5
    obtain ⟨l1, el1, el2, el3, el4, el5, el6⟩ := inv_el hI4 hq7
    refine lv_aload_n hx hb dX14_waiting_14 rfl (lv_at hl 0 rfl) ?_
    refine gr_X14_10 F hB dX14_waiting_15 (inv_A hI4) (inv_r1 hI4) ?_
    refine lv_iload_n hx hb dX14_waiting_18 rfl (lv_at hl 1 rfl) ?_
    refine sg_callV (ci := 4) F hB (m_getD l D cy hI4 x (by omega) (by omega) _) (cwV 1 F.1.2.2.2.2 (mgV (mm_4 _ (List.mem_of_getElem? (i := 3) rfl)) (mm_4 _ (List.mem_of_getElem? (i := 4) rfl)) (mm_4 _ (List.mem_of_getElem? (i := 5) rfl)) (mm_0 _ (List.mem_of_getElem? (i := 35) rfl)) (mm_3 _ (List.mem_of_getElem? (i := 34) rfl))) rfl rfl rfl ⟨rfl, by decide, by decide, by decide +kernel⟩ ⟨Nat.le_of_ble_eq_true rfl, Nat.le_of_ble_eq_true rfl⟩) rfl rfl (by decide) rfl hl.1 rfl (Nat.le_of_ble_eq_true rfl) dX14_waiting_19 (Nat.le_of_ble_eq_true rfl) (Nat.add_le_add_right (Nat.le_of_ble_eq_true rfl) _) (inv_tD hI4).1 (fun H locs v σ19 N hBn hX19 hP => ?_)
    clear hB; have hB := hBn; clear hBn
    obtain ⟨rfl, rfl⟩ := hP
    have dv19 := (inv_dv hI4 (k := (x : Int32).toInt.toNat) (by omega)).2.1
    refine va_castY hx hb hown (F.1.2.2.2.2 _ (List.mem_cons_of_mem _ (mm_4 _ (List.mem_of_getElem? (i := 2) rfl)))) (F.2.2.1.2.2 ("HubcascadeModel$Device", "HubcascadeModel$Device") (by decide +kernel)) (sg_recv (ci := 15) F.2.1 hB (by assumption) (by decide) rfl) dX14_waiting_22 ?_
    refine gr_X14_96 F hB dX14_waiting_25 (by assumption) en1 ?_
    refine lv_iload_n hx hb dX14_waiting_28 rfl (lv_at hl 2 rfl) ?_
    refine sg_aaldR 8 hx hb F.2.1 hB.1 rfl rfl dX14_waiting_29 (by assumption) (by omega) (by rw [en5]; omega) (by rw [en5]; omega) hq6 ?_
    refine gr_X14_320 F hB dX14_waiting_30 (by assumption) el1 ?_
    refine sg_callV (ci := 4) F hB (m_size l D cy (by exact el2) _) (cwV 0 F.1.2.2.2.2 (mgV (mm_3 _ (List.mem_of_getElem? (i := 18) rfl)) (mm_3 _ (List.mem_of_getElem? (i := 19) rfl)) (mm_3 _ (List.mem_of_getElem? (i := 20) rfl)) (mm_0 _ (List.mem_of_getElem? (i := 35) rfl)) (mm_3 _ (List.mem_of_getElem? (i := 16) rfl))) rfl rfl rfl ⟨rfl, by decide, by decide, by decide +kernel⟩ ⟨Nat.le_of_ble_eq_true rfl, Nat.le_of_ble_eq_true rfl⟩) rfl rfl (by decide) rfl hl.1 rfl (Nat.le_of_ble_eq_true rfl) dX14_waiting_33 (Nat.le_of_ble_eq_true rfl) (Nat.add_le_add_right (Nat.le_of_ble_eq_true rfl) _) el2 (fun H locs v σ33 N hBn hX33 hP => ?_)
    clear hB; have hB := hBn; clear hBn
    obtain ⟨rfl, rfl⟩ := hP
    exact sg_iret F hB hrt dX14_waiting_36 (by decide) (by decide) (⟨⟨_, rfl⟩, hI4⟩)
  · refine lv_iconst (v := 0) hx hb dX14_waiting_10 (by decide) ?_
    refine lv_goto (tgt := 36) hx hb dX14_waiting_11 (by decide) ?_
    exact sg_iret F hB hrt dX14_waiting_36 (by decide) (by decide) (⟨⟨_, rfl⟩, hI4⟩)
theorem dX14_takenAt_0 : decode cX14_takenAt 0 = .ok (.aload_n 0, 1) := by decide +kernel
theorem dX14_takenAt_1 : decode cX14_takenAt 1 = .ok (.iload_n 1, 1) := by decide +kernel
theorem dX14_takenAt_2 : decode cX14_takenAt 2 = .ok (.iload_n 2, 1) := by decide +kernel
theorem dX14_takenAt_3 : decode cX14_takenAt 3 = .ok (.iconst 0, 1) := by decide +kernel
theorem dX14_takenAt_4 : decode cX14_takenAt 4 = .ok (.invokevirtual 403, 3) := by decide +kernel
theorem dX14_takenAt_7 : decode cX14_takenAt 7 = .ok (.ifCond .eq 7, 3) := by decide +kernel
theorem dX14_takenAt_10 : decode cX14_takenAt 10 = .ok (.iconst 0, 1) := by decide +kernel
theorem dX14_takenAt_11 : decode cX14_takenAt 11 = .ok (.goto 28, 3) := by decide +kernel
theorem dX14_takenAt_14 : decode cX14_takenAt 14 = .ok (.aload_n 0, 1) := by decide +kernel
theorem dX14_takenAt_15 : decode cX14_takenAt 15 = .ok (.aload_n 0, 1) := by decide +kernel
theorem dX14_takenAt_16 : decode cX14_takenAt 16 = .ok (.getfield 10, 3) := by decide +kernel
theorem dX14_takenAt_19 : decode cX14_takenAt 19 = .ok (.iload_n 1, 1) := by decide +kernel
theorem dX14_takenAt_20 : decode cX14_takenAt 20 = .ok (.invokevirtual 76, 3) := by decide +kernel
theorem dX14_takenAt_23 : decode cX14_takenAt 23 = .ok (.checkcast 48, 3) := by decide +kernel
theorem dX14_takenAt_26 : decode cX14_takenAt 26 = .ok (.getfield 96, 3) := by decide +kernel
theorem dX14_takenAt_29 : decode cX14_takenAt 29 = .ok (.iload_n 2, 1) := by decide +kernel
theorem dX14_takenAt_30 : decode cX14_takenAt 30 = .ok (.aaload, 1) := by decide +kernel
theorem dX14_takenAt_31 : decode cX14_takenAt 31 = .ok (.getfield 320, 3) := by decide +kernel
theorem dX14_takenAt_34 : decode cX14_takenAt 34 = .ok (.iload_n 3, 1) := by decide +kernel
theorem dX14_takenAt_35 : decode cX14_takenAt 35 = .ok (.iconst 3, 1) := by decide +kernel
theorem dX14_takenAt_36 : decode cX14_takenAt 36 = .ok (.invokevirtual 407, 3) := by decide +kernel
theorem dX14_takenAt_39 : decode cX14_takenAt 39 = .ok (.ireturn, 1) := by decide +kernel
set_option maxRecDepth 100000 in
set_option maxHeartbeats 4000000 in
theorem m_takenAt (l : Launch) (D : va_G) (cy : Nat → ClassId) {eda ca : Nat} {ia : Nat → Nat} {σ : SG} {K : KM} {g : GH} {n S hw : Nat} (h : Inv eda ia K g n S hw σ) (x y z : Int32) (sz : Nat) : sgM l D cy eda ca ia σ sz yX14_takenAt (Cond.code yX14_takenAt cX14_takenAt 4 (some .int) :: mWall) 5 109 0 0 [.ref (kA K), .int x, .int y, .int z] (fun v σ2 => (∃ y : Int32, v = some (.int y)) ∧ Inv eda ia K g n S hw σ2) := by
  refine sg_ofW (cc := cX14_takenAt) (maxL := 4) (ret := (some .int)) (by decide) rfl (Nat.le_of_ble_eq_true rfl) (lv := [(0, .ref (kA K)), (1, .int x), (2, .int y), (3, .int z)]) rfl (fun p e s m below meth c ls H N hrt hnm F hB hl => ?_) sz
  have hx := F.1.1
  have hb := F.1.2.1
  have hown := F.1.2.2.2.1
  refine lv_aload_n hx hb dX14_takenAt_0 rfl (lv_at hl 0 rfl) ?_
  refine lv_iload_n hx hb dX14_takenAt_1 rfl (lv_at hl 1 rfl) ?_
  refine lv_iload_n hx hb dX14_takenAt_2 rfl (lv_at hl 2 rfl) ?_
  refine lv_iconst (v := 0) hx hb dX14_takenAt_3 (by decide) ?_
  refine sg_callV (ci := 19) F hB (m_noEnd l D cy h x y 0 _) (cwV 3 F.1.2.2.2.2 (mgV (mm_13 _ (List.mem_of_getElem? (i := 18) rfl)) (mm_13 _ (List.mem_of_getElem? (i := 19) rfl)) (mm_13 _ (List.mem_of_getElem? (i := 20) rfl)) (mm_3 _ (List.mem_of_getElem? (i := 23) rfl)) (mm_13 _ (List.mem_of_getElem? (i := 17) rfl))) rfl rfl rfl ⟨rfl, by decide, by decide, by decide +kernel⟩ ⟨Nat.le_of_ble_eq_true rfl, Nat.le_of_ble_eq_true rfl⟩) rfl rfl (by decide) rfl hl.1 rfl (Nat.le_of_ble_eq_true rfl) dX14_takenAt_4 (Nat.le_of_ble_eq_true rfl) (Nat.add_le_add_right (Nat.le_of_ble_eq_true rfl) _) (inv_A h) (fun H locs v σ4 N hBn hX4 hP => ?_)
  clear hB; have hB := hBn; clear hBn
  obtain ⟨y4, b4, rfl, rfl, hb4⟩ := hP
  have hI4 := inv_th h y4
  refine lv_if_eq (tgt := 14) hx hb dX14_takenAt_7 (by decide) (fun c7 => ?_) (fun c7 => ?_)
  · obtain ⟨⟨hx5, hy5, q5, hq5⟩, -⟩ := Classical.not_not.mp (sgb_f hb4 c7)
    obtain ⟨e, f, lf, en1, en2, en3, en4, en5, en6, en7, en8, en9⟩ := inv_ends hI4 (k := x.toInt.toNat) (by omega)
    have hq6 := (iEn_of (j := y.toInt.toNat) en1).symm.trans hq5
    have hq7 := inv_en hI4 (k := x.toInt.toNat) (by omega) (by omega) hq5
    obtain ⟨l1, el1, el2, el3, el4, el5, el6⟩ := inv_el hI4 hq7
    refine lv_aload_n hx hb dX14_takenAt_14 rfl (lv_at hl 0 rfl) ?_
    refine lv_aload_n hx hb dX14_takenAt_15 rfl (lv_at hl 0 rfl) ?_
    refine gr_X14_10 F hB dX14_takenAt_16 (inv_A hI4) (inv_r1 hI4) ?_
    refine lv_iload_n hx hb dX14_takenAt_19 rfl (lv_at hl 1 rfl) ?_
    refine sg_callV (ci := 4) F hB (m_getD l D cy hI4 x (by omega) (by omega) _) (cwV 1 F.1.2.2.2.2 (mgV (mm_4 _ (List.mem_of_getElem? (i := 3) rfl)) (mm_4 _ (List.mem_of_getElem? (i := 4) rfl)) (mm_4 _ (List.mem_of_getElem? (i := 5) rfl)) (mm_0 _ (List.mem_of_getElem? (i := 35) rfl)) (mm_3 _ (List.mem_of_getElem? (i := 34) rfl))) rfl rfl rfl ⟨rfl, by decide, by decide, by decide +kernel⟩ ⟨Nat.le_of_ble_eq_true rfl, Nat.le_of_ble_eq_true rfl⟩) rfl rfl (by decide) rfl hl.1 rfl (Nat.le_of_ble_eq_true rfl) dX14_takenAt_20 (Nat.le_of_ble_eq_true rfl) (Nat.add_le_add_right (Nat.le_of_ble_eq_true rfl) _) (inv_tD hI4).1 (fun H locs v σ20 N hBn hX20 hP => ?_)
    clear hB; have hB := hBn; clear hBn
    obtain ⟨rfl, rfl⟩ := hP
    have dv20 := (inv_dv hI4 (k := (x : Int32).toInt.toNat) (by omega)).2.1
    refine va_castY hx hb hown (F.1.2.2.2.2 _ (List.mem_cons_of_mem _ (mm_4 _ (List.mem_of_getElem? (i := 2) rfl)))) (F.2.2.1.2.2 ("HubcascadeModel$Device", "HubcascadeModel$Device") (by decide +kernel)) (sg_recv (ci := 15) F.2.1 hB (by assumption) (by decide) rfl) dX14_takenAt_23 ?_
    refine gr_X14_96 F hB dX14_takenAt_26 (by assumption) en1 ?_
    refine lv_iload_n hx hb dX14_takenAt_29 rfl (lv_at hl 2 rfl) ?_
    refine sg_aaldR 8 hx hb F.2.1 hB.1 rfl rfl dX14_takenAt_30 (by assumption) (by omega) (by rw [en5]; omega) (by rw [en5]; omega) hq6 ?_
    refine gr_X14_320 F hB dX14_takenAt_31 (by assumption) el1 ?_
    refine lv_iload_n hx hb dX14_takenAt_34 rfl (lv_at hl 3 rfl) ?_
    refine lv_iconst (v := 3) hx hb dX14_takenAt_35 (by decide) ?_
    refine sg_callV (ci := 19) F hB (m_lastOf l D cy hI4 el2 (Or.inr el3) z 3 (Or.inr rfl) _) (cwV 3 F.1.2.2.2.2 (mgV (mm_13 _ (List.mem_of_getElem? (i := 23) rfl)) (mm_13 _ (List.mem_of_getElem? (i := 24) rfl)) (mm_13 _ (List.mem_of_getElem? (i := 25) rfl)) (mm_3 _ (List.mem_of_getElem? (i := 23) rfl)) (mm_13 _ (List.mem_of_getElem? (i := 22) rfl))) rfl rfl rfl ⟨rfl, by decide, by decide, by decide +kernel⟩ ⟨Nat.le_of_ble_eq_true rfl, Nat.le_of_ble_eq_true rfl⟩) rfl rfl (by decide) rfl hl.1 rfl (Nat.le_of_ble_eq_true rfl) dX14_takenAt_36 (Nat.le_of_ble_eq_true rfl) (Nat.add_le_add_right (Nat.le_of_ble_eq_true rfl) _) (inv_A hI4) (fun H locs v σ36 N hBn hX36 hP => ?_)
    clear hB; have hB := hBn; clear hBn
    obtain ⟨⟨w, rfl⟩, hI36⟩ := hP
    exact sg_iret F hB hrt dX14_takenAt_39 (by decide) (by decide) (⟨⟨_, rfl⟩, hI36⟩)
  · refine lv_iconst (v := 0) hx hb dX14_takenAt_10 (by decide) ?_
    refine lv_goto (tgt := 39) hx hb dX14_takenAt_11 (by decide) ?_
    exact sg_iret F hB hrt dX14_takenAt_39 (by decide) (by decide) (⟨⟨_, rfl⟩, hI4⟩)
theorem dX14_isHalted_0 : decode cX14_isHalted 0 = .ok (.aload_n 0, 1) := by decide +kernel
theorem dX14_isHalted_1 : decode cX14_isHalted 1 = .ok (.iload_n 1, 1) := by decide +kernel
theorem dX14_isHalted_2 : decode cX14_isHalted 2 = .ok (.invokevirtual 293, 3) := by decide +kernel
theorem dX14_isHalted_5 : decode cX14_isHalted 5 = .ok (.ifCond .ne 19, 3) := by decide +kernel
theorem dX14_isHalted_8 : decode cX14_isHalted 8 = .ok (.aload_n 0, 1) := by decide +kernel
theorem dX14_isHalted_9 : decode cX14_isHalted 9 = .ok (.getfield 18, 3) := by decide +kernel
theorem dX14_isHalted_12 : decode cX14_isHalted 12 = .ok (.iload_n 1, 1) := by decide +kernel
theorem dX14_isHalted_13 : decode cX14_isHalted 13 = .ok (.aaload, 1) := by decide +kernel
theorem dX14_isHalted_14 : decode cX14_isHalted 14 = .ok (.getfield 313, 3) := by decide +kernel
theorem dX14_isHalted_17 : decode cX14_isHalted 17 = .ok (.ifCond .eq 7, 3) := by decide +kernel
theorem dX14_isHalted_20 : decode cX14_isHalted 20 = .ok (.iconst 1, 1) := by decide +kernel
theorem dX14_isHalted_21 : decode cX14_isHalted 21 = .ok (.goto 4, 3) := by decide +kernel
theorem dX14_isHalted_24 : decode cX14_isHalted 24 = .ok (.iconst 0, 1) := by decide +kernel
theorem dX14_isHalted_25 : decode cX14_isHalted 25 = .ok (.ireturn, 1) := by decide +kernel
set_option maxRecDepth 100000 in
set_option maxHeartbeats 4000000 in
theorem m_isHalted (l : Launch) (D : va_G) (cy : Nat → ClassId) {eda ca : Nat} {ia : Nat → Nat} {σ : SG} {K : KM} {g : GH} {n S hw : Nat} (h : Inv eda ia K g n S hw σ) (x : Int32) (sz : Nat) : sgM l D cy eda ca ia σ sz yX14_isHalted (Cond.code yX14_isHalted cX14_isHalted 2 (some .boolean) :: mWall) 2 43 0 0 [.ref (kA K), .int x] (fun v σ2 => (∃ y : Int32, v = some (.int y)) ∧ Inv eda ia K g n S hw σ2) := by
  refine sg_ofW (cc := cX14_isHalted) (maxL := 2) (ret := (some .boolean)) (by decide) rfl (Nat.le_of_ble_eq_true rfl) (lv := [(0, .ref (kA K)), (1, .int x)]) rfl (fun p e s m below meth c ls H N hrt hnm F hB hl => ?_) sz
  have hx := F.1.1
  have hb := F.1.2.1
  have hown := F.1.2.2.2.1
  refine lv_aload_n hx hb dX14_isHalted_0 rfl (lv_at hl 0 rfl) ?_
  refine lv_iload_n hx hb dX14_isHalted_1 rfl (lv_at hl 1 rfl) ?_
  refine sg_callV (ci := 19) F hB (m_noPipe l D cy h x _) (cwV 1 F.1.2.2.2.2 (mgV (mm_8 _ (List.mem_of_getElem? (i := 39) rfl)) (mm_9 _ (List.mem_of_getElem? (i := 0) rfl)) (mm_9 _ (List.mem_of_getElem? (i := 1) rfl)) (mm_3 _ (List.mem_of_getElem? (i := 23) rfl)) (mm_8 _ (List.mem_of_getElem? (i := 38) rfl))) rfl rfl rfl ⟨rfl, by decide, by decide, by decide +kernel⟩ ⟨Nat.le_of_ble_eq_true rfl, Nat.le_of_ble_eq_true rfl⟩) rfl rfl (by decide) rfl hl.1 rfl (Nat.le_of_ble_eq_true rfl) dX14_isHalted_2 (Nat.le_of_ble_eq_true rfl) (Nat.add_le_add_right (Nat.le_of_ble_eq_true rfl) _) (inv_A h) (fun H locs v σ2 N hBn hX2 hP => ?_)
  clear hB; have hB := hBn; clear hBn
  obtain ⟨y2, b2, rfl, rfl, hb2⟩ := hP
  have hI2 := inv_th h y2
  refine lv_if_ne (tgt := 24) hx hb dX14_isHalted_5 (by decide) (fun c5 => ?_) (fun c5 => ?_)
  · refine lv_iconst (v := 0) hx hb dX14_isHalted_24 (by decide) ?_
    exact sg_zret F hB hrt dX14_isHalted_25 (by decide) (by decide) rfl (⟨⟨_, rfl⟩, hI2⟩)
  · obtain ⟨hx5, pp, hpp⟩ := Classical.not_not.mp (sgb_f hb2 c5)
    have tp := inv_pp hI2 (j := x.toInt.toNat) (by omega) hpp
    refine lv_aload_n hx hb dX14_isHalted_8 rfl (lv_at hl 0 rfl) ?_
    refine gr_X14_18 F hB dX14_isHalted_9 (inv_A hI2) (inv_r2 hI2) ?_
    refine lv_iload_n hx hb dX14_isHalted_12 rfl (lv_at hl 1 rfl) ?_
    refine sg_aaldR 9 hx hb F.2.1 hB.1 rfl rfl dX14_isHalted_13 (inv_tP hI2).1 (by omega) (by rw [(inv_tP hI2).2]; omega) (by rw [(inv_tP hI2).2]; omega) hpp ?_
    refine gf_X14_313 F hB dX14_isHalted_14 (by assumption) ?_
    refine lv_if_eq (tgt := 24) hx hb dX14_isHalted_17 (by decide) (fun c17 => ?_) (fun c17 => ?_)
    · refine lv_iconst (v := 0) hx hb dX14_isHalted_24 (by decide) ?_
      exact sg_zret F hB hrt dX14_isHalted_25 (by decide) (by decide) rfl (⟨⟨_, rfl⟩, hI2⟩)
    · refine lv_iconst (v := 1) hx hb dX14_isHalted_20 (by decide) ?_
      refine lv_goto (tgt := 25) hx hb dX14_isHalted_21 (by decide) ?_
      exact sg_zret F hB hrt dX14_isHalted_25 (by decide) (by decide) rfl (⟨⟨_, rfl⟩, hI2⟩)
theorem dX14_phaseOf_0 : decode cX14_phaseOf 0 = .ok (.aload_n 0, 1) := by decide +kernel
theorem dX14_phaseOf_1 : decode cX14_phaseOf 1 = .ok (.iload_n 1, 1) := by decide +kernel
theorem dX14_phaseOf_2 : decode cX14_phaseOf 2 = .ok (.invokevirtual 293, 3) := by decide +kernel
theorem dX14_phaseOf_5 : decode cX14_phaseOf 5 = .ok (.ifCond .eq 7, 3) := by decide +kernel
theorem dX14_phaseOf_8 : decode cX14_phaseOf 8 = .ok (.iconst 0, 1) := by decide +kernel
theorem dX14_phaseOf_9 : decode cX14_phaseOf 9 = .ok (.goto 12, 3) := by decide +kernel
theorem dX14_phaseOf_12 : decode cX14_phaseOf 12 = .ok (.aload_n 0, 1) := by decide +kernel
theorem dX14_phaseOf_13 : decode cX14_phaseOf 13 = .ok (.getfield 18, 3) := by decide +kernel
theorem dX14_phaseOf_16 : decode cX14_phaseOf 16 = .ok (.iload_n 1, 1) := by decide +kernel
theorem dX14_phaseOf_17 : decode cX14_phaseOf 17 = .ok (.aaload, 1) := by decide +kernel
theorem dX14_phaseOf_18 : decode cX14_phaseOf 18 = .ok (.getfield 232, 3) := by decide +kernel
theorem dX14_phaseOf_21 : decode cX14_phaseOf 21 = .ok (.ireturn, 1) := by decide +kernel
set_option maxRecDepth 100000 in
set_option maxHeartbeats 4000000 in
theorem m_phaseOf (l : Launch) (D : va_G) (cy : Nat → ClassId) {eda ca : Nat} {ia : Nat → Nat} {σ : SG} {K : KM} {g : GH} {n S hw : Nat} (h : Inv eda ia K g n S hw σ) (x : Int32) (sz : Nat) : sgM l D cy eda ca ia σ sz yX14_phaseOf (Cond.code yX14_phaseOf cX14_phaseOf 2 (some .int) :: mWall) 2 43 0 0 [.ref (kA K), .int x] (fun v σ2 => (∃ y : Int32, v = some (.int y)) ∧ Inv eda ia K g n S hw σ2) := by
  refine sg_ofW (cc := cX14_phaseOf) (maxL := 2) (ret := (some .int)) (by decide) rfl (Nat.le_of_ble_eq_true rfl) (lv := [(0, .ref (kA K)), (1, .int x)]) rfl (fun p e s m below meth c ls H N hrt hnm F hB hl => ?_) sz
  have hx := F.1.1
  have hb := F.1.2.1
  have hown := F.1.2.2.2.1
  refine lv_aload_n hx hb dX14_phaseOf_0 rfl (lv_at hl 0 rfl) ?_
  refine lv_iload_n hx hb dX14_phaseOf_1 rfl (lv_at hl 1 rfl) ?_
  refine sg_callV (ci := 19) F hB (m_noPipe l D cy h x _) (cwV 1 F.1.2.2.2.2 (mgV (mm_8 _ (List.mem_of_getElem? (i := 39) rfl)) (mm_9 _ (List.mem_of_getElem? (i := 0) rfl)) (mm_9 _ (List.mem_of_getElem? (i := 1) rfl)) (mm_3 _ (List.mem_of_getElem? (i := 23) rfl)) (mm_8 _ (List.mem_of_getElem? (i := 38) rfl))) rfl rfl rfl ⟨rfl, by decide, by decide, by decide +kernel⟩ ⟨Nat.le_of_ble_eq_true rfl, Nat.le_of_ble_eq_true rfl⟩) rfl rfl (by decide) rfl hl.1 rfl (Nat.le_of_ble_eq_true rfl) dX14_phaseOf_2 (Nat.le_of_ble_eq_true rfl) (Nat.add_le_add_right (Nat.le_of_ble_eq_true rfl) _) (inv_A h) (fun H locs v σ2 N hBn hX2 hP => ?_)
  clear hB; have hB := hBn; clear hBn
  obtain ⟨y2, b2, rfl, rfl, hb2⟩ := hP
  have hI2 := inv_th h y2
  refine lv_if_eq (tgt := 12) hx hb dX14_phaseOf_5 (by decide) (fun c5 => ?_) (fun c5 => ?_)
  · obtain ⟨hx5, pp, hpp⟩ := Classical.not_not.mp (sgb_f hb2 c5)
    have tp := inv_pp hI2 (j := x.toInt.toNat) (by omega) hpp
    refine lv_aload_n hx hb dX14_phaseOf_12 rfl (lv_at hl 0 rfl) ?_
    refine gr_X14_18 F hB dX14_phaseOf_13 (inv_A hI2) (inv_r2 hI2) ?_
    refine lv_iload_n hx hb dX14_phaseOf_16 rfl (lv_at hl 1 rfl) ?_
    refine sg_aaldR 9 hx hb F.2.1 hB.1 rfl rfl dX14_phaseOf_17 (inv_tP hI2).1 (by omega) (by rw [(inv_tP hI2).2]; omega) (by rw [(inv_tP hI2).2]; omega) hpp ?_
    refine gf_X14_232 F hB dX14_phaseOf_18 (by assumption) ?_
    exact sg_iret F hB hrt dX14_phaseOf_21 (by decide) (by decide) (⟨⟨_, rfl⟩, hI2⟩)
  · refine lv_iconst (v := 0) hx hb dX14_phaseOf_8 (by decide) ?_
    refine lv_goto (tgt := 21) hx hb dX14_phaseOf_9 (by decide) ?_
    exact sg_iret F hB hrt dX14_phaseOf_21 (by decide) (by decide) (⟨⟨_, rfl⟩, hI2⟩)
theorem dX14_causeOf_0 : decode cX14_causeOf 0 = .ok (.aload_n 0, 1) := by decide +kernel
theorem dX14_causeOf_1 : decode cX14_causeOf 1 = .ok (.iload_n 1, 1) := by decide +kernel
theorem dX14_causeOf_2 : decode cX14_causeOf 2 = .ok (.invokevirtual 293, 3) := by decide +kernel
theorem dX14_causeOf_5 : decode cX14_causeOf 5 = .ok (.ifCond .eq 6, 3) := by decide +kernel
theorem dX14_causeOf_8 : decode cX14_causeOf 8 = .ok (.bipush 32, 2) := by decide +kernel
theorem dX14_causeOf_10 : decode cX14_causeOf 10 = .ok (.ireturn, 1) := by decide +kernel
theorem dX14_causeOf_11 : decode cX14_causeOf 11 = .ok (.aload_n 0, 1) := by decide +kernel
theorem dX14_causeOf_12 : decode cX14_causeOf 12 = .ok (.aload_n 0, 1) := by decide +kernel
theorem dX14_causeOf_13 : decode cX14_causeOf 13 = .ok (.getfield 18, 3) := by decide +kernel
theorem dX14_causeOf_16 : decode cX14_causeOf 16 = .ok (.iload_n 1, 1) := by decide +kernel
theorem dX14_causeOf_17 : decode cX14_causeOf 17 = .ok (.aaload, 1) := by decide +kernel
theorem dX14_causeOf_18 : decode cX14_causeOf 18 = .ok (.getfield 378, 3) := by decide +kernel
theorem dX14_causeOf_21 : decode cX14_causeOf 21 = .ok (.bipush 32, 2) := by decide +kernel
theorem dX14_causeOf_23 : decode cX14_causeOf 23 = .ok (.if_icmp .ne 7, 3) := by decide +kernel
theorem dX14_causeOf_26 : decode cX14_causeOf 26 = .ok (.iconst 2, 1) := by decide +kernel
theorem dX14_causeOf_27 : decode cX14_causeOf 27 = .ok (.goto 4, 3) := by decide +kernel
theorem dX14_causeOf_30 : decode cX14_causeOf 30 = .ok (.iconst 0, 1) := by decide +kernel
theorem dX14_causeOf_31 : decode cX14_causeOf 31 = .ok (.putfield 61, 3) := by decide +kernel
theorem dX14_causeOf_34 : decode cX14_causeOf 34 = .ok (.aload_n 0, 1) := by decide +kernel
theorem dX14_causeOf_35 : decode cX14_causeOf 35 = .ok (.getfield 18, 3) := by decide +kernel
theorem dX14_causeOf_38 : decode cX14_causeOf 38 = .ok (.iload_n 1, 1) := by decide +kernel
theorem dX14_causeOf_39 : decode cX14_causeOf 39 = .ok (.aaload, 1) := by decide +kernel
theorem dX14_causeOf_40 : decode cX14_causeOf 40 = .ok (.getfield 378, 3) := by decide +kernel
theorem dX14_causeOf_43 : decode cX14_causeOf 43 = .ok (.ireturn, 1) := by decide +kernel
set_option maxRecDepth 100000 in
set_option maxHeartbeats 4000000 in
theorem m_causeOf (l : Launch) (D : va_G) (cy : Nat → ClassId) {eda ca : Nat} {ia : Nat → Nat} {σ : SG} {K : KM} {g : GH} {n S hw : Nat} (h : Inv eda ia K g n S hw σ) (x : Int32) (sz : Nat) : sgM l D cy eda ca ia σ sz yX14_causeOf (Cond.code yX14_causeOf cX14_causeOf 2 (some .char) :: mWall) 2 43 0 0 [.ref (kA K), .int x] (fun v σ2 => (∃ y : Int32, v = some (.int y)) ∧ Inv eda ia K g n S hw σ2) := by
  refine sg_ofW (cc := cX14_causeOf) (maxL := 2) (ret := (some .char)) (by decide) rfl (Nat.le_of_ble_eq_true rfl) (lv := [(0, .ref (kA K)), (1, .int x)]) rfl (fun p e s m below meth c ls H N hrt hnm F hB hl => ?_) sz
  have hx := F.1.1
  have hb := F.1.2.1
  have hown := F.1.2.2.2.1
  refine lv_aload_n hx hb dX14_causeOf_0 rfl (lv_at hl 0 rfl) ?_
  refine lv_iload_n hx hb dX14_causeOf_1 rfl (lv_at hl 1 rfl) ?_
  refine sg_callV (ci := 19) F hB (m_noPipe l D cy h x _) (cwV 1 F.1.2.2.2.2 (mgV (mm_8 _ (List.mem_of_getElem? (i := 39) rfl)) (mm_9 _ (List.mem_of_getElem? (i := 0) rfl)) (mm_9 _ (List.mem_of_getElem? (i := 1) rfl)) (mm_3 _ (List.mem_of_getElem? (i := 23) rfl)) (mm_8 _ (List.mem_of_getElem? (i := 38) rfl))) rfl rfl rfl ⟨rfl, by decide, by decide, by decide +kernel⟩ ⟨Nat.le_of_ble_eq_true rfl, Nat.le_of_ble_eq_true rfl⟩) rfl rfl (by decide) rfl hl.1 rfl (Nat.le_of_ble_eq_true rfl) dX14_causeOf_2 (Nat.le_of_ble_eq_true rfl) (Nat.add_le_add_right (Nat.le_of_ble_eq_true rfl) _) (inv_A h) (fun H locs v σ2 N hBn hX2 hP => ?_)
  clear hB; have hB := hBn; clear hBn
  obtain ⟨y2, b2, rfl, rfl, hb2⟩ := hP
  have hI2 := inv_th h y2
  refine lv_if_eq (tgt := 11) hx hb dX14_causeOf_5 (by decide) (fun c5 => ?_) (fun c5 => ?_)
  · obtain ⟨hx5, pp, hpp⟩ := Classical.not_not.mp (sgb_f hb2 c5)
    have tp := inv_pp hI2 (j := x.toInt.toNat) (by omega) hpp
    refine lv_aload_n hx hb dX14_causeOf_11 rfl (lv_at hl 0 rfl) ?_
    refine lv_aload_n hx hb dX14_causeOf_12 rfl (lv_at hl 0 rfl) ?_
    refine gr_X14_18 F hB dX14_causeOf_13 (inv_A hI2) (inv_r2 hI2) ?_
    refine lv_iload_n hx hb dX14_causeOf_16 rfl (lv_at hl 1 rfl) ?_
    refine sg_aaldR 9 hx hb F.2.1 hB.1 rfl rfl dX14_causeOf_17 (inv_tP hI2).1 (by omega) (by rw [(inv_tP hI2).2]; omega) (by rw [(inv_tP hI2).2]; omega) hpp ?_
    refine gf_X14_378 F hB dX14_causeOf_18 (by assumption) ?_
    refine lv_bipush (v := 32) hx hb dX14_causeOf_21 (by decide) ?_
    refine lv_icmp_ne (tgt := 30) hx hb dX14_causeOf_23 (by decide) (fun c23 => ?_) (fun c23 => ?_)
    · refine lv_iconst (v := 0) hx hb dX14_causeOf_30 (by decide) ?_
      refine pf_X14_61 F hB dX14_causeOf_31 (inv_A hI2) (fun H locs hBn => ?_)
      clear hB; have hB := hBn; clear hBn
      have hI31 := inv_PIc (t := 20) hB hI2 (inv_A hI2) (by unfold iCn; omega)
      refine lv_aload_n hx hb dX14_causeOf_34 rfl (lv_at hl 0 rfl) ?_
      refine gr_X14_18 F hB dX14_causeOf_35 (inv_A hI31) (inv_r2 hI31) ?_
      refine lv_iload_n hx hb dX14_causeOf_38 rfl (lv_at hl 1 rfl) ?_
      refine sg_aaldR 9 hx hb F.2.1 hB.1 rfl rfl dX14_causeOf_39 (inv_tP hI31).1 (by omega) (by rw [(inv_tP hI31).2]; omega) (by rw [(inv_tP hI31).2]; omega) (by exact hpp) ?_
      refine gf_X14_378 F hB dX14_causeOf_40 (by exact tp) ?_
      exact sg_zret F hB hrt dX14_causeOf_43 (by decide) (by decide) (by first | rfl | exact sg_nfC (t := 17) hB (by exact tp) (by decide) rfl) (⟨⟨_, rfl⟩, hI31⟩)
    · refine lv_iconst (v := 2) hx hb dX14_causeOf_26 (by decide) ?_
      refine lv_goto (tgt := 31) hx hb dX14_causeOf_27 (by decide) ?_
      refine pf_X14_61 F hB dX14_causeOf_31 (inv_A hI2) (fun H locs hBn => ?_)
      clear hB; have hB := hBn; clear hBn
      have hI31 := inv_PIc (t := 20) hB hI2 (inv_A hI2) (by unfold iCn; omega)
      refine lv_aload_n hx hb dX14_causeOf_34 rfl (lv_at hl 0 rfl) ?_
      refine gr_X14_18 F hB dX14_causeOf_35 (inv_A hI31) (inv_r2 hI31) ?_
      refine lv_iload_n hx hb dX14_causeOf_38 rfl (lv_at hl 1 rfl) ?_
      refine sg_aaldR 9 hx hb F.2.1 hB.1 rfl rfl dX14_causeOf_39 (inv_tP hI31).1 (by omega) (by rw [(inv_tP hI31).2]; omega) (by rw [(inv_tP hI31).2]; omega) (by exact hpp) ?_
      refine gf_X14_378 F hB dX14_causeOf_40 (by exact tp) ?_
      exact sg_zret F hB hrt dX14_causeOf_43 (by decide) (by decide) (by first | rfl | exact sg_nfC (t := 17) hB (by exact tp) (by decide) rfl) (⟨⟨_, rfl⟩, hI31⟩)
  · refine lv_bipush (v := 32) hx hb dX14_causeOf_8 (by decide) ?_
    exact sg_zret F hB hrt dX14_causeOf_10 (by decide) (by decide) (by first | rfl | exact sg_nfC (t := 17) hB (by exact tp) (by decide) rfl) (⟨⟨_, rfl⟩, hI2⟩)
theorem dX14_eventPipe_0 : decode cX14_eventPipe 0 = .ok (.aload_n 0, 1) := by decide +kernel
theorem dX14_eventPipe_1 : decode cX14_eventPipe 1 = .ok (.aload_n 0, 1) := by decide +kernel
theorem dX14_eventPipe_2 : decode cX14_eventPipe 2 = .ok (.getfield 31, 3) := by decide +kernel
theorem dX14_eventPipe_5 : decode cX14_eventPipe 5 = .ok (.arraylength, 1) := by decide +kernel
theorem dX14_eventPipe_6 : decode cX14_eventPipe 6 = .ok (.ifCond .ne 7, 3) := by decide +kernel
theorem dX14_eventPipe_9 : decode cX14_eventPipe 9 = .ok (.iconst 1, 1) := by decide +kernel
theorem dX14_eventPipe_10 : decode cX14_eventPipe 10 = .ok (.goto 4, 3) := by decide +kernel
theorem dX14_eventPipe_13 : decode cX14_eventPipe 13 = .ok (.iconst 0, 1) := by decide +kernel
theorem dX14_eventPipe_14 : decode cX14_eventPipe 14 = .ok (.putfield 61, 3) := by decide +kernel
theorem dX14_eventPipe_17 : decode cX14_eventPipe 17 = .ok (.aload_n 0, 1) := by decide +kernel
theorem dX14_eventPipe_18 : decode cX14_eventPipe 18 = .ok (.getfield 61, 3) := by decide +kernel
theorem dX14_eventPipe_21 : decode cX14_eventPipe 21 = .ok (.ifCond .le 7, 3) := by decide +kernel
theorem dX14_eventPipe_24 : decode cX14_eventPipe 24 = .ok (.iconst 0, 1) := by decide +kernel
theorem dX14_eventPipe_25 : decode cX14_eventPipe 25 = .ok (.goto 9, 3) := by decide +kernel
theorem dX14_eventPipe_28 : decode cX14_eventPipe 28 = .ok (.aload_n 0, 1) := by decide +kernel
theorem dX14_eventPipe_29 : decode cX14_eventPipe 29 = .ok (.getfield 31, 3) := by decide +kernel
theorem dX14_eventPipe_32 : decode cX14_eventPipe 32 = .ok (.iconst 1, 1) := by decide +kernel
theorem dX14_eventPipe_33 : decode cX14_eventPipe 33 = .ok (.iaload, 1) := by decide +kernel
theorem dX14_eventPipe_34 : decode cX14_eventPipe 34 = .ok (.ireturn, 1) := by decide +kernel
set_option maxRecDepth 100000 in
set_option maxHeartbeats 4000000 in
theorem m_eventPipe (l : Launch) (D : va_G) (cy : Nat → ClassId) {eda ca : Nat} {ia : Nat → Nat} {σ : SG} {K : KM} {g : GH} {n S hw : Nat} (h : Inv eda ia K g n S hw σ) (sz : Nat) : sgM l D cy eda ca ia σ sz yX14_eventPipe (Cond.code yX14_eventPipe cX14_eventPipe 1 (some .int) :: mWall) 0 0 0 0 [.ref (kA K)] (fun v σ2 => (∃ y : Int32, v = some (.int y)) ∧ Inv eda ia K g n S hw σ2) := by
  refine sg_ofW (cc := cX14_eventPipe) (maxL := 1) (ret := (some .int)) (by decide) rfl (Nat.le_of_ble_eq_true rfl) (lv := [(0, .ref (kA K))]) rfl (fun p e s m below meth c ls H N hrt hnm F hB hl => ?_) sz
  have hx := F.1.1
  have hb := F.1.2.1
  have hown := F.1.2.2.2.1
  obtain ⟨ev, ev1, ev2, ev3⟩ := inv_ev h
  refine lv_aload_n hx hb dX14_eventPipe_0 rfl (lv_at hl 0 rfl) ?_
  refine lv_aload_n hx hb dX14_eventPipe_1 rfl (lv_at hl 0 rfl) ?_
  refine gr_X14_31 F hB dX14_eventPipe_2 (inv_A h) ev1 ?_
  refine sg_alen 0 hx hb F.2.1 hB.1 rfl dX14_eventPipe_5 ev2 ?_
  refine lv_if_ne (tgt := 13) hx hb dX14_eventPipe_6 (by decide) (fun c6 => ?_) (fun c6 => ?_)
  · refine lv_iconst (v := 0) hx hb dX14_eventPipe_13 (by decide) ?_
    refine pf_X14_61 F hB dX14_eventPipe_14 (inv_A h) (fun H locs hBn => ?_)
    clear hB; have hB := hBn; clear hBn
    have hI14 := inv_PIc (t := 20) hB h (inv_A h) (by unfold iCn; omega)
    refine lv_aload_n hx hb dX14_eventPipe_17 rfl (lv_at hl 0 rfl) ?_
    refine gf_X14_61 F hB dX14_eventPipe_18 (inv_A hI14) ?_
    rw [sgI_PI, if_pos ⟨rfl, rfl⟩]
    refine lv_if_le (tgt := 28) hx hb dX14_eventPipe_21 (by decide) (fun c21 => ?_) (fun c21 => (by first | exact absurd c21 (by decide) | exact (c21 (by decide)).elim))
    have ev4 : sgN σ ev = 3 := ev3.resolve_left (fun z => c6 (by rw [z]; rfl))
    refine lv_aload_n hx hb dX14_eventPipe_28 rfl (lv_at hl 0 rfl) ?_
    refine gr_X14_31 F hB dX14_eventPipe_29 (inv_A hI14) (by exact ev1) ?_
    refine lv_iconst (v := 1) hx hb dX14_eventPipe_32 (by decide) ?_
    refine sg_iald hx hb F.2.1 hB.1 dX14_eventPipe_33 (by exact ev2) (by decide) (m_ltN ev4 (by decide)) (m_ltM ev4 (by decide)) ?_
    exact sg_iret F hB hrt dX14_eventPipe_34 (by decide) (by decide) (⟨⟨_, rfl⟩, hI14⟩)
  · refine lv_iconst (v := 1) hx hb dX14_eventPipe_9 (by decide) ?_
    refine lv_goto (tgt := 14) hx hb dX14_eventPipe_10 (by decide) ?_
    refine pf_X14_61 F hB dX14_eventPipe_14 (inv_A h) (fun H locs hBn => ?_)
    clear hB; have hB := hBn; clear hBn
    have hI14 := inv_PIc (t := 20) hB h (inv_A h) (by unfold iCn; omega)
    refine lv_aload_n hx hb dX14_eventPipe_17 rfl (lv_at hl 0 rfl) ?_
    refine gf_X14_61 F hB dX14_eventPipe_18 (inv_A hI14) ?_
    rw [sgI_PI, if_pos ⟨rfl, rfl⟩]
    refine lv_if_le (tgt := 28) hx hb dX14_eventPipe_21 (by decide) (fun c21 => (by first | exact absurd c21 (by decide) | exact (c21 (by decide)).elim)) (fun c21 => ?_)
    refine lv_iconst (v := 0) hx hb dX14_eventPipe_24 (by decide) ?_
    refine lv_goto (tgt := 34) hx hb dX14_eventPipe_25 (by decide) ?_
    exact sg_iret F hB hrt dX14_eventPipe_34 (by decide) (by decide) (⟨⟨_, rfl⟩, hI14⟩)
theorem dX14_eventBytes_0 : decode cX14_eventBytes 0 = .ok (.aload_n 0, 1) := by decide +kernel
theorem dX14_eventBytes_1 : decode cX14_eventBytes 1 = .ok (.aload_n 0, 1) := by decide +kernel
theorem dX14_eventBytes_2 : decode cX14_eventBytes 2 = .ok (.getfield 31, 3) := by decide +kernel
theorem dX14_eventBytes_5 : decode cX14_eventBytes 5 = .ok (.arraylength, 1) := by decide +kernel
theorem dX14_eventBytes_6 : decode cX14_eventBytes 6 = .ok (.ifCond .ne 7, 3) := by decide +kernel
theorem dX14_eventBytes_9 : decode cX14_eventBytes 9 = .ok (.iconst 1, 1) := by decide +kernel
theorem dX14_eventBytes_10 : decode cX14_eventBytes 10 = .ok (.goto 4, 3) := by decide +kernel
theorem dX14_eventBytes_13 : decode cX14_eventBytes 13 = .ok (.iconst 0, 1) := by decide +kernel
theorem dX14_eventBytes_14 : decode cX14_eventBytes 14 = .ok (.putfield 61, 3) := by decide +kernel
theorem dX14_eventBytes_17 : decode cX14_eventBytes 17 = .ok (.aload_n 0, 1) := by decide +kernel
theorem dX14_eventBytes_18 : decode cX14_eventBytes 18 = .ok (.getfield 61, 3) := by decide +kernel
theorem dX14_eventBytes_21 : decode cX14_eventBytes 21 = .ok (.ifCond .le 7, 3) := by decide +kernel
theorem dX14_eventBytes_24 : decode cX14_eventBytes 24 = .ok (.iconst 0, 1) := by decide +kernel
theorem dX14_eventBytes_25 : decode cX14_eventBytes 25 = .ok (.goto 9, 3) := by decide +kernel
theorem dX14_eventBytes_28 : decode cX14_eventBytes 28 = .ok (.aload_n 0, 1) := by decide +kernel
theorem dX14_eventBytes_29 : decode cX14_eventBytes 29 = .ok (.getfield 31, 3) := by decide +kernel
theorem dX14_eventBytes_32 : decode cX14_eventBytes 32 = .ok (.iconst 2, 1) := by decide +kernel
theorem dX14_eventBytes_33 : decode cX14_eventBytes 33 = .ok (.iaload, 1) := by decide +kernel
theorem dX14_eventBytes_34 : decode cX14_eventBytes 34 = .ok (.ireturn, 1) := by decide +kernel
set_option maxRecDepth 100000 in
set_option maxHeartbeats 4000000 in
theorem m_eventBytes (l : Launch) (D : va_G) (cy : Nat → ClassId) {eda ca : Nat} {ia : Nat → Nat} {σ : SG} {K : KM} {g : GH} {n S hw : Nat} (h : Inv eda ia K g n S hw σ) (sz : Nat) : sgM l D cy eda ca ia σ sz yX14_eventBytes (Cond.code yX14_eventBytes cX14_eventBytes 1 (some .int) :: mWall) 0 0 0 0 [.ref (kA K)] (fun v σ2 => (∃ y : Int32, v = some (.int y)) ∧ Inv eda ia K g n S hw σ2) := by
  refine sg_ofW (cc := cX14_eventBytes) (maxL := 1) (ret := (some .int)) (by decide) rfl (Nat.le_of_ble_eq_true rfl) (lv := [(0, .ref (kA K))]) rfl (fun p e s m below meth c ls H N hrt hnm F hB hl => ?_) sz
  have hx := F.1.1
  have hb := F.1.2.1
  have hown := F.1.2.2.2.1
  obtain ⟨ev, ev1, ev2, ev3⟩ := inv_ev h
  refine lv_aload_n hx hb dX14_eventBytes_0 rfl (lv_at hl 0 rfl) ?_
  refine lv_aload_n hx hb dX14_eventBytes_1 rfl (lv_at hl 0 rfl) ?_
  refine gr_X14_31 F hB dX14_eventBytes_2 (inv_A h) ev1 ?_
  refine sg_alen 0 hx hb F.2.1 hB.1 rfl dX14_eventBytes_5 ev2 ?_
  refine lv_if_ne (tgt := 13) hx hb dX14_eventBytes_6 (by decide) (fun c6 => ?_) (fun c6 => ?_)
  · refine lv_iconst (v := 0) hx hb dX14_eventBytes_13 (by decide) ?_
    refine pf_X14_61 F hB dX14_eventBytes_14 (inv_A h) (fun H locs hBn => ?_)
    clear hB; have hB := hBn; clear hBn
    have hI14 := inv_PIc (t := 20) hB h (inv_A h) (by unfold iCn; omega)
    refine lv_aload_n hx hb dX14_eventBytes_17 rfl (lv_at hl 0 rfl) ?_
    refine gf_X14_61 F hB dX14_eventBytes_18 (inv_A hI14) ?_
    rw [sgI_PI, if_pos ⟨rfl, rfl⟩]
    refine lv_if_le (tgt := 28) hx hb dX14_eventBytes_21 (by decide) (fun c21 => ?_) (fun c21 => (by first | exact absurd c21 (by decide) | exact (c21 (by decide)).elim))
    have ev4 : sgN σ ev = 3 := ev3.resolve_left (fun z => c6 (by rw [z]; rfl))
    refine lv_aload_n hx hb dX14_eventBytes_28 rfl (lv_at hl 0 rfl) ?_
    refine gr_X14_31 F hB dX14_eventBytes_29 (inv_A hI14) (by exact ev1) ?_
    refine lv_iconst (v := 2) hx hb dX14_eventBytes_32 (by decide) ?_
    refine sg_iald hx hb F.2.1 hB.1 dX14_eventBytes_33 (by exact ev2) (by decide) (m_ltN ev4 (by decide)) (m_ltM ev4 (by decide)) ?_
    exact sg_iret F hB hrt dX14_eventBytes_34 (by decide) (by decide) (⟨⟨_, rfl⟩, hI14⟩)
  · refine lv_iconst (v := 1) hx hb dX14_eventBytes_9 (by decide) ?_
    refine lv_goto (tgt := 14) hx hb dX14_eventBytes_10 (by decide) ?_
    refine pf_X14_61 F hB dX14_eventBytes_14 (inv_A h) (fun H locs hBn => ?_)
    clear hB; have hB := hBn; clear hBn
    have hI14 := inv_PIc (t := 20) hB h (inv_A h) (by unfold iCn; omega)
    refine lv_aload_n hx hb dX14_eventBytes_17 rfl (lv_at hl 0 rfl) ?_
    refine gf_X14_61 F hB dX14_eventBytes_18 (inv_A hI14) ?_
    rw [sgI_PI, if_pos ⟨rfl, rfl⟩]
    refine lv_if_le (tgt := 28) hx hb dX14_eventBytes_21 (by decide) (fun c21 => (by first | exact absurd c21 (by decide) | exact (c21 (by decide)).elim)) (fun c21 => ?_)
    refine lv_iconst (v := 0) hx hb dX14_eventBytes_24 (by decide) ?_
    refine lv_goto (tgt := 34) hx hb dX14_eventBytes_25 (by decide) ?_
    exact sg_iret F hB hrt dX14_eventBytes_34 (by decide) (by decide) (⟨⟨_, rfl⟩, hI14⟩)
theorem dX14_notYet_0 : decode cX14_notYet 0 = .ok (.aload_n 0, 1) := by decide +kernel
theorem dX14_notYet_1 : decode cX14_notYet 1 = .ok (.dup, 1) := by decide +kernel
theorem dX14_notYet_2 : decode cX14_notYet 2 = .ok (.getfield 381, 3) := by decide +kernel
theorem dX14_notYet_5 : decode cX14_notYet 5 = .ok (.iconst 1, 1) := by decide +kernel
theorem dX14_notYet_6 : decode cX14_notYet 6 = .ok (.iadd, 1) := by decide +kernel
theorem dX14_notYet_7 : decode cX14_notYet 7 = .ok (.putfield 381, 3) := by decide +kernel
theorem dX14_notYet_10 : decode cX14_notYet 10 = .ok (.iconst 2, 1) := by decide +kernel
theorem dX14_notYet_11 : decode cX14_notYet 11 = .ok (.ireturn, 1) := by decide +kernel
set_option maxRecDepth 100000 in
set_option maxHeartbeats 4000000 in
theorem m_notYet (l : Launch) (D : va_G) (cy : Nat → ClassId) {eda ca : Nat} {ia : Nat → Nat} {σ : SG} {K : KM} {g : GH} {n S hw : Nat} (h : Inv eda ia K g n S hw σ) (sz : Nat) : sgM l D cy eda ca ia σ sz yX14_notYet (Cond.code yX14_notYet cX14_notYet 1 (some .int) :: mWall) 0 0 0 0 [.ref (kA K)] (fun v σ2 => v = some (.int 2) ∧ Inv eda ia K g n S hw σ2 ∧ σ2 = sgPI σ (kA K) 16 (sgI σ (kA K) 16 + 1)) := by
  refine sg_ofW (cc := cX14_notYet) (maxL := 1) (ret := (some .int)) (by decide) rfl (Nat.le_of_ble_eq_true rfl) (lv := [(0, .ref (kA K))]) rfl (fun p e s m below meth c ls H N hrt hnm F hB hl => ?_) sz
  have hx := F.1.1
  have hb := F.1.2.1
  have hown := F.1.2.2.2.1
  refine lv_aload_n hx hb dX14_notYet_0 rfl (lv_at hl 0 rfl) ?_
  refine lv_dup hx hb dX14_notYet_1 rfl ?_
  refine gf_X14_381 F hB dX14_notYet_2 (inv_A h) ?_
  refine lv_iconst (v := 1) hx hb dX14_notYet_5 (by decide) ?_
  refine lv_iadd hx hb dX14_notYet_6 ?_
  refine pf_X14_381 F hB dX14_notYet_7 (inv_A h) (fun H locs hBn => ?_)
  clear hB; have hB := hBn; clear hBn
  have hI7 := inv_PIc (t := 20) hB h (inv_A h) (by unfold iCn; omega)
  refine lv_iconst (v := 2) hx hb dX14_notYet_10 (by decide) ?_
  exact sg_iret F hB hrt dX14_notYet_11 (by decide) (by decide) (⟨rfl, hI7, rfl⟩)
theorem dX12_isPeriodic_0 : decode cX12_isPeriodic 0 = .ok (.aload_n 0, 1) := by decide +kernel
theorem dX12_isPeriodic_1 : decode cX12_isPeriodic 1 = .ok (.getfield 32, 3) := by decide +kernel
theorem dX12_isPeriodic_4 : decode cX12_isPeriodic 4 = .ok (.bipush 98, 2) := by decide +kernel
theorem dX12_isPeriodic_6 : decode cX12_isPeriodic 6 = .ok (.if_icmp .eq 7, 3) := by decide +kernel
theorem dX12_isPeriodic_9 : decode cX12_isPeriodic 9 = .ok (.iconst 1, 1) := by decide +kernel
theorem dX12_isPeriodic_10 : decode cX12_isPeriodic 10 = .ok (.goto 4, 3) := by decide +kernel
theorem dX12_isPeriodic_13 : decode cX12_isPeriodic 13 = .ok (.iconst 0, 1) := by decide +kernel
theorem dX12_isPeriodic_14 : decode cX12_isPeriodic 14 = .ok (.ireturn, 1) := by decide +kernel
set_option maxRecDepth 100000 in
set_option maxHeartbeats 4000000 in
theorem m_isPer (l : Launch) (D : va_G) (cy : Nat → ClassId) {eda ca : Nat} {ia : Nat → Nat} {σ : SG} {p0 : Nat} (hp : sgT σ p0 = 18) (sz : Nat) : sgM l D cy eda ca ia σ sz yX12_isPeriodic (Cond.code yX12_isPeriodic cX12_isPeriodic 1 (some .boolean) :: mWall) 0 0 0 0 [.ref p0] (fun v σ2 => ∃ b : Int32, v = some (.int b) ∧ σ = σ2 ∧ sgb b (¬ sgI σ p0 2 = 98)) := by
  refine sg_ofW (cc := cX12_isPeriodic) (maxL := 1) (ret := (some .boolean)) (by decide) rfl (Nat.le_of_ble_eq_true rfl) (lv := [(0, .ref p0)]) rfl (fun p e s m below meth c ls H N hrt hnm F hB hl => ?_) sz
  have hx := F.1.1
  have hb := F.1.2.1
  have hown := F.1.2.2.2.1
  refine lv_aload_n hx hb dX12_isPeriodic_0 rfl (lv_at hl 0 rfl) ?_
  refine gf_X12_32 F hB dX12_isPeriodic_1 (by assumption) ?_
  refine lv_bipush (v := 98) hx hb dX12_isPeriodic_4 (by decide) ?_
  refine lv_icmp_eq (tgt := 13) hx hb dX12_isPeriodic_6 (by decide) (fun c6 => ?_) (fun c6 => ?_)
  · refine lv_iconst (v := 0) hx hb dX12_isPeriodic_13 (by decide) ?_
    exact sg_zret F hB hrt dX12_isPeriodic_14 (by decide) (by decide) rfl (by first | exact ⟨1, rfl, rfl, sgb_1 c6⟩ | exact ⟨0, rfl, rfl, sgb_0 (fun q => q c6)⟩)
  · refine lv_iconst (v := 1) hx hb dX12_isPeriodic_9 (by decide) ?_
    refine lv_goto (tgt := 14) hx hb dX12_isPeriodic_10 (by decide) ?_
    exact sg_zret F hB hrt dX12_isPeriodic_14 (by decide) (by decide) rfl (by first | exact ⟨1, rfl, rfl, sgb_1 c6⟩ | exact ⟨0, rfl, rfl, sgb_0 (fun q => q c6)⟩)
theorem dX14_driver_0 : decode cX14_driver 0 = .ok (.aload_n 0, 1) := by decide +kernel
theorem dX14_driver_1 : decode cX14_driver 1 = .ok (.iload_n 1, 1) := by decide +kernel
theorem dX14_driver_2 : decode cX14_driver 2 = .ok (.iconst 0, 1) := by decide +kernel
theorem dX14_driver_3 : decode cX14_driver 3 = .ok (.bipush 9, 2) := by decide +kernel
theorem dX14_driver_5 : decode cX14_driver 5 = .ok (.invokestatic 68, 3) := by decide +kernel
theorem dX14_driver_8 : decode cX14_driver 8 = .ok (.ifCond .eq 13, 3) := by decide +kernel
theorem dX14_driver_11 : decode cX14_driver 11 = .ok (.iload_n 2, 1) := by decide +kernel
theorem dX14_driver_12 : decode cX14_driver 12 = .ok (.iconst (-1), 1) := by decide +kernel
theorem dX14_driver_13 : decode cX14_driver 13 = .ok (.bipush 9, 2) := by decide +kernel
theorem dX14_driver_15 : decode cX14_driver 15 = .ok (.invokestatic 68, 3) := by decide +kernel
theorem dX14_driver_18 : decode cX14_driver 18 = .ok (.ifCond .ne 7, 3) := by decide +kernel
theorem dX14_driver_21 : decode cX14_driver 21 = .ok (.iconst 1, 1) := by decide +kernel
theorem dX14_driver_22 : decode cX14_driver 22 = .ok (.goto 20, 3) := by decide +kernel
theorem dX14_driver_25 : decode cX14_driver 25 = .ok (.aload_n 0, 1) := by decide +kernel
theorem dX14_driver_26 : decode cX14_driver 26 = .ok (.getfield 22, 3) := by decide +kernel
theorem dX14_driver_29 : decode cX14_driver 29 = .ok (.invokevirtual 64, 3) := by decide +kernel
theorem dX14_driver_32 : decode cX14_driver 32 = .ok (.bipush 8, 2) := by decide +kernel
theorem dX14_driver_34 : decode cX14_driver 34 = .ok (.if_icmp .ne 7, 3) := by decide +kernel
theorem dX14_driver_37 : decode cX14_driver 37 = .ok (.iconst 2, 1) := by decide +kernel
theorem dX14_driver_38 : decode cX14_driver 38 = .ok (.goto 4, 3) := by decide +kernel
theorem dX14_driver_41 : decode cX14_driver 41 = .ok (.iconst 0, 1) := by decide +kernel
theorem dX14_driver_42 : decode cX14_driver 42 = .ok (.putfield 61, 3) := by decide +kernel
theorem dX14_driver_45 : decode cX14_driver 45 = .ok (.aload_n 0, 1) := by decide +kernel
theorem dX14_driver_46 : decode cX14_driver 46 = .ok (.getfield 61, 3) := by decide +kernel
theorem dX14_driver_49 : decode cX14_driver 49 = .ok (.ifCond .le 5, 3) := by decide +kernel
theorem dX14_driver_52 : decode cX14_driver 52 = .ok (.iconst 0, 1) := by decide +kernel
theorem dX14_driver_53 : decode cX14_driver 53 = .ok (.ireturn, 1) := by decide +kernel
theorem dX14_driver_54 : decode cX14_driver 54 = .ok (.aload_n 0, 1) := by decide +kernel
theorem dX14_driver_55 : decode cX14_driver 55 = .ok (.getfield 22, 3) := by decide +kernel
theorem dX14_driver_58 : decode cX14_driver 58 = .ok (.iconst 2, 1) := by decide +kernel
theorem dX14_driver_59 : decode cX14_driver 59 = .ok (.newarray .int, 2) := by decide +kernel
theorem dX14_driver_61 : decode cX14_driver 61 = .ok (.dup, 1) := by decide +kernel
theorem dX14_driver_62 : decode cX14_driver 62 = .ok (.iconst 0, 1) := by decide +kernel
theorem dX14_driver_63 : decode cX14_driver 63 = .ok (.iload_n 1, 1) := by decide +kernel
theorem dX14_driver_64 : decode cX14_driver 64 = .ok (.iastore, 1) := by decide +kernel
theorem dX14_driver_65 : decode cX14_driver 65 = .ok (.dup, 1) := by decide +kernel
theorem dX14_driver_66 : decode cX14_driver 66 = .ok (.iconst 1, 1) := by decide +kernel
theorem dX14_driver_67 : decode cX14_driver 67 = .ok (.iload_n 2, 1) := by decide +kernel
theorem dX14_driver_68 : decode cX14_driver 68 = .ok (.iastore, 1) := by decide +kernel
theorem dX14_driver_69 : decode cX14_driver 69 = .ok (.invokevirtual 57, 3) := by decide +kernel
theorem dX14_driver_72 : decode cX14_driver 72 = .ok (.pop, 1) := by decide +kernel
theorem dX14_driver_73 : decode cX14_driver 73 = .ok (.aload_n 0, 1) := by decide +kernel
theorem dX14_driver_74 : decode cX14_driver 74 = .ok (.getfield 22, 3) := by decide +kernel
theorem dX14_driver_77 : decode cX14_driver 77 = .ok (.invokevirtual 64, 3) := by decide +kernel
theorem dX14_driver_80 : decode cX14_driver 80 = .ok (.iconst 1, 1) := by decide +kernel
theorem dX14_driver_81 : decode cX14_driver 81 = .ok (.isub, 1) := by decide +kernel
theorem dX14_driver_82 : decode cX14_driver 82 = .ok (.ireturn, 1) := by decide +kernel
set_option maxRecDepth 100000 in
set_option maxHeartbeats 4000000 in
theorem m_driver (l : Launch) (D : va_G) (cy : Nat → ClassId) {eda ca : Nat} {ia : Nat → Nat} {σ : SG} {K : KM} {g : GH} {n S hw : Nat} (h : Inv eda ia K g n S hw σ) (x y : Int32) (sz : Nat) : sgM l D cy eda ca ia σ sz yX14_driver (Cond.code yX14_driver cX14_driver 3 (some .int) :: mWall) 7 171 2 17 [.ref (kA K), .int x, .int y] (fun v σ2 => ∃ w : Int32, v = some (.int w) ∧ Inv eda ia K g n S hw σ2 ∧ (((¬ ((0 ≤ x.toInt ∧ x.toInt ≤ 9) ∧ (-1 ≤ y.toInt ∧ y.toInt ≤ 9))) ∧ sgI σ2 (kA K) 0 = 1 ∧ sgSz σ2 (kR K) = sgSz σ (kR K)) ∨ (((0 ≤ x.toInt ∧ x.toInt ≤ 9) ∧ (-1 ≤ y.toInt ∧ y.toInt ≤ 9)) ∧ sgSz σ (kR K) = 8 ∧ sgI σ2 (kA K) 0 = 2 ∧ sgSz σ2 (kR K) = sgSz σ (kR K)) ∨ (((0 ≤ x.toInt ∧ x.toInt ≤ 9) ∧ (-1 ≤ y.toInt ∧ y.toInt ≤ 9)) ∧ sgSz σ (kR K) < 8 ∧ sgI σ2 (kA K) 0 = 0 ∧ w.toInt = sgSz σ (kR K) ∧ sgSz σ2 (kR K) = sgSz σ (kR K) + 1))) := by
  refine sg_ofW (cc := cX14_driver) (maxL := 3) (ret := (some .int)) (by decide) rfl (Nat.le_of_ble_eq_true rfl) (lv := [(0, .ref (kA K)), (1, .int x), (2, .int y)]) rfl (fun p e s m below meth c ls H N hrt hnm F hB hl => ?_) sz
  have hx := F.1.1
  have hb := F.1.2.1
  have hown := F.1.2.2.2.1
  have hz := inv_szR h
  have m8 : (8 : Int32).toInt = 8 := rfl
  refine lv_aload_n hx hb dX14_driver_0 rfl (lv_at hl 0 rfl) ?_
  refine lv_iload_n hx hb dX14_driver_1 rfl (lv_at hl 1 rfl) ?_
  refine lv_iconst (v := 0) hx hb dX14_driver_2 (by decide) ?_
  refine lv_bipush (v := 9) hx hb dX14_driver_3 (by decide) ?_
  refine sg_callS F hB (m_in l D cy x 0 9 _) (cwS 3 F.1.2.2.2.2 (mgS (mm_3 _ (List.mem_of_getElem? (i := 21) rfl)) (mm_3 _ (List.mem_of_getElem? (i := 22) rfl)) (mm_3 _ (List.mem_of_getElem? (i := 23) rfl)) (mm_1 _ (List.mem_of_getElem? (i := 19) rfl))) rfl rfl rfl ⟨rfl, by decide, by decide, by decide +kernel⟩ ⟨Nat.le_of_ble_eq_true rfl, Nat.le_of_ble_eq_true rfl⟩) rfl hl.1 rfl (Nat.le_of_ble_eq_true rfl) dX14_driver_5 (Nat.le_of_ble_eq_true rfl) (Nat.add_le_add_right (Nat.le_of_ble_eq_true rfl) _)  (fun H locs v σ5 N hBn hX5 hP => ?_)
  clear hB; have hB := hBn; clear hBn
  obtain ⟨b5, rfl, rfl, hb5⟩ := hP
  refine lv_if_eq (tgt := 21) hx hb dX14_driver_8 (by decide) (fun c8 => ?_) (fun c8 => ?_)
  · refine lv_iconst (v := 1) hx hb dX14_driver_21 (by decide) ?_
    refine lv_goto (tgt := 42) hx hb dX14_driver_22 (by decide) ?_
    refine pf_X14_61 F hB dX14_driver_42 (inv_A h) (fun H locs hBn => ?_)
    clear hB; have hB := hBn; clear hBn
    have hI42 := inv_PIc (t := 20) hB h (inv_A h) (by unfold iCn; omega)
    refine lv_aload_n hx hb dX14_driver_45 rfl (lv_at hl 0 rfl) ?_
    refine gf_X14_61 F hB dX14_driver_46 (inv_A hI42) ?_
    rw [sgI_PI, if_pos ⟨rfl, rfl⟩]
    refine lv_if_le (tgt := 54) hx hb dX14_driver_49 (by decide) (fun c49 => (by first | exact absurd c49 (by decide) | exact (c49 (by decide)).elim)) (fun c49 => ?_)
    refine lv_iconst (v := 0) hx hb dX14_driver_52 (by decide) ?_
    exact sg_iret F hB hrt dX14_driver_53 (by decide) (by decide) (by first | exact ⟨_, rfl, hI42, Or.inl ⟨fun q => sgb_f hb5 c8 q.1, by rw [sgI_PI, if_pos ⟨rfl, rfl⟩], sgSz_nk (by decide)⟩⟩ | exact ⟨_, rfl, hI42, Or.inl ⟨fun q => sgb_f hb15 c18 q.2, by rw [sgI_PI, if_pos ⟨rfl, rfl⟩], sgSz_nk (by decide)⟩⟩ | exact ⟨_, rfl, hI42, Or.inr (Or.inl ⟨⟨sgb_t hb5 c8, sgb_t hb15 c18⟩, (by have := m_eqI c34; omega), by rw [sgI_PI, if_pos ⟨rfl, rfl⟩], sgSz_nk (by decide)⟩)⟩)
  · refine lv_iload_n hx hb dX14_driver_11 rfl (lv_at hl 2 rfl) ?_
    refine lv_iconst (v := (-1)) hx hb dX14_driver_12 (by decide) ?_
    refine lv_bipush (v := 9) hx hb dX14_driver_13 (by decide) ?_
    refine sg_callS F hB (m_in l D cy y (-1) 9 _) (cwS 3 F.1.2.2.2.2 (mgS (mm_3 _ (List.mem_of_getElem? (i := 21) rfl)) (mm_3 _ (List.mem_of_getElem? (i := 22) rfl)) (mm_3 _ (List.mem_of_getElem? (i := 23) rfl)) (mm_1 _ (List.mem_of_getElem? (i := 19) rfl))) rfl rfl rfl ⟨rfl, by decide, by decide, by decide +kernel⟩ ⟨Nat.le_of_ble_eq_true rfl, Nat.le_of_ble_eq_true rfl⟩) rfl hl.1 rfl (Nat.le_of_ble_eq_true rfl) dX14_driver_15 (Nat.le_of_ble_eq_true rfl) (Nat.add_le_add_right (Nat.le_of_ble_eq_true rfl) _)  (fun H locs v σ15 N hBn hX15 hP => ?_)
    clear hB; have hB := hBn; clear hBn
    obtain ⟨b15, rfl, rfl, hb15⟩ := hP
    refine lv_if_ne (tgt := 25) hx hb dX14_driver_18 (by decide) (fun c18 => ?_) (fun c18 => ?_)
    · refine lv_aload_n hx hb dX14_driver_25 rfl (lv_at hl 0 rfl) ?_
      refine gr_X14_22 F hB dX14_driver_26 (inv_A h) (inv_r3 h) ?_
      refine sg_callV (ci := 4) F hB (m_size l D cy (by exact (inv_tR h).1) _) (cwV 0 F.1.2.2.2.2 (mgV (mm_3 _ (List.mem_of_getElem? (i := 18) rfl)) (mm_3 _ (List.mem_of_getElem? (i := 19) rfl)) (mm_3 _ (List.mem_of_getElem? (i := 20) rfl)) (mm_0 _ (List.mem_of_getElem? (i := 35) rfl)) (mm_3 _ (List.mem_of_getElem? (i := 16) rfl))) rfl rfl rfl ⟨rfl, by decide, by decide, by decide +kernel⟩ ⟨Nat.le_of_ble_eq_true rfl, Nat.le_of_ble_eq_true rfl⟩) rfl rfl (by decide) rfl hl.1 rfl (Nat.le_of_ble_eq_true rfl) dX14_driver_29 (Nat.le_of_ble_eq_true rfl) (Nat.add_le_add_right (Nat.le_of_ble_eq_true rfl) _) (inv_tR h).1 (fun H locs v σ29 N hBn hX29 hP => ?_)
      clear hB; have hB := hBn; clear hBn
      obtain ⟨rfl, rfl⟩ := hP
      refine lv_bipush (v := 8) hx hb dX14_driver_32 (by decide) ?_
      refine lv_icmp_ne (tgt := 41) hx hb dX14_driver_34 (by decide) (fun c34 => ?_) (fun c34 => ?_)
      · refine lv_iconst (v := 0) hx hb dX14_driver_41 (by decide) ?_
        refine pf_X14_61 F hB dX14_driver_42 (inv_A h) (fun H locs hBn => ?_)
        clear hB; have hB := hBn; clear hBn
        have hI42 := inv_PIc (t := 20) hB h (inv_A h) (by unfold iCn; omega)
        refine lv_aload_n hx hb dX14_driver_45 rfl (lv_at hl 0 rfl) ?_
        refine gf_X14_61 F hB dX14_driver_46 (inv_A hI42) ?_
        rw [sgI_PI, if_pos ⟨rfl, rfl⟩]
        refine lv_if_le (tgt := 54) hx hb dX14_driver_49 (by decide) (fun c49 => ?_) (fun c49 => (by first | exact absurd c49 (by decide) | exact (c49 (by decide)).elim))
        refine lv_aload_n hx hb dX14_driver_54 rfl (lv_at hl 0 rfl) ?_
        refine gr_X14_22 F hB dX14_driver_55 (inv_A hI42) (inv_r3 hI42) ?_
        refine lv_iconst (v := 2) hx hb dX14_driver_58 (by decide) ?_
        refine sg_newa 0 (atype := .int) (ty := .int) (N' := 2) F hB (F.1.2.2.2.2 _ (List.mem_cons_of_mem _ (mm_0 _ (List.mem_of_getElem? (i := 11) rfl)))) rfl rfl (fun C z => by cases z) rfl (fun _ => rfl) (by decide) rfl (by decide) (Nat.le_of_ble_eq_true rfl) (Nat.add_le_add_right (Nat.le_of_ble_eq_true rfl) _) dX14_driver_59 (fun q59 H N hq59 hs59 hBn => ?_)
        clear hB; have hB := hBn; clear hBn
        obtain ⟨hQ59, tq59, nq59⟩ := sgB_nwf hB hq59 (by decide)
        have hI59 := inv_Qt hI42 hQ59 (sg_eda F hB)
        refine lv_dup hx hb dX14_driver_61 rfl ?_
        refine lv_iconst (v := 0) hx hb dX14_driver_62 (by decide) ?_
        refine lv_iload_n hx hb dX14_driver_63 rfl (lv_at hl 1 rfl) ?_
        refine sg_iast hx hb F.2.1 hB.1 dX14_driver_64 tq59 (by decide) (m_ltN nq59 (by decide)) (m_ltM nq59 (by decide)) (fun H locs hs1 => ?_)
        have hBn := sgB_w hB hs1 (fun _ => rfl) (fun _ => rfl) (Nat.le_of_eq (sgPot_I (Or.inl (by rw [show sgT _ _ = _ from tq59]; decide))))
        clear hB; have hB := hBn; clear hBn
        have hI64 := inv_PIc (t := 100) hB hI59 tq59 (by unfold iCn; omega)
        refine lv_dup hx hb dX14_driver_65 rfl ?_
        refine lv_iconst (v := 1) hx hb dX14_driver_66 (by decide) ?_
        refine lv_iload_n hx hb dX14_driver_67 rfl (lv_at hl 2 rfl) ?_
        refine sg_iast hx hb F.2.1 hB.1 dX14_driver_68 (by exact tq59) (by decide) (m_ltN nq59 (by decide)) (m_ltM nq59 (by decide)) (fun H locs hs1 => ?_)
        have hBn := sgB_w hB hs1 (fun _ => rfl) (fun _ => rfl) (Nat.le_of_eq (sgPot_I (Or.inl (by rw [show sgT _ _ = _ from (by exact tq59)]; decide))))
        clear hB; have hB := hBn; clear hBn
        have hI68 := inv_PIc (t := 100) hB hI64 (by exact tq59) (by unfold iCn; omega)
        obtain ⟨ra69, za69, zb69⟩ := (inv_LS hI68).1 _ (inv_tR hI68).1 id
        refine sg_callV (ci := 4) F hB (m_add l D cy za69 (fun j y h1 h2 => (inv_LS hI68).2.2.1 ra69 j y h1 h2) q59 (iEl_K (l0 := _) (g := g) (j := 0) (by unfold iEl; rw [(inv_tR hI68).2]; exact ⟨tq59, nq59⟩)) zb69 _) (cwV 1 F.1.2.2.2.2 (mgV (mm_3 _ (List.mem_of_getElem? (i := 9) rfl)) (mm_3 _ (List.mem_of_getElem? (i := 10) rfl)) (mm_3 _ (List.mem_of_getElem? (i := 11) rfl)) (mm_0 _ (List.mem_of_getElem? (i := 35) rfl)) (mm_2 _ (List.mem_of_getElem? (i := 29) rfl))) rfl rfl rfl ⟨rfl, by decide, by decide, by decide +kernel⟩ ⟨Nat.le_of_ble_eq_true rfl, Nat.le_of_ble_eq_true rfl⟩) rfl rfl (by decide) rfl hl.1 rfl (Nat.le_of_ble_eq_true rfl) dX14_driver_69 (Nat.le_of_ble_eq_true rfl) (Nat.add_le_add_right (Nat.le_of_ble_eq_true rfl) _) (inv_tR hI68).1 (fun H locs v σ69 N hBn hX69 hP => ?_)
        clear hB; have hB := hBn; clear hBn
        obtain ⟨rfl, hAd69⟩ := hP
        obtain ⟨hI69, ada69, adb69, adc69, add69, ade69, adf69, adg69, adh69⟩ := inv_ad hI68 (inv_tR hI68).1 za69 hAd69 (sg_eda F hB) (by unfold iEl; rw [(inv_tR hI68).2]; exact ⟨tq59, nq59⟩) (by rw [(inv_tR hI68).2]; show _ ≤ 8; rw [sgSz_nk (k := (Int32.toInt 1).toNat) (by decide), sgSz_nk (k := (Int32.toInt 0).toNat) (by decide), sgSz_Qt hQ59 (inv_tR hI42).1, sgSz_nk (k := 0) (by decide)]; have q := m_neI c34; omega) (Or.inl ⟨inv_nD hI68 (by rw [(inv_tR hI68).2]; decide), rfl⟩) (nr7 (inv_tR hI68).2 (by decide))
        refine lv_pop hx hb dX14_driver_72 rfl ?_
        refine lv_aload_n hx hb dX14_driver_73 rfl (lv_at hl 0 rfl) ?_
        refine gr_X14_22 F hB dX14_driver_74 (inv_A hI69) (inv_r3 hI69) ?_
        refine sg_callV (ci := 4) F hB (m_size l D cy (by exact (inv_tR hI69).1) _) (cwV 0 F.1.2.2.2.2 (mgV (mm_3 _ (List.mem_of_getElem? (i := 18) rfl)) (mm_3 _ (List.mem_of_getElem? (i := 19) rfl)) (mm_3 _ (List.mem_of_getElem? (i := 20) rfl)) (mm_0 _ (List.mem_of_getElem? (i := 35) rfl)) (mm_3 _ (List.mem_of_getElem? (i := 16) rfl))) rfl rfl rfl ⟨rfl, by decide, by decide, by decide +kernel⟩ ⟨Nat.le_of_ble_eq_true rfl, Nat.le_of_ble_eq_true rfl⟩) rfl rfl (by decide) rfl hl.1 rfl (Nat.le_of_ble_eq_true rfl) dX14_driver_77 (Nat.le_of_ble_eq_true rfl) (Nat.add_le_add_right (Nat.le_of_ble_eq_true rfl) _) (inv_tR hI69).1 (fun H locs v σ77 N hBn hX77 hP => ?_)
        clear hB; have hB := hBn; clear hBn
        obtain ⟨rfl, rfl⟩ := hP
        refine lv_iconst (v := 1) hx hb dX14_driver_80 (by decide) ?_
        refine lv_isub hx hb dX14_driver_81 ?_
        exact sg_iret F hB hrt dX14_driver_82 (by decide) (by decide) (by
          have hk9 : ¬ kA K = q59 := fun z => by have := inv_A hI42; rw [z] at this; exact absurd (this.symm.trans hq59) (by decide)
          have qz := m_neI c34
          have e9 := ada69
          rw [sgSz_nk, sgSz_nk, sgSz_Qt hQ59 (inv_tR hI42).1, sgSz_nk] at e9
          · have e8 := (inv_szR hI69).1
            refine ⟨_, rfl, hI69, Or.inr (Or.inr ⟨⟨sgb_t hb5 c8, sgb_t hb15 c18⟩, by omega, ?_, ?_, by omega⟩)⟩
            · rw [adf69 _ _ (by rw [inv_A hI68]; decide) (by rw [inv_A hI68]; decide), sgI_PI, if_neg (fun z => hk9 z.1), sgI_PI, if_neg (fun z => hk9 z.1), ((hQ59.1 _ (by rw [inv_A hI42]; decide)).2.2 0).1, sgI_PI, if_pos ⟨rfl, rfl⟩]
            · rw [m_sub1 (by omega) (by omega)]; omega
          all_goals decide)
      · refine lv_iconst (v := 2) hx hb dX14_driver_37 (by decide) ?_
        refine lv_goto (tgt := 42) hx hb dX14_driver_38 (by decide) ?_
        refine pf_X14_61 F hB dX14_driver_42 (inv_A h) (fun H locs hBn => ?_)
        clear hB; have hB := hBn; clear hBn
        have hI42 := inv_PIc (t := 20) hB h (inv_A h) (by unfold iCn; omega)
        refine lv_aload_n hx hb dX14_driver_45 rfl (lv_at hl 0 rfl) ?_
        refine gf_X14_61 F hB dX14_driver_46 (inv_A hI42) ?_
        rw [sgI_PI, if_pos ⟨rfl, rfl⟩]
        refine lv_if_le (tgt := 54) hx hb dX14_driver_49 (by decide) (fun c49 => (by first | exact absurd c49 (by decide) | exact (c49 (by decide)).elim)) (fun c49 => ?_)
        refine lv_iconst (v := 0) hx hb dX14_driver_52 (by decide) ?_
        exact sg_iret F hB hrt dX14_driver_53 (by decide) (by decide) (by first | exact ⟨_, rfl, hI42, Or.inl ⟨fun q => sgb_f hb5 c8 q.1, by rw [sgI_PI, if_pos ⟨rfl, rfl⟩], sgSz_nk (by decide)⟩⟩ | exact ⟨_, rfl, hI42, Or.inl ⟨fun q => sgb_f hb15 c18 q.2, by rw [sgI_PI, if_pos ⟨rfl, rfl⟩], sgSz_nk (by decide)⟩⟩ | exact ⟨_, rfl, hI42, Or.inr (Or.inl ⟨⟨sgb_t hb5 c8, sgb_t hb15 c18⟩, (by have := m_eqI c34; omega), by rw [sgI_PI, if_pos ⟨rfl, rfl⟩], sgSz_nk (by decide)⟩)⟩)
    · refine lv_iconst (v := 1) hx hb dX14_driver_21 (by decide) ?_
      refine lv_goto (tgt := 42) hx hb dX14_driver_22 (by decide) ?_
      refine pf_X14_61 F hB dX14_driver_42 (inv_A h) (fun H locs hBn => ?_)
      clear hB; have hB := hBn; clear hBn
      have hI42 := inv_PIc (t := 20) hB h (inv_A h) (by unfold iCn; omega)
      refine lv_aload_n hx hb dX14_driver_45 rfl (lv_at hl 0 rfl) ?_
      refine gf_X14_61 F hB dX14_driver_46 (inv_A hI42) ?_
      rw [sgI_PI, if_pos ⟨rfl, rfl⟩]
      refine lv_if_le (tgt := 54) hx hb dX14_driver_49 (by decide) (fun c49 => (by first | exact absurd c49 (by decide) | exact (c49 (by decide)).elim)) (fun c49 => ?_)
      refine lv_iconst (v := 0) hx hb dX14_driver_52 (by decide) ?_
      exact sg_iret F hB hrt dX14_driver_53 (by decide) (by decide) (by first | exact ⟨_, rfl, hI42, Or.inl ⟨fun q => sgb_f hb5 c8 q.1, by rw [sgI_PI, if_pos ⟨rfl, rfl⟩], sgSz_nk (by decide)⟩⟩ | exact ⟨_, rfl, hI42, Or.inl ⟨fun q => sgb_f hb15 c18 q.2, by rw [sgI_PI, if_pos ⟨rfl, rfl⟩], sgSz_nk (by decide)⟩⟩ | exact ⟨_, rfl, hI42, Or.inr (Or.inl ⟨⟨sgb_t hb5 c8, sgb_t hb15 c18⟩, (by have := m_eqI c34; omega), by rw [sgI_PI, if_pos ⟨rfl, rfl⟩], sgSz_nk (by decide)⟩)⟩)
end MM17
