section MM33
theorem nw_k {σ : SG} {a t q t2 n9 : Nat} (h : sgT σ a = t) (h0 : t ≠ 0) (hq : sgT σ q = 0) : sgT (sgNw σ q t2 n9) a = t := by
  rw [sgNw_T, if_neg (fun z => h0 (by rw [← h, z, hq]))]
  exact h
/-- a Device as its constructor leaves it -/
def dvT (σ : SG) (d e f h : Nat) (sp po pw ow ki : Int32) : SG := sgPI (sgPI (sgPI (sgPI (sgPI (sgPI (sgPR (sgNw (sgPR (sgNw (sgPR (sgNw (sgPI (sgPI (sgPI σ d 6 117) d 7 (-1)) d 10 (-1)) e 108 4) d 13 (some e)) f 101 4) d 14 (some f)) h 100 4) d 15 (some h)) d 0 sp) d 1 po) d 2 pw) d 3 ow) d 4 ki) d 5 pw
/-- a Transfer -/
def trT (σ : SG) (t b : Nat) (m : Int32) : SG := sgPI (sgPR σ t 0 (some b)) t 1 m
/-- an End -/
def enT (eda : Nat) (σ : SG) (x l : Nat) (i gr : Int32) : SG := sgPI (sgPI (sgPI (sgPR (sgPR (sgPI (sgNw σ l 5 0) l 0 0) l 1 (some eda)) x 3 (some l)) x 4 (-1)) x 0 i) x 1 gr
/-- a Pipe -/
def ppT (eda : Nat) (σ : SG) (p l : Nat) (dv ep ki iv : Int32) : SG := sgPI (sgPI (sgPI (sgPI (sgPR (sgPR (sgPI (sgNw (sgPI (sgPI σ p 4 (-1)) p 8 32) l 5 0) l 0 0) l 1 (some eda)) p 9 (some l)) p 0 dv) p 1 ep) p 2 ki) p 3 iv
theorem dX10_init_0 : decode cX10_init 0 = .ok (.aload_n 0, 1) := by decide +kernel
theorem dX10_init_1 : decode cX10_init 1 = .ok (.invokespecial 3, 3) := by decide +kernel
theorem dX10_init_4 : decode cX10_init 4 = .ok (.aload_n 0, 1) := by decide +kernel
theorem dX10_init_5 : decode cX10_init 5 = .ok (.bipush 117, 2) := by decide +kernel
theorem dX10_init_7 : decode cX10_init 7 = .ok (.putfield 9, 3) := by decide +kernel
theorem dX10_init_10 : decode cX10_init 10 = .ok (.aload_n 0, 1) := by decide +kernel
theorem dX10_init_11 : decode cX10_init 11 = .ok (.iconst (-1), 1) := by decide +kernel
theorem dX10_init_12 : decode cX10_init 12 = .ok (.putfield 15, 3) := by decide +kernel
theorem dX10_init_15 : decode cX10_init 15 = .ok (.aload_n 0, 1) := by decide +kernel
theorem dX10_init_16 : decode cX10_init 16 = .ok (.iconst (-1), 1) := by decide +kernel
theorem dX10_init_17 : decode cX10_init 17 = .ok (.putfield 19, 3) := by decide +kernel
theorem dX10_init_20 : decode cX10_init 20 = .ok (.aload_n 0, 1) := by decide +kernel
theorem dX10_init_21 : decode cX10_init 21 = .ok (.iconst 4, 1) := by decide +kernel
theorem dX10_init_22 : decode cX10_init 22 = .ok (.anewarray 22, 3) := by decide +kernel
theorem dX10_init_25 : decode cX10_init 25 = .ok (.putfield 24, 3) := by decide +kernel
theorem dX10_init_28 : decode cX10_init 28 = .ok (.aload_n 0, 1) := by decide +kernel
theorem dX10_init_29 : decode cX10_init 29 = .ok (.iconst 4, 1) := by decide +kernel
theorem dX10_init_30 : decode cX10_init 30 = .ok (.newarray .char, 2) := by decide +kernel
theorem dX10_init_32 : decode cX10_init 32 = .ok (.putfield 28, 3) := by decide +kernel
theorem dX10_init_35 : decode cX10_init 35 = .ok (.aload_n 0, 1) := by decide +kernel
theorem dX10_init_36 : decode cX10_init 36 = .ok (.iconst 4, 1) := by decide +kernel
theorem dX10_init_37 : decode cX10_init 37 = .ok (.newarray .int, 2) := by decide +kernel
theorem dX10_init_39 : decode cX10_init 39 = .ok (.putfield 32, 3) := by decide +kernel
theorem dX10_init_42 : decode cX10_init 42 = .ok (.aload_n 0, 1) := by decide +kernel
theorem dX10_init_43 : decode cX10_init 43 = .ok (.iload_n 1, 1) := by decide +kernel
theorem dX10_init_44 : decode cX10_init 44 = .ok (.putfield 36, 3) := by decide +kernel
theorem dX10_init_47 : decode cX10_init 47 = .ok (.aload_n 0, 1) := by decide +kernel
theorem dX10_init_48 : decode cX10_init 48 = .ok (.iload_n 2, 1) := by decide +kernel
theorem dX10_init_49 : decode cX10_init 49 = .ok (.putfield 39, 3) := by decide +kernel
theorem dX10_init_52 : decode cX10_init 52 = .ok (.aload_n 0, 1) := by decide +kernel
theorem dX10_init_53 : decode cX10_init 53 = .ok (.iload_n 3, 1) := by decide +kernel
theorem dX10_init_54 : decode cX10_init 54 = .ok (.putfield 42, 3) := by decide +kernel
theorem dX10_init_57 : decode cX10_init 57 = .ok (.aload_n 0, 1) := by decide +kernel
theorem dX10_init_58 : decode cX10_init 58 = .ok (.iload 4, 2) := by decide +kernel
theorem dX10_init_60 : decode cX10_init 60 = .ok (.putfield 45, 3) := by decide +kernel
theorem dX10_init_63 : decode cX10_init 63 = .ok (.aload_n 0, 1) := by decide +kernel
theorem dX10_init_64 : decode cX10_init 64 = .ok (.iload 5, 2) := by decide +kernel
theorem dX10_init_66 : decode cX10_init 66 = .ok (.putfield 49, 3) := by decide +kernel
theorem dX10_init_69 : decode cX10_init 69 = .ok (.aload_n 0, 1) := by decide +kernel
theorem dX10_init_70 : decode cX10_init 70 = .ok (.iload_n 3, 1) := by decide +kernel
theorem dX10_init_71 : decode cX10_init 71 = .ok (.putfield 52, 3) := by decide +kernel
theorem dX10_init_74 : decode cX10_init 74 = .ok (.return_, 1) := by decide +kernel
set_option maxRecDepth 100000 in
set_option maxHeartbeats 4000000 in
theorem m_dvI (l : Launch) (D : va_G) (cy : Nat → ClassId) {eda ca : Nat} {ia : Nat → Nat} {σ : SG} {d : Nat} (td : sgT σ d = 16) (sp po pw ow ki : Int32) (hsp : 0 ≤ sp.toInt ∧ sp.toInt ≤ 65535) (how : 0 ≤ ow.toInt ∧ ow.toInt ≤ 1) (sz : Nat) : sgM l D cy eda ca ia σ sz yX10_init (Cond.code yX10_init cX10_init 6 none :: mWall) 1 14 3 12 [.ref d, .int sp, .int po, .int pw, .int ow, .int ki] (fun v σ2 => v = none ∧ ∃ e f h : Nat, sgT σ e = 0 ∧ sgT (sgNw σ e 108 4) f = 0 ∧ sgT (sgNw (sgNw σ e 108 4) f 101 4) h = 0 ∧ dvT σ d e f h sp po pw ow ki = σ2) := by
  refine sg_ofW (cc := cX10_init) (maxL := 6) (ret := none) (by decide) rfl (Nat.le_of_ble_eq_true rfl) (lv := [(0, .ref d), (1, .int sp), (2, .int po), (3, .int pw), (4, .int ow), (5, .int ki)]) rfl (fun p e s m below meth c ls H N hrt hnm F hB hl => ?_) sz
  have hx := F.1.1
  have hb := F.1.2.1
  have hown := F.1.2.2.2.1
  refine lv_aload_n hx hb dX10_init_0 rfl (lv_at hl 0 rfl) ?_
  refine W.objInit hx hb hown (F.1.2.2.2.2 _ (List.mem_cons_of_mem _ (mm_0 _ (List.mem_of_getElem? (i := 1) rfl)))) (F.1.2.2.2.2 _ (List.mem_cons_of_mem _ (mm_0 _ (List.mem_of_getElem? (i := 2) rfl)))) (F.1.2.2.2.2 _ (List.mem_cons_of_mem _ (mm_0 _ (List.mem_of_getElem? (i := 3) rfl)))) rfl (by rw [F.1.2.2.1]; exact hl.1) rfl dX10_init_1 (Nat.le_of_ble_eq_true rfl) (Nat.le_of_ble_eq_true rfl) ?_
  refine lv_aload_n hx hb dX10_init_4 rfl (lv_at hl 0 rfl) ?_
  refine lv_bipush (v := 117) hx hb dX10_init_5 (by decide) ?_
  refine pf_X10_9 F hB dX10_init_7 (by exact td) ⟨by decide, by decide⟩ (fun H locs hBn => ?_)
  clear hB; have hB := hBn; clear hBn
  refine lv_aload_n hx hb dX10_init_10 rfl (lv_at hl 0 rfl) ?_
  refine lv_iconst (v := (-1)) hx hb dX10_init_11 (by decide) ?_
  refine pf_X10_15 F hB dX10_init_12 (by exact td) (fun H locs hBn => ?_)
  clear hB; have hB := hBn; clear hBn
  refine lv_aload_n hx hb dX10_init_15 rfl (lv_at hl 0 rfl) ?_
  refine lv_iconst (v := (-1)) hx hb dX10_init_16 (by decide) ?_
  refine pf_X10_19 F hB dX10_init_17 (by exact td) (fun H locs hBn => ?_)
  clear hB; have hB := hBn; clear hBn
  refine lv_aload_n hx hb dX10_init_20 rfl (lv_at hl 0 rfl) ?_
  refine lv_iconst (v := 4) hx hb dX10_init_21 (by decide) ?_
  refine sg_newq 8 (N' := 4) F hB (F.1.2.2.2.2 _ (List.mem_cons_of_mem _ (mm_0 _ (List.mem_of_getElem? (i := 7) rfl)))) (by decide +kernel) rfl rfl (by decide) rfl (by decide) (Nat.le_of_ble_eq_true rfl) (Nat.add_le_add_right (Nat.le_of_ble_eq_true rfl) _) dX10_init_22 (fun q22 H N hq22 hs22 hBn => ?_)
  clear hB; have hB := hBn; clear hBn
  have td2 : sgT (sgNw σ q22 108 4) d = 16 := nw_k td (by decide) hq22
  refine pr_X10_24 F hB dX10_init_25 (by exact td2) hnm (fun H locs hBn => ?_)
  clear hB; have hB := hBn; clear hBn
  refine lv_aload_n hx hb dX10_init_28 rfl (lv_at hl 0 rfl) ?_
  refine lv_iconst (v := 4) hx hb dX10_init_29 (by decide) ?_
  refine sg_newa 1 (atype := .char) (ty := .char) (N' := 4) F hB (F.1.2.2.2.2 _ (List.mem_cons_of_mem _ (mm_0 _ (List.mem_of_getElem? (i := 9) rfl)))) rfl rfl (fun C z => by cases z) rfl (fun _ => rfl) (by decide) rfl (by decide) (Nat.le_of_ble_eq_true rfl) (Nat.add_le_add_right (Nat.le_of_ble_eq_true rfl) _) dX10_init_30 (fun q30 H N hq30 hs30 hBn => ?_)
  clear hB; have hB := hBn; clear hBn
  have td3 : sgT (sgNw (sgNw σ q22 108 4) q30 101 4) d = 16 := nw_k td2 (by decide) hq30
  refine pr_X10_28 F hB dX10_init_32 (by exact td3) hnm (fun H locs hBn => ?_)
  clear hB; have hB := hBn; clear hBn
  refine lv_aload_n hx hb dX10_init_35 rfl (lv_at hl 0 rfl) ?_
  refine lv_iconst (v := 4) hx hb dX10_init_36 (by decide) ?_
  refine sg_newa 0 (atype := .int) (ty := .int) (N' := 4) F hB (F.1.2.2.2.2 _ (List.mem_cons_of_mem _ (mm_0 _ (List.mem_of_getElem? (i := 11) rfl)))) rfl rfl (fun C z => by cases z) rfl (fun _ => rfl) (by decide) rfl (by decide) (Nat.le_of_ble_eq_true rfl) (Nat.add_le_add_right (Nat.le_of_ble_eq_true rfl) _) dX10_init_37 (fun q37 H N hq37 hs37 hBn => ?_)
  clear hB; have hB := hBn; clear hBn
  obtain ⟨hQ37, tq37, nq37⟩ := sgB_nwf hB hq37 (by decide)
  have td4 : sgT (sgNw (sgNw (sgNw σ q22 108 4) q30 101 4) q37 100 4) d = 16 := nw_k td3 (by decide) hq37
  refine pr_X10_32 F hB dX10_init_39 (by exact td4) hnm (fun H locs hBn => ?_)
  clear hB; have hB := hBn; clear hBn
  refine lv_aload_n hx hb dX10_init_42 rfl (lv_at hl 0 rfl) ?_
  refine lv_iload_n hx hb dX10_init_43 rfl (lv_at hl 1 rfl) ?_
  refine pf_X10_36 F hB dX10_init_44 (by exact td4) hsp hnm (fun H locs hBn => ?_)
  clear hB; have hB := hBn; clear hBn
  refine lv_aload_n hx hb dX10_init_47 rfl (lv_at hl 0 rfl) ?_
  refine lv_iload_n hx hb dX10_init_48 rfl (lv_at hl 2 rfl) ?_
  refine pf_X10_39 F hB dX10_init_49 (by exact td4) hnm (fun H locs hBn => ?_)
  clear hB; have hB := hBn; clear hBn
  refine lv_aload_n hx hb dX10_init_52 rfl (lv_at hl 0 rfl) ?_
  refine lv_iload_n hx hb dX10_init_53 rfl (lv_at hl 3 rfl) ?_
  refine pf_X10_42 F hB dX10_init_54 (by exact td4) hnm (fun H locs hBn => ?_)
  clear hB; have hB := hBn; clear hBn
  refine lv_aload_n hx hb dX10_init_57 rfl (lv_at hl 0 rfl) ?_
  refine lv_iload hx hb dX10_init_58 (lv_at hl 4 rfl) ?_
  refine pf_X10_45 F hB dX10_init_60 (by exact td4) how hnm (fun H locs hBn => ?_)
  clear hB; have hB := hBn; clear hBn
  refine lv_aload_n hx hb dX10_init_63 rfl (lv_at hl 0 rfl) ?_
  refine lv_iload hx hb dX10_init_64 (lv_at hl 5 rfl) ?_
  refine pf_X10_49 F hB dX10_init_66 (by exact td4) hnm (fun H locs hBn => ?_)
  clear hB; have hB := hBn; clear hBn
  refine lv_aload_n hx hb dX10_init_69 rfl (lv_at hl 0 rfl) ?_
  refine lv_iload_n hx hb dX10_init_70 rfl (lv_at hl 3 rfl) ?_
  refine pf_X10_52 F hB dX10_init_71 (by exact td4) (fun H locs hBn => ?_)
  clear hB; have hB := hBn; clear hBn
  exact sg_vret F hB hrt dX10_init_74 (by decide) (by decide) (⟨rfl, q22, q30, q37, hq22, hq30, hq37, rfl⟩)
theorem dX13_init_0 : decode cX13_init 0 = .ok (.aload_n 0, 1) := by decide +kernel
theorem dX13_init_1 : decode cX13_init 1 = .ok (.invokespecial 1, 3) := by decide +kernel
theorem dX13_init_4 : decode cX13_init 4 = .ok (.aload_n 0, 1) := by decide +kernel
theorem dX13_init_5 : decode cX13_init 5 = .ok (.aload_n 1, 1) := by decide +kernel
theorem dX13_init_6 : decode cX13_init 6 = .ok (.putfield 7, 3) := by decide +kernel
theorem dX13_init_9 : decode cX13_init 9 = .ok (.aload_n 0, 1) := by decide +kernel
theorem dX13_init_10 : decode cX13_init 10 = .ok (.iload_n 2, 1) := by decide +kernel
theorem dX13_init_11 : decode cX13_init 11 = .ok (.putfield 13, 3) := by decide +kernel
theorem dX13_init_14 : decode cX13_init 14 = .ok (.return_, 1) := by decide +kernel
set_option maxRecDepth 100000 in
set_option maxHeartbeats 4000000 in
theorem m_trI (l : Launch) (D : va_G) (cy : Nat → ClassId) {eda ca : Nat} {ia : Nat → Nat} {σ : SG} {t b : Nat} (tt : sgT σ t = 19) (m0 : Int32) (sz : Nat) : sgM l D cy eda ca ia σ sz yX13_init (Cond.code yX13_init cX13_init 3 none :: mWall) 1 14 0 0 [.ref t, .ref b, .int m0] (fun v σ2 => v = none ∧ trT σ t b m0 = σ2) := by
  refine sg_ofW (cc := cX13_init) (maxL := 3) (ret := none) (by decide) rfl (Nat.le_of_ble_eq_true rfl) (lv := [(0, .ref t), (1, .ref b), (2, .int m0)]) rfl (fun p e s m below meth c ls H N hrt hnm F hB hl => ?_) sz
  have hx := F.1.1
  have hb := F.1.2.1
  have hown := F.1.2.2.2.1
  refine lv_aload_n hx hb dX13_init_0 rfl (lv_at hl 0 rfl) ?_
  refine W.objInit hx hb hown (F.1.2.2.2.2 _ (List.mem_cons_of_mem _ (mm_1 _ (List.mem_of_getElem? (i := 16) rfl)))) (F.1.2.2.2.2 _ (List.mem_cons_of_mem _ (mm_0 _ (List.mem_of_getElem? (i := 2) rfl)))) (F.1.2.2.2.2 _ (List.mem_cons_of_mem _ (mm_0 _ (List.mem_of_getElem? (i := 3) rfl)))) rfl (by rw [F.1.2.2.1]; exact hl.1) rfl dX13_init_1 (Nat.le_of_ble_eq_true rfl) (Nat.le_of_ble_eq_true rfl) ?_
  refine lv_aload_n hx hb dX13_init_4 rfl (lv_at hl 0 rfl) ?_
  refine lv_aload_n hx hb dX13_init_5 rfl (lv_at hl 1 rfl) ?_
  refine pr_X13_7 F hB dX13_init_6 (by exact tt) hnm (fun H locs hBn => ?_)
  clear hB; have hB := hBn; clear hBn
  refine lv_aload_n hx hb dX13_init_9 rfl (lv_at hl 0 rfl) ?_
  refine lv_iload_n hx hb dX13_init_10 rfl (lv_at hl 2 rfl) ?_
  refine pf_X13_13 F hB dX13_init_11 (by exact tt) hnm (fun H locs hBn => ?_)
  clear hB; have hB := hBn; clear hBn
  exact sg_vret F hB hrt dX13_init_14 (by decide) (by decide) (⟨rfl, rfl⟩)
theorem dX11_init_0 : decode cX11_init 0 = .ok (.aload_n 0, 1) := by decide +kernel
theorem dX11_init_1 : decode cX11_init 1 = .ok (.invokespecial 3, 3) := by decide +kernel
theorem dX11_init_4 : decode cX11_init 4 = .ok (.aload_n 0, 1) := by decide +kernel
theorem dX11_init_5 : decode cX11_init 5 = .ok (.new 9, 3) := by decide +kernel
theorem dX11_init_8 : decode cX11_init 8 = .ok (.dup, 1) := by decide +kernel
theorem dX11_init_9 : decode cX11_init 9 = .ok (.invokespecial 11, 3) := by decide +kernel
theorem dX11_init_12 : decode cX11_init 12 = .ok (.putfield 12, 3) := by decide +kernel
theorem dX11_init_15 : decode cX11_init 15 = .ok (.aload_n 0, 1) := by decide +kernel
theorem dX11_init_16 : decode cX11_init 16 = .ok (.iconst (-1), 1) := by decide +kernel
theorem dX11_init_17 : decode cX11_init 17 = .ok (.putfield 18, 3) := by decide +kernel
theorem dX11_init_20 : decode cX11_init 20 = .ok (.aload_n 0, 1) := by decide +kernel
theorem dX11_init_21 : decode cX11_init 21 = .ok (.iload_n 1, 1) := by decide +kernel
theorem dX11_init_22 : decode cX11_init 22 = .ok (.putfield 22, 3) := by decide +kernel
theorem dX11_init_25 : decode cX11_init 25 = .ok (.aload_n 0, 1) := by decide +kernel
theorem dX11_init_26 : decode cX11_init 26 = .ok (.iload_n 2, 1) := by decide +kernel
theorem dX11_init_27 : decode cX11_init 27 = .ok (.putfield 26, 3) := by decide +kernel
theorem dX11_init_30 : decode cX11_init 30 = .ok (.return_, 1) := by decide +kernel
set_option maxRecDepth 100000 in
set_option maxHeartbeats 4000000 in
theorem m_enI (l : Launch) (D : va_G) (cy : Nat → ClassId) {eda ca : Nat} {ia : Nat → Nat} {σ : SG} {x : Nat} (tx : sgT σ x = 17) (i0 gr : Int32) (hi0 : 0 ≤ i0.toInt ∧ i0.toInt ≤ 1) (sz : Nat) : sgM l D cy eda ca ia σ sz yX11_init (Cond.code yX11_init cX11_init 3 none :: mWall) 4 74 1 3 [.ref x, .int i0, .int gr] (fun v σ2 => v = none ∧ ∃ l : Nat, sgT σ l = 0 ∧ enT eda σ x l i0 gr = σ2) := by
  refine sg_ofW (cc := cX11_init) (maxL := 3) (ret := none) (by decide) rfl (Nat.le_of_ble_eq_true rfl) (lv := [(0, .ref x), (1, .int i0), (2, .int gr)]) rfl (fun p e s m below meth c ls H N hrt hnm F hB hl => ?_) sz
  have hx := F.1.1
  have hb := F.1.2.1
  have hown := F.1.2.2.2.1
  refine lv_aload_n hx hb dX11_init_0 rfl (lv_at hl 0 rfl) ?_
  refine W.objInit hx hb hown (F.1.2.2.2.2 _ (List.mem_cons_of_mem _ (mm_0 _ (List.mem_of_getElem? (i := 32) rfl)))) (F.1.2.2.2.2 _ (List.mem_cons_of_mem _ (mm_0 _ (List.mem_of_getElem? (i := 2) rfl)))) (F.1.2.2.2.2 _ (List.mem_cons_of_mem _ (mm_0 _ (List.mem_of_getElem? (i := 3) rfl)))) rfl (by rw [F.1.2.2.1]; exact hl.1) rfl dX11_init_1 (Nat.le_of_ble_eq_true rfl) (Nat.le_of_ble_eq_true rfl) ?_
  refine lv_aload_n hx hb dX11_init_4 rfl (lv_at hl 0 rfl) ?_
  refine sg_new (C := RJx4a65c) (T := TJx4a65c) (N0 := 3) (ci := 4) (ty0 := tyJx4a65c) F hB (fun w h => List.mem_cons_of_mem _ (mmu_Jx4a65c w h)) tyJx4a65c_ok (F.1.2.2.2.2 _ (List.mem_cons_of_mem _ (mm_0 _ (List.mem_of_getElem? (i := 33) rfl)))) (F.1.2.2.2.2 _ (List.mem_cons_of_mem _ (mm_0 _ (List.mem_of_getElem? (i := 34) rfl)))) (F.1.2.2.2.2 _ (List.mem_cons_of_mem _ (mm_0 _ (List.mem_of_getElem? (i := 35) rfl)))) rfl (by decide) (by decide +kernel) (Nat.le_of_ble_eq_true rfl) (Nat.add_le_add_right (Nat.le_of_ble_eq_true rfl) _) dX11_init_5 (fun q5 H N hq5 hs5 hBn => ?_)
  clear hB; have hB := hBn; clear hBn
  refine lv_dup hx hb dX11_init_8 rfl ?_
  refine sg_callI F hB (m_lnew l D cy (show sgT (sgNw σ q5 5 0) q5 = 5 from by rw [sgNw_T, if_pos rfl]) (show (sgI (sgNw σ q5 5 0) q5 2).toInt = 0 from by rw [sgNw_I, if_pos rfl]; rfl) _) (cwI 0 F.1.2.2.2.2 (mgN (mm_0 _ (List.mem_of_getElem? (i := 26) rfl))) rfl rfl rfl (F.1.2.2.2.2 _ (List.mem_cons_of_mem _ (mm_0 _ (List.mem_of_getElem? (i := 35) rfl)))) (F.1.2.2.2.2 _ (List.mem_cons_of_mem _ (mm_1 _ (List.mem_of_getElem? (i := 0) rfl)))) (F.1.2.2.2.2 _ (List.mem_cons_of_mem _ (mm_1 _ (List.mem_of_getElem? (i := 1) rfl)))) rfl ⟨by decide, by decide, by decide +kernel⟩ ⟨Nat.le_of_ble_eq_true rfl, Nat.le_of_ble_eq_true rfl⟩) rfl hl.1 rfl (Nat.le_of_ble_eq_true rfl) dX11_init_9 (Nat.le_of_ble_eq_true rfl) (Nat.add_le_add_right (Nat.le_of_ble_eq_true rfl) _)  (fun H locs v σ9 N hBn hX9 hP => ?_)
  clear hB; have hB := hBn; clear hBn
  obtain ⟨rfl, rfl⟩ := hP
  have tx2 : sgT (sgNw σ q5 5 0) x = 17 := nw_k tx (by decide) hq5
  refine pr_X11_12 F hB dX11_init_12 (by exact tx2) hnm (fun H locs hBn => ?_)
  clear hB; have hB := hBn; clear hBn
  refine lv_aload_n hx hb dX11_init_15 rfl (lv_at hl 0 rfl) ?_
  refine lv_iconst (v := (-1)) hx hb dX11_init_16 (by decide) ?_
  refine pf_X11_18 F hB dX11_init_17 (by exact tx2) (fun H locs hBn => ?_)
  clear hB; have hB := hBn; clear hBn
  refine lv_aload_n hx hb dX11_init_20 rfl (lv_at hl 0 rfl) ?_
  refine lv_iload_n hx hb dX11_init_21 rfl (lv_at hl 1 rfl) ?_
  refine pf_X11_22 F hB dX11_init_22 (by exact tx2) hi0 hnm (fun H locs hBn => ?_)
  clear hB; have hB := hBn; clear hBn
  refine lv_aload_n hx hb dX11_init_25 rfl (lv_at hl 0 rfl) ?_
  refine lv_iload_n hx hb dX11_init_26 rfl (lv_at hl 2 rfl) ?_
  refine pf_X11_26 F hB dX11_init_27 (by exact tx2) hnm (fun H locs hBn => ?_)
  clear hB; have hB := hBn; clear hBn
  exact sg_vret F hB hrt dX11_init_30 (by decide) (by decide) (⟨rfl, q5, hq5, rfl⟩)
theorem dX12_init_0 : decode cX12_init 0 = .ok (.aload_n 0, 1) := by decide +kernel
theorem dX12_init_1 : decode cX12_init 1 = .ok (.invokespecial 3, 3) := by decide +kernel
theorem dX12_init_4 : decode cX12_init 4 = .ok (.aload_n 0, 1) := by decide +kernel
theorem dX12_init_5 : decode cX12_init 5 = .ok (.iconst (-1), 1) := by decide +kernel
theorem dX12_init_6 : decode cX12_init 6 = .ok (.putfield 9, 3) := by decide +kernel
theorem dX12_init_9 : decode cX12_init 9 = .ok (.aload_n 0, 1) := by decide +kernel
theorem dX12_init_10 : decode cX12_init 10 = .ok (.bipush 32, 2) := by decide +kernel
theorem dX12_init_12 : decode cX12_init 12 = .ok (.putfield 15, 3) := by decide +kernel
theorem dX12_init_15 : decode cX12_init 15 = .ok (.aload_n 0, 1) := by decide +kernel
theorem dX12_init_16 : decode cX12_init 16 = .ok (.new 19, 3) := by decide +kernel
theorem dX12_init_19 : decode cX12_init 19 = .ok (.dup, 1) := by decide +kernel
theorem dX12_init_20 : decode cX12_init 20 = .ok (.invokespecial 21, 3) := by decide +kernel
theorem dX12_init_23 : decode cX12_init 23 = .ok (.putfield 22, 3) := by decide +kernel
theorem dX12_init_26 : decode cX12_init 26 = .ok (.aload_n 0, 1) := by decide +kernel
theorem dX12_init_27 : decode cX12_init 27 = .ok (.iload_n 1, 1) := by decide +kernel
theorem dX12_init_28 : decode cX12_init 28 = .ok (.putfield 26, 3) := by decide +kernel
theorem dX12_init_31 : decode cX12_init 31 = .ok (.aload_n 0, 1) := by decide +kernel
theorem dX12_init_32 : decode cX12_init 32 = .ok (.iload_n 2, 1) := by decide +kernel
theorem dX12_init_33 : decode cX12_init 33 = .ok (.putfield 29, 3) := by decide +kernel
theorem dX12_init_36 : decode cX12_init 36 = .ok (.aload_n 0, 1) := by decide +kernel
theorem dX12_init_37 : decode cX12_init 37 = .ok (.iload_n 3, 1) := by decide +kernel
theorem dX12_init_38 : decode cX12_init 38 = .ok (.putfield 32, 3) := by decide +kernel
theorem dX12_init_41 : decode cX12_init 41 = .ok (.aload_n 0, 1) := by decide +kernel
theorem dX12_init_42 : decode cX12_init 42 = .ok (.iload 4, 2) := by decide +kernel
theorem dX12_init_44 : decode cX12_init 44 = .ok (.putfield 35, 3) := by decide +kernel
theorem dX12_init_47 : decode cX12_init 47 = .ok (.return_, 1) := by decide +kernel
set_option maxRecDepth 100000 in
set_option maxHeartbeats 4000000 in
theorem m_ppI (l : Launch) (D : va_G) (cy : Nat → ClassId) {eda ca : Nat} {ia : Nat → Nat} {σ : SG} {x : Nat} (tx : sgT σ x = 18) (dv ep ki iv : Int32) (hki : 0 ≤ ki.toInt ∧ ki.toInt ≤ 65535) (sz : Nat) : sgM l D cy eda ca ia σ sz yX12_init (Cond.code yX12_init cX12_init 5 none :: mWall) 4 74 1 3 [.ref x, .int dv, .int ep, .int ki, .int iv] (fun v σ2 => v = none ∧ ∃ l : Nat, sgT σ l = 0 ∧ ppT eda σ x l dv ep ki iv = σ2) := by
  refine sg_ofW (cc := cX12_init) (maxL := 5) (ret := none) (by decide) rfl (Nat.le_of_ble_eq_true rfl) (lv := [(0, .ref x), (1, .int dv), (2, .int ep), (3, .int ki), (4, .int iv)]) rfl (fun p e s m below meth c ls H N hrt hnm F hB hl => ?_) sz
  have hx := F.1.1
  have hb := F.1.2.1
  have hown := F.1.2.2.2.1
  refine lv_aload_n hx hb dX12_init_0 rfl (lv_at hl 0 rfl) ?_
  refine W.objInit hx hb hown (F.1.2.2.2.2 _ (List.mem_cons_of_mem _ (mm_1 _ (List.mem_of_getElem? (i := 3) rfl)))) (F.1.2.2.2.2 _ (List.mem_cons_of_mem _ (mm_0 _ (List.mem_of_getElem? (i := 2) rfl)))) (F.1.2.2.2.2 _ (List.mem_cons_of_mem _ (mm_0 _ (List.mem_of_getElem? (i := 3) rfl)))) rfl (by rw [F.1.2.2.1]; exact hl.1) rfl dX12_init_1 (Nat.le_of_ble_eq_true rfl) (Nat.le_of_ble_eq_true rfl) ?_
  refine lv_aload_n hx hb dX12_init_4 rfl (lv_at hl 0 rfl) ?_
  refine lv_iconst (v := (-1)) hx hb dX12_init_5 (by decide) ?_
  refine pf_X12_9 F hB dX12_init_6 (by exact tx) (fun H locs hBn => ?_)
  clear hB; have hB := hBn; clear hBn
  refine lv_aload_n hx hb dX12_init_9 rfl (lv_at hl 0 rfl) ?_
  refine lv_bipush (v := 32) hx hb dX12_init_10 (by decide) ?_
  refine pf_X12_15 F hB dX12_init_12 (by exact tx) ⟨by decide, by decide⟩ (fun H locs hBn => ?_)
  clear hB; have hB := hBn; clear hBn
  refine lv_aload_n hx hb dX12_init_15 rfl (lv_at hl 0 rfl) ?_
  refine sg_new (C := RJx4a65c) (T := TJx4a65c) (N0 := 3) (ci := 4) (ty0 := tyJx4a65c) F hB (fun w h => List.mem_cons_of_mem _ (mmu_Jx4a65c w h)) tyJx4a65c_ok (F.1.2.2.2.2 _ (List.mem_cons_of_mem _ (mm_1 _ (List.mem_of_getElem? (i := 6) rfl)))) (F.1.2.2.2.2 _ (List.mem_cons_of_mem _ (mm_0 _ (List.mem_of_getElem? (i := 34) rfl)))) (F.1.2.2.2.2 _ (List.mem_cons_of_mem _ (mm_0 _ (List.mem_of_getElem? (i := 35) rfl)))) rfl (by decide) (by decide +kernel) (Nat.le_of_ble_eq_true rfl) (Nat.add_le_add_right (Nat.le_of_ble_eq_true rfl) _) dX12_init_16 (fun q16 H N hq16 hs16 hBn => ?_)
  clear hB; have hB := hBn; clear hBn
  refine lv_dup hx hb dX12_init_19 rfl ?_
  refine sg_callI F hB (m_lnew l D cy (show sgT (sgNw (sgPI (sgPI σ x 4 (-1)) x 8 32) q16 5 0) q16 = 5 from by rw [sgNw_T, if_pos rfl]) (show (sgI (sgNw (sgPI (sgPI σ x 4 (-1)) x 8 32) q16 5 0) q16 2).toInt = 0 from by rw [sgNw_I, if_pos rfl]; rfl) _) (cwI 0 F.1.2.2.2.2 (mgN (mm_0 _ (List.mem_of_getElem? (i := 26) rfl))) rfl rfl rfl (F.1.2.2.2.2 _ (List.mem_cons_of_mem _ (mm_0 _ (List.mem_of_getElem? (i := 35) rfl)))) (F.1.2.2.2.2 _ (List.mem_cons_of_mem _ (mm_1 _ (List.mem_of_getElem? (i := 12) rfl)))) (F.1.2.2.2.2 _ (List.mem_cons_of_mem _ (mm_1 _ (List.mem_of_getElem? (i := 1) rfl)))) rfl ⟨by decide, by decide, by decide +kernel⟩ ⟨Nat.le_of_ble_eq_true rfl, Nat.le_of_ble_eq_true rfl⟩) rfl hl.1 rfl (Nat.le_of_ble_eq_true rfl) dX12_init_20 (Nat.le_of_ble_eq_true rfl) (Nat.add_le_add_right (Nat.le_of_ble_eq_true rfl) _)  (fun H locs v σ20 N hBn hX20 hP => ?_)
  clear hB; have hB := hBn; clear hBn
  obtain ⟨rfl, rfl⟩ := hP
  have tx2 : sgT (sgNw σ q16 5 0) x = 18 := nw_k tx (by decide) hq16
  refine pr_X12_22 F hB dX12_init_23 (by exact tx2) hnm (fun H locs hBn => ?_)
  clear hB; have hB := hBn; clear hBn
  refine lv_aload_n hx hb dX12_init_26 rfl (lv_at hl 0 rfl) ?_
  refine lv_iload_n hx hb dX12_init_27 rfl (lv_at hl 1 rfl) ?_
  refine pf_X12_26 F hB dX12_init_28 (by exact tx2) hnm (fun H locs hBn => ?_)
  clear hB; have hB := hBn; clear hBn
  refine lv_aload_n hx hb dX12_init_31 rfl (lv_at hl 0 rfl) ?_
  refine lv_iload_n hx hb dX12_init_32 rfl (lv_at hl 2 rfl) ?_
  refine pf_X12_29 F hB dX12_init_33 (by exact tx2) hnm (fun H locs hBn => ?_)
  clear hB; have hB := hBn; clear hBn
  refine lv_aload_n hx hb dX12_init_36 rfl (lv_at hl 0 rfl) ?_
  refine lv_iload_n hx hb dX12_init_37 rfl (lv_at hl 3 rfl) ?_
  refine pf_X12_32 F hB dX12_init_38 (by exact tx2) hki hnm (fun H locs hBn => ?_)
  clear hB; have hB := hBn; clear hBn
  refine lv_aload_n hx hb dX12_init_41 rfl (lv_at hl 0 rfl) ?_
  refine lv_iload hx hb dX12_init_42 (lv_at hl 4 rfl) ?_
  refine pf_X12_35 F hB dX12_init_44 (by exact tx2) hnm (fun H locs hBn => ?_)
  clear hB; have hB := hBn; clear hBn
  exact sg_vret F hB hrt dX12_init_47 (by decide) (by decide) (⟨rfl, q16, hq16, rfl⟩)
end MM33
