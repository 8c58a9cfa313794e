section MM42
section SGFR
variable {p : Program} {l : Launch} {e : Env} {R : Room} {s : State} {m : MethodId} {args : Array Value} {below : List Frame} {meth : Method} {c : Code} {H : Heap} {locs : List Loc} {Q : State → Prop} {cc bytes : ByteArray} {pc : Nat} {ls : Array Slot} {rest As st0 : List Value}
variable {D : va_G} {cy : Nat → ClassId} {σ0 σ σ2 : SG} {eda ca : Nat} {ia : Nat → Nat} {y x : MethodName} {WS Ts : List Cond} {fr lo mc n nL index maxL sc b k N n9 a ci t N9 : Nat} {av : List Value} {Post : Option Value → SG → Prop} {own C host ref : String} {ret : Option FieldType} {T : u_T}
theorem sg_fret {v : UInt32} (F : sgFx p s m args meth c cc nL own Ts D cy eda ca ia σ0) (hB : sgB D cy s σ0 σ H locs N n) (hr : meth.sig.returnType = some .float) (hdg : decode cc pc = .ok (.freturn, 1)) (hk : k ≤ mc) (hn : n ≤ sc) (hP : Post (some (.float v)) σ) : W p l e R s m args below meth c H locs k N (MQ below (sgQ D cy σ0 s.heap.size sc Post) args s mc (sc + sgPot σ0) (sgA σ0 s.heap.size)) (F0 m pc ls [.float v]) := by
  have hlocks := F.2.2.2.2
  exact sg_out hB hk hn hP (fun h1 h2 => W.fret F.1.1 F.1.2.1 hr h1 h2 hdg hlocks)
theorem sg_dret {v : UInt64} (F : sgFx p s m args meth c cc nL own Ts D cy eda ca ia σ0) (hB : sgB D cy s σ0 σ H locs N n) (hr : meth.sig.returnType = some .double) (hdg : decode cc pc = .ok (.dreturn, 1)) (hk : k ≤ mc) (hn : n ≤ sc) (hP : Post (some (.double v)) σ) : W p l e R s m args below meth c H locs k N (MQ below (sgQ D cy σ0 s.heap.size sc Post) args s mc (sc + sgPot σ0) (sgA σ0 s.heap.size)) (F0 m pc ls [.double v]) := by
  have hlocks := F.2.2.2.2
  exact sg_out hB hk hn hP (fun h1 h2 => W.dret F.1.1 F.1.2.1 hr h1 h2 hdg hlocks)
end SGFR
theorem m_100 {f : Int32} (h0 : 0 ≤ f.toInt) (h1 : 100 * f.toInt ≤ 60000) (h : ¬ f = 0) : ¬ (100 : Int32) * f = 0 := fun z => by
  have e : ((100 : Int32) * f).toInt = 100 * f.toInt := by
    rw [Int32.toInt_mul, show (100 : Int32).toInt = 100 from rfl, vi_bmod (by omega) (by omega)]
  rw [z] at e
  have e0 : (0 : Int32).toInt = 0 := rfl
  exact h (i_eq.mpr (by omega))
theorem dX14_busyShare_0 : decode cX14_busyShare 0 = .ok (.aload_n 0, 1) := by decide +kernel
theorem dX14_busyShare_1 : decode cX14_busyShare 1 = .ok (.aload_n 0, 1) := by decide +kernel
theorem dX14_busyShare_2 : decode cX14_busyShare 2 = .ok (.getfield 205, 3) := by decide +kernel
theorem dX14_busyShare_5 : decode cX14_busyShare 5 = .ok (.ifCond .ne 7, 3) := by decide +kernel
theorem dX14_busyShare_8 : decode cX14_busyShare 8 = .ok (.iconst 1, 1) := by decide +kernel
theorem dX14_busyShare_9 : decode cX14_busyShare 9 = .ok (.goto 4, 3) := by decide +kernel
theorem dX14_busyShare_12 : decode cX14_busyShare 12 = .ok (.iconst 0, 1) := by decide +kernel
theorem dX14_busyShare_13 : decode cX14_busyShare 13 = .ok (.putfield 61, 3) := by decide +kernel
theorem dX14_busyShare_16 : decode cX14_busyShare 16 = .ok (.aload_n 0, 1) := by decide +kernel
theorem dX14_busyShare_17 : decode cX14_busyShare 17 = .ok (.getfield 61, 3) := by decide +kernel
theorem dX14_busyShare_20 : decode cX14_busyShare 20 = .ok (.ifCond .le 7, 3) := by decide +kernel
theorem dX14_busyShare_23 : decode cX14_busyShare 23 = .ok (.fconst 0, 1) := by decide +kernel
theorem dX14_busyShare_24 : decode cX14_busyShare 24 = .ok (.goto 17, 3) := by decide +kernel
theorem dX14_busyShare_27 : decode cX14_busyShare 27 = .ok (.aload_n 0, 1) := by decide +kernel
theorem dX14_busyShare_28 : decode cX14_busyShare 28 = .ok (.getfield 347, 3) := by decide +kernel
theorem dX14_busyShare_31 : decode cX14_busyShare 31 = .ok (.l2f, 1) := by decide +kernel
theorem dX14_busyShare_32 : decode cX14_busyShare 32 = .ok (.bipush 100, 2) := by decide +kernel
theorem dX14_busyShare_34 : decode cX14_busyShare 34 = .ok (.aload_n 0, 1) := by decide +kernel
theorem dX14_busyShare_35 : decode cX14_busyShare 35 = .ok (.getfield 205, 3) := by decide +kernel
theorem dX14_busyShare_38 : decode cX14_busyShare 38 = .ok (.imul, 1) := by decide +kernel
theorem dX14_busyShare_39 : decode cX14_busyShare 39 = .ok (.i2f, 1) := by decide +kernel
theorem dX14_busyShare_40 : decode cX14_busyShare 40 = .ok (.fdiv, 1) := by decide +kernel
theorem dX14_busyShare_41 : decode cX14_busyShare 41 = .ok (.freturn, 1) := by decide +kernel
set_option maxRecDepth 100000 in
set_option maxHeartbeats 4000000 in
theorem m_busyShare (l : Launch) (D : va_G) (cy : Nat → ClassId) {eda ca : Nat} {ia : Nat → Nat} {σ : SG} {K : KM} {g : GH} {n S hw : Nat} (h : Inv eda ia K g n S hw σ) (sz : Nat) : sgM l D cy eda ca ia σ sz yX14_busyShare (Cond.code yX14_busyShare cX14_busyShare 1 (some .float) :: mWall) 0 0 0 0 [.ref (kA K)] (fun v σ2 => (∃ y : UInt32, v = some (.float y)) ∧ Inv eda ia K g n S hw σ2) := by
  refine sg_ofW (cc := cX14_busyShare) (maxL := 1) (ret := (some .float)) (by decide) rfl (Nat.le_of_ble_eq_true rfl) (lv := [(0, .ref (kA K))]) rfl (fun p e s m below meth c ls H N hrt hnm F hB hl => ?_) sz
  have hx := F.1.1
  have hb := F.1.2.1
  have hown := F.1.2.2.2.1
  obtain ⟨-, -, -, zS, zS2, zf1, zf2⟩ := (inv_M h).2.2
  refine lv_aload_n hx hb dX14_busyShare_0 rfl (lv_at hl 0 rfl) ?_
  refine lv_aload_n hx hb dX14_busyShare_1 rfl (lv_at hl 0 rfl) ?_
  refine gf_X14_205 F hB dX14_busyShare_2 (inv_A h) ?_
  refine lv_if_ne (tgt := 12) hx hb dX14_busyShare_5 (by decide) (fun c5 => ?_) (fun c5 => ?_)
  · refine lv_iconst (v := 0) hx hb dX14_busyShare_12 (by decide) ?_
    refine pf_X14_61 F hB dX14_busyShare_13 (inv_A h) (fun H locs hBn => ?_)
    clear hB; have hB := hBn; clear hBn
    have hI13 := inv_PIc (t := 20) hB h (inv_A h) (by unfold iCn; omega)
    refine lv_aload_n hx hb dX14_busyShare_16 rfl (lv_at hl 0 rfl) ?_
    refine gf_X14_61 F hB dX14_busyShare_17 (inv_A hI13) ?_
    rw [sgI_PI, if_pos ⟨rfl, rfl⟩]
    refine lv_if_le (tgt := 27) hx hb dX14_busyShare_20 (by decide) (fun c20 => ?_) (fun c20 => (by first | exact absurd c20 (by decide) | exact (c20 (by decide)).elim))
    refine lv_aload_n hx hb dX14_busyShare_27 rfl (lv_at hl 0 rfl) ?_
    refine gf_X14_347 F hB dX14_busyShare_28 (inv_A hI13) ?_
    refine lv_l2f hx hb dX14_busyShare_31 ?_
    refine lv_bipush (v := 100) hx hb dX14_busyShare_32 (by decide) ?_
    refine lv_aload_n hx hb dX14_busyShare_34 rfl (lv_at hl 0 rfl) ?_
    refine gf_X14_205 F hB dX14_busyShare_35 (inv_A hI13) ?_
    rw [sgI_nk (by decide)]
    refine lv_imul hx hb dX14_busyShare_38 ?_
    refine lv_i2f hx hb dX14_busyShare_39 ?_
    refine lv_fdiv hx hb dX14_busyShare_40 (fdiv_n (m_100 zf1 (by omega) (by first | exact c5 | exact fun z => c5 z))) ?_
    exact sg_fret F hB hrt dX14_busyShare_41 (by decide) (by decide) (⟨⟨_, rfl⟩, hI13⟩)
  · refine lv_iconst (v := 1) hx hb dX14_busyShare_8 (by decide) ?_
    refine lv_goto (tgt := 13) hx hb dX14_busyShare_9 (by decide) ?_
    refine pf_X14_61 F hB dX14_busyShare_13 (inv_A h) (fun H locs hBn => ?_)
    clear hB; have hB := hBn; clear hBn
    have hI13 := inv_PIc (t := 20) hB h (inv_A h) (by unfold iCn; omega)
    refine lv_aload_n hx hb dX14_busyShare_16 rfl (lv_at hl 0 rfl) ?_
    refine gf_X14_61 F hB dX14_busyShare_17 (inv_A hI13) ?_
    rw [sgI_PI, if_pos ⟨rfl, rfl⟩]
    refine lv_if_le (tgt := 27) hx hb dX14_busyShare_20 (by decide) (fun c20 => (by first | exact absurd c20 (by decide) | exact (c20 (by decide)).elim)) (fun c20 => ?_)
    refine lv_fconst0 hx hb dX14_busyShare_23 ?_
    refine lv_goto (tgt := 41) hx hb dX14_busyShare_24 (by decide) ?_
    exact sg_fret F hB hrt dX14_busyShare_41 (by decide) (by decide) (⟨⟨_, rfl⟩, hI13⟩)
theorem dX14_meanBytes_0 : decode cX14_meanBytes 0 = .ok (.aload_n 0, 1) := by decide +kernel
theorem dX14_meanBytes_1 : decode cX14_meanBytes 1 = .ok (.aload_n 0, 1) := by decide +kernel
theorem dX14_meanBytes_2 : decode cX14_meanBytes 2 = .ok (.getfield 277, 3) := by decide +kernel
theorem dX14_meanBytes_5 : decode cX14_meanBytes 5 = .ok (.ifCond .ne 7, 3) := by decide +kernel
theorem dX14_meanBytes_8 : decode cX14_meanBytes 8 = .ok (.iconst 1, 1) := by decide +kernel
theorem dX14_meanBytes_9 : decode cX14_meanBytes 9 = .ok (.goto 4, 3) := by decide +kernel
theorem dX14_meanBytes_12 : decode cX14_meanBytes 12 = .ok (.iconst 0, 1) := by decide +kernel
theorem dX14_meanBytes_13 : decode cX14_meanBytes 13 = .ok (.putfield 61, 3) := by decide +kernel
theorem dX14_meanBytes_16 : decode cX14_meanBytes 16 = .ok (.aload_n 0, 1) := by decide +kernel
theorem dX14_meanBytes_17 : decode cX14_meanBytes 17 = .ok (.getfield 61, 3) := by decide +kernel
theorem dX14_meanBytes_20 : decode cX14_meanBytes 20 = .ok (.ifCond .le 7, 3) := by decide +kernel
theorem dX14_meanBytes_23 : decode cX14_meanBytes 23 = .ok (.dconst 0, 1) := by decide +kernel
theorem dX14_meanBytes_24 : decode cX14_meanBytes 24 = .ok (.goto 14, 3) := by decide +kernel
theorem dX14_meanBytes_27 : decode cX14_meanBytes 27 = .ok (.aload_n 0, 1) := by decide +kernel
theorem dX14_meanBytes_28 : decode cX14_meanBytes 28 = .ok (.getfield 280, 3) := by decide +kernel
theorem dX14_meanBytes_31 : decode cX14_meanBytes 31 = .ok (.l2d, 1) := by decide +kernel
theorem dX14_meanBytes_32 : decode cX14_meanBytes 32 = .ok (.aload_n 0, 1) := by decide +kernel
theorem dX14_meanBytes_33 : decode cX14_meanBytes 33 = .ok (.getfield 277, 3) := by decide +kernel
theorem dX14_meanBytes_36 : decode cX14_meanBytes 36 = .ok (.i2d, 1) := by decide +kernel
theorem dX14_meanBytes_37 : decode cX14_meanBytes 37 = .ok (.ddiv, 1) := by decide +kernel
theorem dX14_meanBytes_38 : decode cX14_meanBytes 38 = .ok (.dreturn, 1) := by decide +kernel
set_option maxRecDepth 100000 in
set_option maxHeartbeats 4000000 in
theorem m_meanBytes (l : Launch) (D : va_G) (cy : Nat → ClassId) {eda ca : Nat} {ia : Nat → Nat} {σ : SG} {K : KM} {g : GH} {n S hw : Nat} (h : Inv eda ia K g n S hw σ) (sz : Nat) : sgM l D cy eda ca ia σ sz yX14_meanBytes (Cond.code yX14_meanBytes cX14_meanBytes 1 (some .double) :: mWall) 0 0 0 0 [.ref (kA K)] (fun v σ2 => (∃ y : UInt64, v = some (.double y)) ∧ Inv eda ia K g n S hw σ2) := by
  refine sg_ofW (cc := cX14_meanBytes) (maxL := 1) (ret := (some .double)) (by decide) rfl (Nat.le_of_ble_eq_true rfl) (lv := [(0, .ref (kA K))]) rfl (fun p e s m below meth c ls H N hrt hnm F hB hl => ?_) sz
  have hx := F.1.1
  have hb := F.1.2.1
  have hown := F.1.2.2.2.1
  refine lv_aload_n hx hb dX14_meanBytes_0 rfl (lv_at hl 0 rfl) ?_
  refine lv_aload_n hx hb dX14_meanBytes_1 rfl (lv_at hl 0 rfl) ?_
  refine gf_X14_277 F hB dX14_meanBytes_2 (inv_A h) ?_
  refine lv_if_ne (tgt := 12) hx hb dX14_meanBytes_5 (by decide) (fun c5 => ?_) (fun c5 => ?_)
  · refine lv_iconst (v := 0) hx hb dX14_meanBytes_12 (by decide) ?_
    refine pf_X14_61 F hB dX14_meanBytes_13 (inv_A h) (fun H locs hBn => ?_)
    clear hB; have hB := hBn; clear hBn
    have hI13 := inv_PIc (t := 20) hB h (inv_A h) (by unfold iCn; omega)
    refine lv_aload_n hx hb dX14_meanBytes_16 rfl (lv_at hl 0 rfl) ?_
    refine gf_X14_61 F hB dX14_meanBytes_17 (inv_A hI13) ?_
    rw [sgI_PI, if_pos ⟨rfl, rfl⟩]
    refine lv_if_le (tgt := 27) hx hb dX14_meanBytes_20 (by decide) (fun c20 => ?_) (fun c20 => (by first | exact absurd c20 (by decide) | exact (c20 (by decide)).elim))
    refine lv_aload_n hx hb dX14_meanBytes_27 rfl (lv_at hl 0 rfl) ?_
    refine gf_X14_280 F hB dX14_meanBytes_28 (inv_A hI13) ?_
    refine lv_l2d hx hb dX14_meanBytes_31 ?_
    refine lv_aload_n hx hb dX14_meanBytes_32 rfl (lv_at hl 0 rfl) ?_
    refine gf_X14_277 F hB dX14_meanBytes_33 (inv_A hI13) ?_
    rw [sgI_nk (by decide)]
    refine lv_i2d hx hb dX14_meanBytes_36 ?_
    refine lv_ddiv hx hb dX14_meanBytes_37 (ddiv_n (by first | exact c5 | exact fun z => c5 z)) ?_
    exact sg_dret F hB hrt dX14_meanBytes_38 (by decide) (by decide) (⟨⟨_, rfl⟩, hI13⟩)
  · refine lv_iconst (v := 1) hx hb dX14_meanBytes_8 (by decide) ?_
    refine lv_goto (tgt := 13) hx hb dX14_meanBytes_9 (by decide) ?_
    refine pf_X14_61 F hB dX14_meanBytes_13 (inv_A h) (fun H locs hBn => ?_)
    clear hB; have hB := hBn; clear hBn
    have hI13 := inv_PIc (t := 20) hB h (inv_A h) (by unfold iCn; omega)
    refine lv_aload_n hx hb dX14_meanBytes_16 rfl (lv_at hl 0 rfl) ?_
    refine gf_X14_61 F hB dX14_meanBytes_17 (inv_A hI13) ?_
    rw [sgI_PI, if_pos ⟨rfl, rfl⟩]
    refine lv_if_le (tgt := 27) hx hb dX14_meanBytes_20 (by decide) (fun c20 => (by first | exact absurd c20 (by decide) | exact (c20 (by decide)).elim)) (fun c20 => ?_)
    refine lv_dconst0 hx hb dX14_meanBytes_23 ?_
    refine lv_goto (tgt := 38) hx hb dX14_meanBytes_24 (by decide) ?_
    exact sg_dret F hB hrt dX14_meanBytes_38 (by decide) (by decide) (⟨⟨_, rfl⟩, hI13⟩)
end MM42
