section VFC
theorem h6_frameF : vi_pts vK vSG 1 4 0 vFT_X9 fp_frameF vCT_X9 vC2_X9 [] mt_frameF q_frameF.2.2.1 cX9_frame [31, 86] 400 ps_frameF_0 = true := (vi_ptc_ok (vi_ptc_ok (vi_ptc_ok (vi_ptc_ok (vi_ptc_ok (vi_ptc_ok (vi_ptc_ok (vi_ptc_ok (vi_ptc_ok (vi_ptc_ok (vi_ptc_ok (vi_ptc_ok (vi_ptc_ok (vi_ptc_ok (vi_ptc_ok (vi_ptc_ok (vi_ptc_ok (vi_ptc_ok (vi_ptc_ok (vi_ptc_ok (vi_ptc_ok (vi_ptc_ok (vi_ptc_ok (vi_ptc_ok (vi_ptc_ok (vi_ptc_ok (vi_ptc_ok (vi_ptc_ok (vi_ptc_ok (vi_ptc_ok (vi_ptc_ok (vi_ptc_ok (vi_ptc_ok (vi_ptc_ok (vi_ptc_ok (vi_ptc_ok (vi_ptc_ok (vi_ptc_ok (vi_ptc_ok (vi_ptc_ok (vi_ptc_ok (vi_ptc_ok (vi_ptc_ok (vi_ptc_ok (vi_ptc_ok (vi_ptc_ok (vi_ptc_ok (vi_ptc_ok (vi_ptc_ok (vi_ptc_ok (vi_ptc_ok (vi_ptc_ok (vi_ptc_ok (vi_ptc_ok (vi_ptc_ok (vi_ptc_ok (vi_ptc_ok (vi_ptc_ok (vi_ptc_ok (vi_ptc_ok (vi_ptc_ok (vi_ptc_ok (vi_ptc_ok (vi_ptc_ok (vi_ptc_ok (vi_ptc_ok (vi_ptc_ok (vi_ptc_ok (vi_ptc_ok (vi_ptc_ok (vi_ptc_ok (vi_ptc_ok (vi_ptc_ok (vi_ptc_ok (vi_ptc_ok (vi_ptc_ok (vi_ptc_ok (vi_ptc_ok (vi_ptc_ok (vi_ptc_ok (vi_ptc_ok (vi_ptc_ok (vi_ptc_ok (vi_ptc_ok (vi_ptc_ok (vi_ptc_ok (vi_ptc_ok (vi_ptc_ok (vi_ptc_ok (vi_ptc_ok (vi_ptc_ok (vi_ptc_ok (vi_ptc_ok (vi_ptc_ok (vi_ptc_ok (vi_ptc_ok (vi_ptc_ok (vi_ptc_ok (vi_ptc_ok (vi_ptc_ok (vi_ptc_ok rfl kc_frameF_100) kc_frameF_99) kc_frameF_98) kc_frameF_97) kc_frameF_96) kc_frameF_95) kc_frameF_94) kc_frameF_93) kc_frameF_92) kc_frameF_91) kc_frameF_90) kc_frameF_89) kc_frameF_88) kc_frameF_87) kc_frameF_86) kc_frameF_85) kc_frameF_84) kc_frameF_83) kc_frameF_82) kc_frameF_81) kc_frameF_80) kc_frameF_79) kc_frameF_78) kc_frameF_77) kc_frameF_76) kc_frameF_75) kc_frameF_74) kc_frameF_73) kc_frameF_72) kc_frameF_71) kc_frameF_70) kc_frameF_69) kc_frameF_68) kc_frameF_67) kc_frameF_66) kc_frameF_65) kc_frameF_64) kc_frameF_63) kc_frameF_62) kc_frameF_61) kc_frameF_60) kc_frameF_59) kc_frameF_58) kc_frameF_57) kc_frameF_56) kc_frameF_55) kc_frameF_54) kc_frameF_53) kc_frameF_52) kc_frameF_51) kc_frameF_50) kc_frameF_49) kc_frameF_48) kc_frameF_47) kc_frameF_46) kc_frameF_45) kc_frameF_44) kc_frameF_43) kc_frameF_42) kc_frameF_41) kc_frameF_40) kc_frameF_39) kc_frameF_38) kc_frameF_37) kc_frameF_36) kc_frameF_35) kc_frameF_34) kc_frameF_33) kc_frameF_32) kc_frameF_31) kc_frameF_30) kc_frameF_29) kc_frameF_28) kc_frameF_27) kc_frameF_26) kc_frameF_25) kc_frameF_24) kc_frameF_23) kc_frameF_22) kc_frameF_21) kc_frameF_20) kc_frameF_19) kc_frameF_18) kc_frameF_17) kc_frameF_16) kc_frameF_15) kc_frameF_14) kc_frameF_13) kc_frameF_12) kc_frameF_11) kc_frameF_10) kc_frameF_9) kc_frameF_8) kc_frameF_7) kc_frameF_6) kc_frameF_5) kc_frameF_4) kc_frameF_3) kc_frameF_2) kc_frameF_1) kc_frameF_0)
theorem dfrm_0 : decode cX9_frame 0 = .ok (.aload_n 0, 1) := by decide +kernel
theorem dfrm_1 : decode cX9_frame 1 = .ok (.getfield 59, 3) := by decide +kernel
theorem dfrm_4 : decode cX9_frame 4 = .ok (.getfield 418, 3) := by decide +kernel
theorem dfrm_7 : decode cX9_frame 7 = .ok (.istore_n 1, 1) := by decide +kernel
theorem dfrm_8 : decode cX9_frame 8 = .ok (.aload_n 0, 1) := by decide +kernel
theorem dfrm_9 : decode cX9_frame 9 = .ok (.dup, 1) := by decide +kernel
theorem dfrm_10 : decode cX9_frame 10 = .ok (.getfield 252, 3) := by decide +kernel
theorem dfrm_13 : decode cX9_frame 13 = .ok (.iconst 1, 1) := by decide +kernel
theorem dfrm_14 : decode cX9_frame 14 = .ok (.iadd, 1) := by decide +kernel
theorem dfrm_15 : decode cX9_frame 15 = .ok (.putfield 252, 3) := by decide +kernel
set_option maxRecDepth 100000 in
set_option maxHeartbeats 4000000 in
/-- a frame: frames one more, what is not written stays -/
theorem m_frameF (l : Launch) (D : va_G) (cy : Nat → ClassId) {ad τ : List Nat} {w : va_W} {q0 x0 : Nat} {vs : List Value} {fr0 : Int32} (hs : vi_s1 vSG τ) (ht : vi_tw vK cy (fun _ => True) ad τ w) (hq0 : τ[q0]? = some 0) (hw0 : w[q0]? = some (x0, .inr (14, vs))) (hv7 : vs[7]? = some (.int fr0)) (sz : Nat) : Met l yX9_frame (Cond.code yX9_frame cX9_frame 4 (some .int) :: vWall) { frames := 6, cells := 0, slots := 0, locals := 151 } (va_Pc [.ref x0] (PME D cy w sz)) (fun _ st oc t => (∃ (v : Int32) (w1 : va_W), oc = .returned (some (.int v)) ∧ va_P D vwCl w1 t.heap ∧ vi_tw vK cy (fun _ => True) ad τ w1 ∧ vi_kept τ q_frameF.2.2.2.1 (w.set q0 (x0, .inr (14, vs.set 7 (.int (fr0 + 1))))) w1) ∧ va_F (va_A w sz) st t) 0 0 (va_A w sz) := by
  refine ro_ofW (cc := cX9_frame) (maxL := 4) (ret := (some .int)) (lv := [(0, .ref x0)]) (by decide) rfl (Nat.le_of_ble_eq_true rfl) rfl ?_
  intro p e s m below meth c ls hx hb hr hml hown hlocks hnm hts hpre hl
  obtain ⟨⟨rfl, hP, hD⟩, hK, hN⟩ := hpre
  have S : CallFix p m c cX9_frame 4 s [Value.ref x0].toArray (Cond.code yX9_frame cX9_frame 4 (some .int) :: vWall) RX9 := ⟨hx, hb, hml, hown, hts⟩
  have hDs := hD.self (sz := s.heap.size)
  have hadr : ad[q0]? = some x0 := by rw [← ht.1, List.getElem?_map, hw0]; rfl
  obtain ⟨ee, kk, g1, g2, g3⟩ := vi_tw_get ht hq0 hadr
  cases (Option.some.inj g2)
  obtain ⟨vs9, e9, l9, ok9⟩ := g3
  have e10 : (x0, ee) = (x0, .inr (14, vs)) := Option.some.inj (g1.symm.trans hw0)
  have e11 : ee = .inr (14, vs) := (Prod.mk.inj e10).2
  rw [e9] at e11
  have evs : vs9 = vs := by injection e11 with e12; exact (Prod.mk.inj e12).2
  subst evs
  have hlen : vs9.length = 13 := l9
  -- the sniffer and its tokens
  have h12 : vs9[12]? = some vs9[12] := List.getElem?_eq_getElem (by omega)
  obtain ⟨qs, bs, es, hts9, hbs⟩ := vi_nn (a := (3, 20, 0)) rfl rfl (ok9 12 (3, 20, 0) _ rfl h12)
  obtain ⟨ee2, k2, u1, u2, u3⟩ := vi_tw_get ht hts9 hbs
  cases (Option.some.inj u2)
  obtain ⟨vt, ev, lt9, okt⟩ := u3
  subst ev
  have hlt : vt.length = 3 := lt9
  have ht0 : vt[0]? = some vt[0] := List.getElem?_eq_getElem (by omega)
  obtain ⟨tk, etk, -⟩ := okt 0 (1, -2147483648, 2147483647) _ rfl ht0
  rw [etk] at ht0
  rw [es] at h12
  refine lv_aload_n hx hb dfrm_0 rfl (lv_at hl 0 rfl) ?_
  refine vfg_X9 S hK hN 59 14 12 (by decide) s.heap [] 0 0 w q0 x0 1 vs9 [] _ ls hP hw0 h12 dfrm_1 ?_
  refine vfg_X9 S hK hN 418 11 0 (by decide) s.heap [] 0 0 w qs bs 4 vt [] _ ls hP u1 ht0 dfrm_4 ?_
  refine lv_istore_n (lv' := [(1, .int tk), (0, .ref x0)]) hx hb dfrm_7 rfl hl (by decide) rfl (fun ls hl => ?_)
  refine lv_aload_n hx hb dfrm_8 rfl (lv_at hl 1 rfl) ?_
  refine lv_dup hx hb dfrm_9 rfl ?_
  refine vfg_X9 S hK hN 252 14 7 (by decide) s.heap [] 0 0 w q0 x0 10 vs9 [.ref x0] _ ls hP hw0 hv7 dfrm_10 ?_
  refine lv_iconst (v := 1) hx hb dfrm_13 (by decide) ?_
  refine lv_iadd hx hb dfrm_14 ?_
  refine vfp_X9_252_14_7 (A0 := va_A w s.heap.size) (H0 := s.heap) S hK hN (v := .int (fr0 + 1)) ⟨rfl, rfl⟩ s.heap [] 0 0 w q0 x0 15 vs9 [] ls hP hDs va_S.rf hw0 (by omega) dfrm_15 (fun H locs hP2 hD2 hS2 => ?_)
  have ht2 : vi_tw vK cy (vi_kept τ q_frameF.2.2.2.1 (w.set q0 (x0, .inr (14, vs9.set 7 (.int (fr0 + 1)))))) ad τ (w.set q0 (x0, .inr (14, vs9.set 7 (.int (fr0 + 1))))) := by
    refine vi_tw_Z (vi_tw_set ht hq0 hw0 (k := _) (List.getElem?_eq_some_iff.mpr ⟨by decide, rfl⟩) ⟨_, rfl, by rw [List.length_set]; exact l9, fun i a v h1 h2 => ?_⟩ True.intro) vi_kept_rf
    by_cases c7 : i = 7
    · subst c7
      rw [List.getElem?_set_self (by omega)] at h2
      cases h2
      cases h1
      exact vi_okI _
    · rw [List.getElem?_set_ne (fun z => c7 z.symm)] at h2
      exact ok9 i a v h1 h2
  have hcat : ∀ v ∈ [Value.ref x0], v.category = 1 := by intro v hv; cases hv with
    | head => rfl
    | tail _ h => cases h
  have hA : vi_All p l e _ s m [Value.ref x0].toArray below meth c _ RX9 vK vSG 4 0 vFT_X9 fp_frameF vCT_X9 vC2_X9 [] mt_frameF cX9_frame D cy (vi_kept τ q_frameF.2.2.2.1 (w.set q0 (x0, .inr (14, vs9.set 7 (.int (fr0 + 1)))))) ad τ (va_A w s.heap.size) s.heap [Value.ref x0] q_frameF.2.2.1 := by
    refine ⟨hcat, hx, hb, hown, hK, hs.1, vi_kept_Zp (by decide +kernel), vi_kept_Za, vfg_X9 S hK hN, ?_, vct_X9 S, vc2_X9 S, vK_ty cy, ?_, (fun pc hpc => by cases hpc), ?_⟩
    · refine vi_f4 (L := fp_frameF) ?_
      refine List.forall_mem_cons.mpr ⟨fun d x fs b v h1 h2 h3 => vfp_X9_28_14_6 S hK hN (vTy_ok h1 h2 h3), ?_⟩
      refine List.forall_mem_cons.mpr ⟨fun d x fs b v h1 h2 h3 => vfp_X9_427_10_10 S hK hN (vTy_ok h1 h2 h3), ?_⟩
      exact fun q hq => by cases hq
    · refine vi_f4 (L := mt_frameF) ?_
      refine List.forall_mem_cons.mpr ⟨(List.forall_mem_cons.mpr ⟨⟨rfl, vi_crVN S (m_Units_beginFrame_0 l D cy hst) ⟨va_cnB 0 S.2.2.2.2 (vgN (vm_3 _ (List.mem_of_getElem? (i := 0) rfl))) rfl rfl rfl (hN.1 _ nf_126) (S.2.2.2.2 _ (List.mem_cons_of_mem _ (vm_3 _ (List.mem_of_getElem? (i := 15) rfl)))) ⟨by decide, by decide, by decide +kernel⟩ ⟨Nat.le_of_ble_eq_true rfl, Nat.le_of_ble_eq_true rfl⟩, S.2.2.2.2 _ (List.mem_cons_of_mem _ (vm_10 _ (List.mem_of_getElem? (i := 2) rfl))), S.2.2.2.2 _ (List.mem_cons_of_mem _ (vm_10 _ (List.mem_of_getElem? (i := 3) rfl)))⟩ rfl ⟨_, _, _, _, _, _, rfl, rfl, rfl, rfl⟩ hK hN hs (fun w1 w2 h1 h2 => vi_kept_tr (by decide +kernel) h1 h2) (fun q hq => Or.inr hq) ⟨Nat.le_refl _, Nat.le_refl _⟩⟩, (fun ct2 h2 => by cases h2)⟩), ?_⟩
      refine List.forall_mem_cons.mpr ⟨(List.forall_mem_cons.mpr ⟨⟨rfl, vi_crV S (m_Hubcascade_shutGreedyDevices_0 l D cy hst) (cwV 0 S.2.2.2.2 (vgV (vm_10 _ (List.mem_of_getElem? (i := 4) rfl)) (vm_10 _ (List.mem_of_getElem? (i := 5) rfl)) (vm_10 _ (List.mem_of_getElem? (i := 6) rfl)) (vm_4 _ (List.mem_of_getElem? (i := 20) rfl)) (vm_8 _ (List.mem_of_getElem? (i := 35) rfl))) rfl rfl rfl ⟨rfl, by decide, by decide, by decide +kernel⟩ ⟨Nat.le_of_ble_eq_true rfl, Nat.le_of_ble_eq_true rfl⟩) rfl ⟨_, _, _, _, _, _, rfl, rfl, rfl, rfl⟩ hK hN hs (fun w1 w2 h1 h2 => vi_kept_tr (by decide +kernel) h1 h2) (fun q hq => Or.inr hq) ⟨Nat.le_refl _, Nat.le_refl _⟩⟩, (fun ct2 h2 => by cases h2)⟩), ?_⟩
      refine List.forall_mem_cons.mpr ⟨(List.forall_mem_cons.mpr ⟨⟨rfl, vi_crVN S (m_Pipe_isDueIn_0 l D cy hst) ⟨va_cnB 1 S.2.2.2.2 (vgN (vm_2 _ (List.mem_of_getElem? (i := 24) rfl))) rfl rfl rfl (hN.1 _ nf_127) (S.2.2.2.2 _ (List.mem_cons_of_mem _ (vm_2 _ (List.mem_of_getElem? (i := 22) rfl)))) ⟨by decide, by decide, by decide +kernel⟩ ⟨Nat.le_of_ble_eq_true rfl, Nat.le_of_ble_eq_true rfl⟩, S.2.2.2.2 _ (List.mem_cons_of_mem _ (vm_5 _ (List.mem_of_getElem? (i := 14) rfl))), S.2.2.2.2 _ (List.mem_cons_of_mem _ (vm_5 _ (List.mem_of_getElem? (i := 15) rfl)))⟩ rfl ⟨_, _, _, _, _, _, rfl, rfl, rfl, rfl⟩ hK hN hs (fun w1 w2 h1 h2 => vi_kept_tr (by decide +kernel) h1 h2) (fun q hq => Or.inr hq) ⟨Nat.le_refl _, Nat.le_refl _⟩⟩, (fun ct2 h2 => by cases h2)⟩), ?_⟩
      refine List.forall_mem_cons.mpr ⟨(List.forall_mem_cons.mpr ⟨⟨rfl, vi_crV S (m_Hubcascade_canGo_0 l D cy hst) (cwV 1 S.2.2.2.2 (vgV (vm_9 _ (List.mem_of_getElem? (i := 38) rfl)) (vm_9 _ (List.mem_of_getElem? (i := 39) rfl)) (vm_10 _ (List.mem_of_getElem? (i := 0) rfl)) (vm_4 _ (List.mem_of_getElem? (i := 20) rfl)) (vm_9 _ (List.mem_of_getElem? (i := 6) rfl))) rfl rfl rfl ⟨rfl, by decide, by decide, by decide +kernel⟩ ⟨Nat.le_of_ble_eq_true rfl, Nat.le_of_ble_eq_true rfl⟩) rfl ⟨_, _, _, _, _, _, rfl, rfl, rfl, rfl⟩ hK hN hs (fun w1 w2 h1 h2 => vi_kept_tr (by decide +kernel) h1 h2) (fun q hq => Or.inr hq) ⟨Nat.le_refl _, Nat.le_refl _⟩⟩, (fun ct2 h2 => by cases h2)⟩), ?_⟩
      refine List.forall_mem_cons.mpr ⟨(List.forall_mem_cons.mpr ⟨⟨rfl, vi_crV S (m_Hubcascade_takeTurn_0 l D cy hst) (cwV 1 S.2.2.2.2 (vgV (vm_10 _ (List.mem_of_getElem? (i := 7) rfl)) (vm_10 _ (List.mem_of_getElem? (i := 8) rfl)) (vm_10 _ (List.mem_of_getElem? (i := 9) rfl)) (vm_4 _ (List.mem_of_getElem? (i := 20) rfl)) (vm_9 _ (List.mem_of_getElem? (i := 37) rfl))) rfl rfl rfl ⟨rfl, by decide, by decide, by decide +kernel⟩ ⟨Nat.le_of_ble_eq_true rfl, Nat.le_of_ble_eq_true rfl⟩) rfl ⟨_, _, _, _, _, _, rfl, rfl, rfl, rfl⟩ hK hN hs (fun w1 w2 h1 h2 => vi_kept_tr (by decide +kernel) h1 h2) (fun q hq => Or.inr hq) ⟨Nat.le_refl _, Nat.le_refl _⟩⟩, (fun ct2 h2 => by cases h2)⟩), ?_⟩
      refine List.forall_mem_cons.mpr ⟨(List.forall_mem_cons.mpr ⟨⟨rfl, vi_crV S (m_Hubcascade_nextBulkPipe_0 l D cy hst) (cwV 0 S.2.2.2.2 (vgV (vm_10 _ (List.mem_of_getElem? (i := 10) rfl)) (vm_10 _ (List.mem_of_getElem? (i := 11) rfl)) (vm_10 _ (List.mem_of_getElem? (i := 12) rfl)) (vm_4 _ (List.mem_of_getElem? (i := 20) rfl)) (vm_10 _ (List.mem_of_getElem? (i := 1) rfl))) rfl rfl rfl ⟨rfl, by decide, by decide, by decide +kernel⟩ ⟨Nat.le_of_ble_eq_true rfl, Nat.le_of_ble_eq_true rfl⟩) rfl ⟨_, _, _, _, _, _, rfl, rfl, rfl, rfl⟩ hK hN hs (fun w1 w2 h1 h2 => vi_kept_tr (by decide +kernel) h1 h2) (fun q hq => Or.inr hq) ⟨Nat.le_refl _, Nat.le_refl _⟩⟩, (fun ct2 h2 => by cases h2)⟩), ?_⟩
      exact fun q hq => by cases hq
    · exact vi_Rt_of (ms := 0) hx hb hr hlocks (by decide +kernel) (Nat.le_refl _) (fun _ h => h) (fun H locs w1 v t q1 q2 q3 q4 q5 => by
        obtain ⟨alt, a1, a2⟩ := q4
        obtain ⟨y, ey⟩ := vw_int (by decide +kernel) a1 a2
        exact ⟨⟨y, w1, by rw [ey], by rw [q5]; exact q1, vi_tw_Z q3 trivial, q3.2.2.2⟩, q2.F q5⟩)
  have hw := vi_pts_ok hA rfl h6_frameF _ (List.mem_append_left _ (List.mem_cons_self))
  exact hw H locs ls [] _ ⟨hP2, hD2, hS2, ht2, lv_sub hl [1] rfl, fun i a h1 h2 => ?_, True.intro, fun f hf => by cases hf⟩
  match i, h1 with
  | 0, h1 => cases h1; exact ⟨_, hl.2.2 _ (List.mem_cons_of_mem _ List.mem_cons_self), Or.inr ⟨q0, x0, hq0, hadr, rfl⟩⟩
  | 1, h1 => cases h1; exact ⟨_, hl.2.2 _ List.mem_cons_self, vi_okI tk⟩
  | 2, h1 => cases h1; exact absurd rfl h2
  | 3, h1 => cases h1; exact absurd rfl h2
end VFC
