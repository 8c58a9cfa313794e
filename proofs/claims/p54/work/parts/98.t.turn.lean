section LGT
variable {p : Program} {l : Launch} {e : Env} {s : State} {m : MethodId} {below : List Frame} {meth : Method} {c : Code} {H : Heap} {locs : List Loc} {Q : State → Prop} {ls : Array Slot}
variable {D : va_G} {cy : Nat → ClassId} {σ0 : SG} {eda ca : Nat} {ia : Nat → Nat} {ad τ : List Nat} {q0 x0 av qv sa L a0 oa od t c0 n0 k N : Nat} {fd : Nat → Option Nat} {xs : Nat → Int32} {i : Int32}
theorem dL_law_28 : decode cL_law 28 = .ok (.iload 5, 2) := by decide +kernel
theorem dL_law_30 : decode cL_law 30 = .ok (.aload_n 0, 1) := by decide +kernel
theorem dL_law_31 : decode cL_law 31 = .ok (.arraylength, 1) := by decide +kernel
theorem dL_law_32 : decode cL_law 32 = .ok (.bipush 6, 2) := by decide +kernel
theorem dL_law_34 : decode cL_law 34 = .ok (.isub, 1) := by decide +kernel
theorem dL_law_35 : decode cL_law 35 = .ok (.if_icmp .gt 1835, 3) := by decide +kernel
theorem dL_law_38 : decode cL_law 38 = .ok (.aload_n 0, 1) := by decide +kernel
theorem dL_law_39 : decode cL_law 39 = .ok (.iload 5, 2) := by decide +kernel
theorem dL_law_41 : decode cL_law 41 = .ok (.iaload, 1) := by decide +kernel
theorem dL_law_42 : decode cL_law 42 = .ok (.bipush 63, 2) := by decide +kernel
theorem dL_law_44 : decode cL_law 44 = .ok (.iand, 1) := by decide +kernel
theorem dL_law_45 : decode cL_law 45 = .ok (.tableswitch 1819 0 52 #[227, 321, 401, 453, 481, 509, 537, 565, 593, 621, 649, 665, 705, 733, 773, 801, 829, 857, 885, 898, 911, 924, 990, 1018, 1046, 1086, 1114, 1154, 1182, 1210, 1238, 1266, 1306, 1372, 1385, 1398, 1426, 1439, 1455, 1471, 1487, 1500, 1540, 1592, 1632, 1645, 1673, 1703, 1731, 1759, 1776, 1793, 1806], 227) := by decide +kernel
theorem dL_law_1864 : decode cL_law 1864 = .ok (.iinc 5 6, 3) := by decide +kernel
theorem dL_law_1867 : decode cL_law 1867 = .ok (.goto (-1839), 3) := by decide +kernel
theorem LI_up (h : LI D cy s σ0 eda ia ad τ q0 x0 av qv fd a0 oa od t c0 n0 H locs k N) : LI D cy s σ0 eda ia ad τ q0 x0 av qv fd a0 oa od (t + 1) c0 n0 H locs k N := by
  obtain ⟨σ, K, g, n, S, hw, nn, w, f, fD, hB, hnn, hk, hSS, hV, hKa, hY, hH, hO, hD, ht9, hC⟩ := h
  exact ⟨σ, K, g, n, S, hw, nn, w, f, fD, hB, by omega, by omega, by omega, hV, hKa, hY, hH, hO, hD, ht9, CS_up hC (by omega)⟩
theorem lw_63 (x : Int32) : 0 ≤ (x &&& 63).toInt ∧ (x &&& 63).toInt ≤ 63 := by
  have h1 : (x &&& 63).toBitVec.toNat ≤ 63 := by
    rw [Int32.toBitVec_and, BitVec.toNat_and]
    exact Nat.and_le_right
  have h3 : (x &&& 63).toBitVec.toInt = ((x &&& 63).toBitVec.toNat : Int) := BitVec.toInt_eq_toNat_of_lt (by omega)
  have h5 : (x &&& 63).toInt = ((x &&& 63).toBitVec.toNat : Int) := h3
  rw [h5]
  omega
set_option maxRecDepth 100000 in
set_option maxHeartbeats 4000000 in
theorem lg_turn (X : LX p l s m meth c D cy σ0 eda ca ia ad τ q0 x0 sa L xs) (ht : t < 512) (hc0 : c0 ≤ 40000) (hn0 : n0 ≤ 400000) (hI : LI D cy s σ0 eda ia ad τ q0 x0 av qv fd a0 oa od t c0 n0 H locs k N) (hi : i.toInt = 6 * (t : Int)) (hL : 6 * t + 6 ≤ L) (hl : lv_has ls 9 [(5, .int i), (4, .ref od), (3, .ref oa), (2, .ref a0), (1, .ref x0), (0, .ref sa)]) (hE : ∀ (H : Heap) (locs : List Loc) (k N : Nat) (ls : Array Slot), LI D cy s σ0 eda ia ad τ q0 x0 av qv fd a0 oa od (t + 1) c0 n0 H locs k N → lv_has ls 9 [(5, .int i), (4, .ref od), (3, .ref oa), (2, .ref a0), (1, .ref x0), (0, .ref sa)] → W p l e room_1 s m #[Value.ref sa] below meth c H locs k N Q (F0 m 1864 ls [])) : W p l e room_1 s m #[Value.ref sa] below meth c H locs k N Q (F0 m 38 ls []) := by
  obtain ⟨F, hst, hs, hr0, hr1, hTT, hXs, hbl, hbA, hp0, hL9⟩ := id X
  obtain ⟨hx, hb, hml, hown, hts⟩ := id F.1
  obtain ⟨σ, K, g, n, S, hw, nn, w, f, fD, hB, -⟩ := id hI
  refine lv_aload_n hx hb dL_law_38 rfl (lv_at hl 5 rfl) ?_
  refine lv_iload hx hb dL_law_39 (lv_at hl 0 rfl) ?_
  refine va_sld hx hb hXs hbl hbA hB.1.2.2 (sg_vpin (by omega) (by omega) (by omega)).1 dL_law_41 ?_
  refine lv_bipush (v := 63) hx hb dL_law_42 (by decide) ?_
  refine lv_iand hx hb dL_law_44 ?_
  obtain ⟨z0, z1⟩ := lw_63 (xs i.toNatClampNeg)
  generalize (xs i.toNatClampNeg &&& 63) = z at z0 z1
  by_cases hz : z.toInt < 53
  · have all : ∀ j : Nat, j < 53 → ∃ (off : Int) (tgt : Nat), (#[227, 321, 401, 453, 481, 509, 537, 565, 593, 621, 649, 665, 705, 733, 773, 801, 829, 857, 885, 898, 911, 924, 990, 1018, 1046, 1086, 1114, 1154, 1182, 1210, 1238, 1266, 1306, 1372, 1385, 1398, 1426, 1439, 1455, 1471, 1487, 1500, 1540, 1592, 1632, 1645, 1673, 1703, 1731, 1759, 1776, 1793, 1806] : Array Int)[j]? = some off ∧ (45 : Int) + off = (tgt : Int) ∧ W p l e room_1 s m #[Value.ref sa] below meth c H locs k N Q (F0 m tgt ls []) := by
      intro j hj
      match j, hj with
      | 0, _ => exact ⟨227, 272, rfl, by decide, lg_0 X ht hc0 hn0 hI hi hL hl hE⟩
      | 1, _ => exact ⟨321, 366, rfl, by decide, lg_1 X ht hc0 hn0 hI hi hL hl hE⟩
      | 2, _ => exact ⟨401, 446, rfl, by decide, lg_2 X ht hc0 hn0 hI hi hL hl hE⟩
      | 3, _ => exact ⟨453, 498, rfl, by decide, lg_3 X ht hc0 hn0 hI hi hL hl hE⟩
      | 4, _ => exact ⟨481, 526, rfl, by decide, lg_4 X ht hc0 hn0 hI hi hL hl hE⟩
      | 5, _ => exact ⟨509, 554, rfl, by decide, lg_5 X ht hc0 hn0 hI hi hL hl hE⟩
      | 6, _ => exact ⟨537, 582, rfl, by decide, lg_6 X ht hc0 hn0 hI hi hL hl hE⟩
      | 7, _ => exact ⟨565, 610, rfl, by decide, lg_7 X ht hc0 hn0 hI hi hL hl hE⟩
      | 8, _ => exact ⟨593, 638, rfl, by decide, lg_8 X ht hc0 hn0 hI hi hL hl hE⟩
      | 9, _ => exact ⟨621, 666, rfl, by decide, lg_9 X ht hc0 hn0 hI hi hL hl hE⟩
      | 10, _ => exact ⟨649, 694, rfl, by decide, lg_10 X ht hc0 hn0 hI hi hL hl hE⟩
      | 11, _ => exact ⟨665, 710, rfl, by decide, lg_11 X ht hc0 hn0 hI hi hL hl hE⟩
      | 12, _ => exact ⟨705, 750, rfl, by decide, lg_12 X ht hc0 hn0 hI hi hL hl hE⟩
      | 13, _ => exact ⟨733, 778, rfl, by decide, lg_13 X ht hc0 hn0 hI hi hL hl hE⟩
      | 14, _ => exact ⟨773, 818, rfl, by decide, lg_14 X ht hc0 hn0 hI hi hL hl hE⟩
      | 15, _ => exact ⟨801, 846, rfl, by decide, lg_15 X ht hc0 hn0 hI hi hL hl hE⟩
      | 16, _ => exact ⟨829, 874, rfl, by decide, lg_16 X ht hc0 hn0 hI hi hL hl hE⟩
      | 17, _ => exact ⟨857, 902, rfl, by decide, lg_17 X ht hc0 hn0 hI hi hL hl hE⟩
      | 18, _ => exact ⟨885, 930, rfl, by decide, lg_18 X ht hc0 hn0 hI hi hL hl hE⟩
      | 19, _ => exact ⟨898, 943, rfl, by decide, lg_19 X ht hc0 hn0 hI hi hL hl hE⟩
      | 20, _ => exact ⟨911, 956, rfl, by decide, lg_20 X ht hc0 hn0 hI hi hL hl hE⟩
      | 21, _ => exact ⟨924, 969, rfl, by decide, lg_21 X ht hc0 hn0 hI hi hL hl hE⟩
      | 22, _ => exact ⟨990, 1035, rfl, by decide, lg_22 X ht hc0 hn0 hI hi hL hl hE⟩
      | 23, _ => exact ⟨1018, 1063, rfl, by decide, lg_23 X ht hc0 hn0 hI hi hL hl hE⟩
      | 24, _ => exact ⟨1046, 1091, rfl, by decide, lg_24 X ht hc0 hn0 hI hi hL hl hE⟩
      | 25, _ => exact ⟨1086, 1131, rfl, by decide, lg_25 X ht hc0 hn0 hI hi hL hl hE⟩
      | 26, _ => exact ⟨1114, 1159, rfl, by decide, lg_26 X ht hc0 hn0 hI hi hL hl hE⟩
      | 27, _ => exact ⟨1154, 1199, rfl, by decide, lg_27 X ht hc0 hn0 hI hi hL hl hE⟩
      | 28, _ => exact ⟨1182, 1227, rfl, by decide, lg_28 X ht hc0 hn0 hI hi hL hl hE⟩
      | 29, _ => exact ⟨1210, 1255, rfl, by decide, lg_29 X ht hc0 hn0 hI hi hL hl hE⟩
      | 30, _ => exact ⟨1238, 1283, rfl, by decide, lg_30 X ht hc0 hn0 hI hi hL hl hE⟩
      | 31, _ => exact ⟨1266, 1311, rfl, by decide, lg_31 X ht hc0 hn0 hI hi hL hl hE⟩
      | 32, _ => exact ⟨1306, 1351, rfl, by decide, lg_32 X ht hc0 hn0 hI hi hL hl hE⟩
      | 33, _ => exact ⟨1372, 1417, rfl, by decide, lg_33 X ht hc0 hn0 hI hi hL hl hE⟩
      | 34, _ => exact ⟨1385, 1430, rfl, by decide, lg_34 X ht hc0 hn0 hI hi hL hl hE⟩
      | 35, _ => exact ⟨1398, 1443, rfl, by decide, lg_35 X ht hc0 hn0 hI hi hL hl hE⟩
      | 36, _ => exact ⟨1426, 1471, rfl, by decide, lg_36 X ht hc0 hn0 hI hi hL hl hE⟩
      | 37, _ => exact ⟨1439, 1484, rfl, by decide, lg_37 X ht hc0 hn0 hI hi hL hl hE⟩
      | 38, _ => exact ⟨1455, 1500, rfl, by decide, lg_38 X ht hc0 hn0 hI hi hL hl hE⟩
      | 39, _ => exact ⟨1471, 1516, rfl, by decide, lg_39 X ht hc0 hn0 hI hi hL hl hE⟩
      | 40, _ => exact ⟨1487, 1532, rfl, by decide, lg_40 X ht hc0 hn0 hI hi hL hl hE⟩
      | 41, _ => exact ⟨1500, 1545, rfl, by decide, lg_41 X ht hc0 hn0 hI hi hL hl hE⟩
      | 42, _ => exact ⟨1540, 1585, rfl, by decide, lg_42 X ht hc0 hn0 hI hi hL hl hE⟩
      | 43, _ => exact ⟨1592, 1637, rfl, by decide, lg_43 X ht hc0 hn0 hI hi hL hl hE⟩
      | 44, _ => exact ⟨1632, 1677, rfl, by decide, lg_44 X ht hc0 hn0 hI hi hL hl hE⟩
      | 45, _ => exact ⟨1645, 1690, rfl, by decide, lg_45 X ht hc0 hn0 hI hi hL hl hE⟩
      | 46, _ => exact ⟨1673, 1718, rfl, by decide, lg_46 X ht hc0 hn0 hI hi hL hl hE⟩
      | 47, _ => exact ⟨1703, 1748, rfl, by decide, lg_47 X ht hc0 hn0 hI hi hL hl hE⟩
      | 48, _ => exact ⟨1731, 1776, rfl, by decide, lg_48 X ht hc0 hn0 hI hi hL hl hE⟩
      | 49, _ => exact ⟨1759, 1804, rfl, by decide, lg_49 X ht hc0 hn0 hI hi hL hl hE⟩
      | 50, _ => exact ⟨1776, 1821, rfl, by decide, lg_50 X ht hc0 hn0 hI hi hL hl hE⟩
      | 51, _ => exact ⟨1793, 1838, rfl, by decide, lg_51 X ht hc0 hn0 hI hi hL hl hE⟩
      | 52, _ => exact ⟨1806, 1851, rfl, by decide, lg_52 X ht hc0 hn0 hI hi hL hl hE⟩
      | j + 53, h => exact absurd h (by omega)
    obtain ⟨off, tgt, h1, h2, h3⟩ := all z.toInt.toNat (by omega)
    exact lv_tableIn hx hb dL_law_45 (by omega) (by omega) (by rw [Int.sub_zero]; exact h1) h2 h3
  · exact lv_tableOut (tgt := 1864) hx hb dL_law_45 (Or.inr (by omega)) (by decide) (hE _ _ _ _ _ (LI_up hI) hl)
set_option maxRecDepth 100000 in
set_option maxHeartbeats 4000000 in
/-- the loop -/
theorem lg_loop (X : LX p l s m meth c D cy σ0 eda ca ia ad τ q0 x0 sa L xs) (hc0 : c0 ≤ 40000) (hn0 : n0 ≤ 400000) (hR : ∀ (H : Heap) (locs : List Loc) (k N : Nat) (ls : Array Slot), k ≤ 606006 → N ≤ 7060000 → va_S (sgA σ0 s.heap.size) s.heap H locs → W p l e room_1 s m #[Value.ref sa] below meth c H locs k N Q (F0 m 1870 ls [])) : ∀ (d t : Nat) (i : Int32) (H : Heap) (locs : List Loc) (k N : Nat) (ls : Array Slot), t + d = 512 → LI D cy s σ0 eda ia ad τ q0 x0 av qv fd a0 oa od t c0 n0 H locs k N → i.toInt = 6 * (t : Int) → lv_has ls 9 [(5, .int i), (4, .ref od), (3, .ref oa), (2, .ref a0), (1, .ref x0), (0, .ref sa)] → W p l e room_1 s m #[Value.ref sa] below meth c H locs k N Q (F0 m 28 ls []) := by
  obtain ⟨F, hst, hs, hr0, hr1, hTT, hXs, hbl, hbA, hp0, hL9⟩ := id X
  obtain ⟨hx, hb, hml, hown, hts⟩ := id F.1
  intro d
  induction d with
  | zero => 
    intro t i H locs k N ls htd hI hi hl
    obtain ⟨σ, K, g, n, S, hw, nn, w, f, fD, hB, hnn, hk, -⟩ := id hI
    refine lv_iload hx hb dL_law_28 (lv_at hl 0 rfl) ?_
    refine lv_aload_n hx hb dL_law_30 rfl (lv_at hl 5 rfl) ?_
    refine va_slen hx hb hXs hbl hbA hB.1.2.2 dL_law_31 ?_
    refine lv_bipush (v := 6) hx hb dL_law_32 (by decide) ?_
    refine lv_isub hx hb dL_law_34 ?_
    have e6 : (Int32.ofNat L - 6).toInt = (L : Int) - 6 := by
      have e0 : (Int32.ofNat L).toInt = (L : Int) := Int32.toInt_ofNat_of_lt (by omega)
      rw [Int32.toInt_sub, e0, show (6 : Int32).toInt = 6 from rfl, vi_bmod (by omega) (by omega)]
    refine lv_icmp_gt (tgt := 1870) hx hb dL_law_35 (by decide) (fun _ => hR _ _ _ _ _ (by omega) (by have := hB.2.2; omega) hB.1.2.2) (fun h9 => ?_)
    have h8 : 6 * t + 6 ≤ L := by
      rw [Int32.lt_iff_toInt_lt] at h9
      omega
    exact absurd hL9 (by omega)
  | succ d ih => 
    intro t i H locs k N ls htd hI hi hl
    obtain ⟨σ, K, g, n, S, hw, nn, w, f, fD, hB, hnn, hk, -⟩ := id hI
    refine lv_iload hx hb dL_law_28 (lv_at hl 0 rfl) ?_
    refine lv_aload_n hx hb dL_law_30 rfl (lv_at hl 5 rfl) ?_
    refine va_slen hx hb hXs hbl hbA hB.1.2.2 dL_law_31 ?_
    refine lv_bipush (v := 6) hx hb dL_law_32 (by decide) ?_
    refine lv_isub hx hb dL_law_34 ?_
    have e6 : (Int32.ofNat L - 6).toInt = (L : Int) - 6 := by
      have e0 : (Int32.ofNat L).toInt = (L : Int) := Int32.toInt_ofNat_of_lt (by omega)
      rw [Int32.toInt_sub, e0, show (6 : Int32).toInt = 6 from rfl, vi_bmod (by omega) (by omega)]
    refine lv_icmp_gt (tgt := 1870) hx hb dL_law_35 (by decide) (fun _ => hR _ _ _ _ _ (by omega) (by have := hB.2.2; omega) hB.1.2.2) (fun h9 => ?_)
    have h8 : 6 * t + 6 ≤ L := by
      rw [Int32.lt_iff_toInt_lt] at h9
      omega
    refine lg_turn X (by omega) hc0 hn0 hI hi h8 hl (fun H locs k N ls hI hl => ?_)
    refine lv_iinc (k := 0) (v := i + 6) (lv' := [(5, .int (i + 6)), (4, .ref od), (3, .ref oa), (2, .ref a0), (1, .ref x0), (0, .ref sa)]) hx hb dL_law_1864 hl rfl rfl (by decide) rfl (fun ls hl => ?_)
    refine lv_goto (tgt := 28) hx hb dL_law_1867 (by decide) ?_
    exact ih (t + 1) (i + 6) H locs k N ls (by omega) hI (by rw [Int32.toInt_add, show (6 : Int32).toInt = 6 from rfl, vi_bmod (by omega) (by omega)]; omega) hl
end LGT
